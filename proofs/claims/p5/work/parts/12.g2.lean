def po_X2_clear (τ : Tau) (k : Nat)    (u : Tau) : Prop := Inv u ∧ Fr [(k, 0), (k, 1), (k, 2), (k, 3), (k, 4)] [(k + 2), (k + 3), (k + 4)] τ u
set_option maxHeartbeats 4000000 in
set_option maxRecDepth 100000 in
theorem c_X2_clear (l : Launch) (G : Gx) (τ : Tau) (hI : Inv τ) (k : Nat) (hk_k : k < NC) (hkd_k : kd k = 4) : Cv l G yX2_clear cX2_clear 1 1 23 [.ref (G.2.2.2.1 k)] τ (po_X2_clear τ k   ) := by
  unfold Cv
  refine C_of (own := RX2) (by decide) rfl (Nat.le_of_ble_eq_true rfl) ?_
  intro p e s m below meth c ls S hr hlk X hl
  have hl : lv_has ls 1 [(0, .ref (G.2.2.2.1 k))] := hl
  refine r_aload_n S dX2_clear_0 rfl (lv_at hl 0 rfl) ?_
  refine r_iconst S dX2_clear_1 (by decide) (fun v1 z2 => ?_)
  have r3 := R_eq z2
  refine r_put (K := 4) (ty := .int) S X hk_k hkd_k lk2_34_2 (fun _ => ⟨_, rfl, Nat.le_of_ble_eq_true rfl, rfl⟩) (fun _ _ _ h => by cases h; exact ⟨rfl, rfl⟩) rfl rfl dX2_clear_2 (fun t4 H lc M5 X6 => ?_)
  have I7 := Inv_mu hI M5 (show Rg (kd k) 0 v1 from by rw [hkd_k]; exact (R_of (lo := 0) (hi := 8) r3 rfl))
  have F8 : Fr [(k, 0), (k, 1), (k, 2), (k, 3), (k, 4)] [(k + 2), (k + 3), (k + 4)] τ t4 := Fr_mu Fr_rfl M5 (by simp [fz])
  refine r_aload_n S dX2_clear_5 rfl (lv_at hl 0 rfl) ?_
  refine r_iconst S dX2_clear_6 (by decide) (fun v9 z10 => ?_)
  have r11 := R_eq z10
  refine r_put (K := 4) (ty := .int) S X6 hk_k hkd_k lk2_38_2 (fun _ => ⟨_, rfl, Nat.le_of_ble_eq_true rfl, rfl⟩) (fun _ _ _ h => by cases h; exact ⟨rfl, rfl⟩) rfl rfl dX2_clear_7 (fun t12 H lc M13 X14 => ?_)
  have I15 := Inv_mu I7 M13 (show Rg (kd k) 1 v9 from by rw [hkd_k]; exact (R_of (lo := 0) (hi := 9) r11 rfl))
  have F16 : Fr [(k, 0), (k, 1), (k, 2), (k, 3), (k, 4)] [(k + 2), (k + 3), (k + 4)] τ t12 := Fr_mu F8 M13 (by simp [fz])
  refine r_aload_n S dX2_clear_10 rfl (lv_at hl 0 rfl) ?_
  refine r_iconst S dX2_clear_11 (by decide) (fun v17 z18 => ?_)
  have r19 := R_eq z18
  refine r_put (K := 4) (ty := .int) S X14 hk_k hkd_k lk2_41_2 (fun _ => ⟨_, rfl, Nat.le_of_ble_eq_true rfl, rfl⟩) (fun _ _ _ h => by cases h; exact ⟨rfl, rfl⟩) rfl rfl dX2_clear_12 (fun t20 H lc M21 X22 => ?_)
  have I23 := Inv_mu I15 M21 (show Rg (kd k) 2 v17 from by rw [hkd_k]; exact (R_of (lo := 0) (hi := 9) r19 rfl))
  have F24 : Fr [(k, 0), (k, 1), (k, 2), (k, 3), (k, 4)] [(k + 2), (k + 3), (k + 4)] τ t20 := Fr_mu F16 M21 (by simp [fz])
  refine r_aload_n S dX2_clear_15 rfl (lv_at hl 0 rfl) ?_
  refine r_iconst S dX2_clear_16 (by decide) (fun v25 z26 => ?_)
  have r27 := R_eq z26
  refine r_put (K := 4) (ty := .int) S X22 hk_k hkd_k lk2_44_2 (fun _ => ⟨_, rfl, Nat.le_of_ble_eq_true rfl, rfl⟩) (fun _ _ _ h => by cases h; exact ⟨rfl, rfl⟩) rfl rfl dX2_clear_17 (fun t28 H lc M29 X30 => ?_)
  have I31 := Inv_mu I23 M29 (show Rg (kd k) 3 v25 from by rw [hkd_k]; exact (R_of (lo := 0) (hi := 10) r27 rfl))
  have F32 : Fr [(k, 0), (k, 1), (k, 2), (k, 3), (k, 4)] [(k + 2), (k + 3), (k + 4)] τ t28 := Fr_mu F24 M29 (by simp [fz])
  refine r_aload_n S dX2_clear_20 rfl (lv_at hl 0 rfl) ?_
  refine r_iconst S dX2_clear_21 (by decide) (fun v33 z34 => ?_)
  have r35 := R_eq z34
  refine r_put (K := 4) (ty := .int) S X30 hk_k hkd_k lk2_47_2 (fun _ => ⟨_, rfl, Nat.le_of_ble_eq_true rfl, rfl⟩) (fun _ _ _ h => by cases h; exact ⟨rfl, rfl⟩) rfl rfl dX2_clear_22 (fun t36 H lc M37 X38 => ?_)
  have I39 := Inv_mu I31 M37 (by rw [hkd_k]; exact R_any v33)
  have F40 : Fr [(k, 0), (k, 1), (k, 2), (k, 3), (k, 4)] [(k + 2), (k + 3), (k + 4)] τ t36 := Fr_mu F32 M37 (by simp [fz])
  refine r_aload_n S dX2_clear_25 rfl (lv_at hl 0 rfl) ?_
  refine r_get (K := 4) (v := .ref (G.2.2.2.1 (k + 2))) S X38 hk_k hkd_k lk2_15_2 (fun _ => ⟨_, rfl, rfl⟩) dX2_clear_26 ?_
  refine r_iconst S dX2_clear_29 (by decide) (fun v41 z42 => ?_)
  have r43 := R_eq z42
  refine r_kv (q_S (As := [.ref (G.2.2.2.1 (k + 2)), .int v41]) (rest := []) S X38 (c_fill_parent l G t36 I39 (k + 2) (lay4_2 hk_k hkd_k).1 (lay4_2 hk_k hkd_k).2 v41 (R_of (lo := -1) (hi := 9) r43 rfl)) ck2_50 ⟨Nat.le_of_ble_eq_true rfl, Nat.le_of_ble_eq_true rfl⟩ rfl hl.1 rfl (Nat.le_of_ble_eq_true rfl) dX2_clear_30 ⟨Nat.le_refl 0, Nat.le_refl 0⟩) X38 (fun t46 H lc q44 X45 => ?_)
  unfold po_fill_parent at q44
  obtain ⟨q47, q48⟩ := q44
  have F49 : Fr [(k, 0), (k, 1), (k, 2), (k, 3), (k, 4)] [(k + 2), (k + 3), (k + 4)] τ t46 := Fr_call F40 q48 (by simp [fz])
  refine r_aload_n S dX2_clear_33 rfl (lv_at hl 0 rfl) ?_
  refine r_get (K := 4) (v := .ref (G.2.2.2.1 (k + 3))) S X45 hk_k hkd_k lk2_18_2 (fun _ => ⟨_, rfl, rfl⟩) dX2_clear_34 ?_
  refine r_iconst S dX2_clear_37 (by decide) (fun v50 z51 => ?_)
  have r52 := R_eq z51
  refine r_kv (q_S (As := [.ref (G.2.2.2.1 (k + 3)), .int v50]) (rest := []) S X45 (c_fill_kin l G t46 q47 (k + 3) (lay4_3 hk_k hkd_k).1 (lay4_3 hk_k hkd_k).2 v50 (R_of (lo := 0) (hi := 1023) r52 rfl)) ck2_50 ⟨Nat.le_of_ble_eq_true rfl, Nat.le_of_ble_eq_true rfl⟩ rfl hl.1 rfl (Nat.le_of_ble_eq_true rfl) dX2_clear_38 ⟨Nat.le_refl 0, Nat.le_refl 0⟩) X45 (fun t55 H lc q53 X54 => ?_)
  unfold po_fill_kin at q53
  obtain ⟨q56, q57⟩ := q53
  have F58 : Fr [(k, 0), (k, 1), (k, 2), (k, 3), (k, 4)] [(k + 2), (k + 3), (k + 4)] τ t55 := Fr_call F49 q57 (by simp [fz])
  refine r_aload_n S dX2_clear_41 rfl (lv_at hl 0 rfl) ?_
  refine r_get (K := 4) (v := .ref (G.2.2.2.1 (k + 4))) S X54 hk_k hkd_k lk2_21_2 (fun _ => ⟨_, rfl, rfl⟩) dX2_clear_42 ?_
  refine r_iconst S dX2_clear_45 (by decide) (fun v59 z60 => ?_)
  have r61 := R_eq z60
  refine r_kv (q_S (As := [.ref (G.2.2.2.1 (k + 4)), .int v59]) (rest := []) S X54 (c_fill_opinion l G t55 q56 (k + 4) (lay4_4 hk_k hkd_k).1 (lay4_4 hk_k hkd_k).2 v59 (R_of (lo := -9) (hi := 9) r61 rfl)) ck2_50 ⟨Nat.le_of_ble_eq_true rfl, Nat.le_of_ble_eq_true rfl⟩ rfl hl.1 rfl (Nat.le_of_ble_eq_true rfl) dX2_clear_46 ⟨Nat.le_refl 0, Nat.le_refl 0⟩) X54 (fun t64 H lc q62 X63 => ?_)
  unfold po_fill_opinion at q62
  obtain ⟨q65, q66⟩ := q62
  have F67 : Fr [(k, 0), (k, 1), (k, 2), (k, 3), (k, 4)] [(k + 2), (k + 3), (k + 4)] τ t64 := Fr_call F58 q66 (by simp [fz])
  exact r_vret S hr hlk X63 ⟨q65, F67⟩ dX2_clear_49
def po_pcopy_23_4 (τ : Tau)     (u : Tau) : Prop := Inv u ∧ Fr [(23, 0), (23, 1), (23, 2), (23, 3), (23, 4)] [24, 25, 26, 27, 228, 229] τ u ∧ u 23 2 = τ 4 2 ∧ u 23 0 = τ 4 0 ∧ u 23 1 = τ 4 1 ∧ u 23 3 = τ 4 3 ∧ u 23 4 = τ 4 4
set_option maxHeartbeats 4000000 in
set_option maxRecDepth 100000 in
theorem c_pcopy_23_4 (l : Launch) (G : Gx) (τ : Tau) (hI : Inv τ) : Cv l G yX2_copyFrom cX2_copyFrom 2 1 60 [.ref (G.2.2.2.1 23), .ref (G.2.2.2.1 4)] τ (po_pcopy_23_4 τ    ) := by
  unfold Cv
  refine C_of (own := RX2) (by decide) rfl (Nat.le_of_ble_eq_true rfl) ?_
  intro p e s m below meth c ls S hr hlk X hl
  have hl : lv_has ls 2 [(0, .ref (G.2.2.2.1 23)), (1, .ref (G.2.2.2.1 4))] := hl
  refine r_aload_n S dX2_copyFrom_0 rfl (lv_at hl 0 rfl) ?_
  refine r_aload_n S dX2_copyFrom_1 rfl (lv_at hl 1 rfl) ?_
  refine r_getn (K := 4) S X (Nat.le_of_ble_eq_true rfl) rfl lk2_34_2 (fun _ => ⟨_, rfl, rfl⟩) dX2_copyFrom_2 (fun v1 z2 => ?_)
  have r3 : R (0) (8) v1 := rd hI rfl z2
  refine r_put (K := 4) (ty := .int) S X (Nat.le_of_ble_eq_true rfl) rfl lk2_34_2 (fun _ => ⟨_, rfl, Nat.le_of_ble_eq_true rfl, rfl⟩) (fun _ _ _ h => by cases h; exact ⟨rfl, rfl⟩) rfl rfl dX2_copyFrom_5 (fun t4 H lc M5 X6 => ?_)
  have I7 := Inv_mu hI M5 (show Rg (kd 23) 0 v1 from (R_of (lo := 0) (hi := 8) r3 rfl))
  have F8 : Fr [(23, 0), (23, 1), (23, 2), (23, 3), (23, 4)] [24, 25, 26, 27, 228, 229] τ t4 := Fr_mu Fr_rfl M5 (by decide)
  refine r_aload_n S dX2_copyFrom_8 rfl (lv_at hl 0 rfl) ?_
  refine r_aload_n S dX2_copyFrom_9 rfl (lv_at hl 1 rfl) ?_
  refine r_getn (K := 4) S X6 (Nat.le_of_ble_eq_true rfl) rfl lk2_38_2 (fun _ => ⟨_, rfl, rfl⟩) dX2_copyFrom_10 (fun v9 z10 => ?_)
  have r11 : R (0) (9) v9 := rd I7 rfl z10
  refine r_put (K := 4) (ty := .int) S X6 (Nat.le_of_ble_eq_true rfl) rfl lk2_38_2 (fun _ => ⟨_, rfl, Nat.le_of_ble_eq_true rfl, rfl⟩) (fun _ _ _ h => by cases h; exact ⟨rfl, rfl⟩) rfl rfl dX2_copyFrom_13 (fun t12 H lc M13 X14 => ?_)
  have I15 := Inv_mu I7 M13 (show Rg (kd 23) 1 v9 from (R_of (lo := 0) (hi := 9) r11 rfl))
  have F16 : Fr [(23, 0), (23, 1), (23, 2), (23, 3), (23, 4)] [24, 25, 26, 27, 228, 229] τ t12 := Fr_mu F8 M13 (by decide)
  refine r_aload_n S dX2_copyFrom_16 rfl (lv_at hl 0 rfl) ?_
  refine r_aload_n S dX2_copyFrom_17 rfl (lv_at hl 1 rfl) ?_
  refine r_getn (K := 4) S X14 (Nat.le_of_ble_eq_true rfl) rfl lk2_41_2 (fun _ => ⟨_, rfl, rfl⟩) dX2_copyFrom_18 (fun v17 z18 => ?_)
  have r19 : R (0) (9) v17 := rd I15 rfl z18
  refine r_put (K := 4) (ty := .int) S X14 (Nat.le_of_ble_eq_true rfl) rfl lk2_41_2 (fun _ => ⟨_, rfl, Nat.le_of_ble_eq_true rfl, rfl⟩) (fun _ _ _ h => by cases h; exact ⟨rfl, rfl⟩) rfl rfl dX2_copyFrom_21 (fun t20 H lc M21 X22 => ?_)
  have I23 := Inv_mu I15 M21 (show Rg (kd 23) 2 v17 from (R_of (lo := 0) (hi := 9) r19 rfl))
  have F24 : Fr [(23, 0), (23, 1), (23, 2), (23, 3), (23, 4)] [24, 25, 26, 27, 228, 229] τ t20 := Fr_mu F16 M21 (by decide)
  refine r_aload_n S dX2_copyFrom_24 rfl (lv_at hl 0 rfl) ?_
  refine r_aload_n S dX2_copyFrom_25 rfl (lv_at hl 1 rfl) ?_
  refine r_getn (K := 4) S X22 (Nat.le_of_ble_eq_true rfl) rfl lk2_44_2 (fun _ => ⟨_, rfl, rfl⟩) dX2_copyFrom_26 (fun v25 z26 => ?_)
  have r27 : R (0) (10) v25 := rd I23 rfl z26
  refine r_put (K := 4) (ty := .int) S X22 (Nat.le_of_ble_eq_true rfl) rfl lk2_44_2 (fun _ => ⟨_, rfl, Nat.le_of_ble_eq_true rfl, rfl⟩) (fun _ _ _ h => by cases h; exact ⟨rfl, rfl⟩) rfl rfl dX2_copyFrom_29 (fun t28 H lc M29 X30 => ?_)
  have I31 := Inv_mu I23 M29 (show Rg (kd 23) 3 v25 from (R_of (lo := 0) (hi := 10) r27 rfl))
  have F32 : Fr [(23, 0), (23, 1), (23, 2), (23, 3), (23, 4)] [24, 25, 26, 27, 228, 229] τ t28 := Fr_mu F24 M29 (by decide)
  refine r_aload_n S dX2_copyFrom_32 rfl (lv_at hl 0 rfl) ?_
  refine r_aload_n S dX2_copyFrom_33 rfl (lv_at hl 1 rfl) ?_
  refine r_getn (K := 4) S X30 (Nat.le_of_ble_eq_true rfl) rfl lk2_47_2 (fun _ => ⟨_, rfl, rfl⟩) dX2_copyFrom_34 (fun v33 z34 => ?_)
  have r36 := R_any v33
  refine r_put (K := 4) (ty := .int) S X30 (Nat.le_of_ble_eq_true rfl) rfl lk2_47_2 (fun _ => ⟨_, rfl, Nat.le_of_ble_eq_true rfl, rfl⟩) (fun _ _ _ h => by cases h; exact ⟨rfl, rfl⟩) rfl rfl dX2_copyFrom_37 (fun t37 H lc M38 X39 => ?_)
  have I40 := Inv_mu I31 M38 (R_any v33)
  have F41 : Fr [(23, 0), (23, 1), (23, 2), (23, 3), (23, 4)] [24, 25, 26, 27, 228, 229] τ t37 := Fr_mu F32 M38 (by decide)
  refine r_aload_n S dX2_copyFrom_40 rfl (lv_at hl 1 rfl) ?_
  refine r_get (K := 4) (v := .ref (G.2.2.2.1 5)) S X39 (Nat.le_of_ble_eq_true rfl) rfl lk2_9_2 (fun _ => ⟨_, rfl, rfl⟩) dX2_copyFrom_41 ?_
  refine r_iconst S dX2_copyFrom_44 (by decide) (fun v42 z43 => ?_)
  have r44 := R_eq z43
  refine r_aload_n S dX2_copyFrom_45 rfl (lv_at hl 0 rfl) ?_
  refine r_get (K := 4) (v := .ref (G.2.2.2.1 24)) S X39 (Nat.le_of_ble_eq_true rfl) rfl lk2_9_2 (fun _ => ⟨_, rfl, rfl⟩) dX2_copyFrom_46 ?_
  refine r_iconst S dX2_copyFrom_49 (by decide) (fun v45 z46 => ?_)
  have r47 := R_eq z46
  refine r_aload_n S dX2_copyFrom_50 rfl (lv_at hl 0 rfl) ?_
  refine r_get (K := 4) (v := .ref (G.2.2.2.1 24)) S X39 (Nat.le_of_ble_eq_true rfl) rfl lk2_9_2 (fun _ => ⟨_, rfl, rfl⟩) dX2_copyFrom_51 ?_
  refine r_alen (x := (0, .inl fun _ => 0)) (n := 10) (K := 5) (t0 := 0) S X39 (Nat.le_of_ble_eq_true rfl) rfl (fun _ => ⟨_, rfl⟩) rfl (by decide) dX2_copyFrom_54 (fun v48 z49 => ?_)
  have r50 := R_eq z49
  refine r_copy (K2 := 5) (n := 10) (K := 5) S X39 (Nat.le_of_ble_eq_true rfl) rfl (Nat.le_of_ble_eq_true rfl) rfl (fun _ _ _ => rfl) (fun _ _ _ => rfl) hl.1 kw9 kw10 kw11 kw12 (by omega) (by omega) (by omega) ⟨Nat.le_of_ble_eq_true rfl, by decide⟩ dX2_copyFrom_55 (fun t52 H lc C53 X51 => ?_)
  have I54 := Inv_cp (K := 5) (K2 := 5) I40 C53 rfl rfl (fun _ _ h => h)
  have F55 : Fr [(23, 0), (23, 1), (23, 2), (23, 3), (23, 4)] [24, 25, 26, 27, 228, 229] τ t52 := Fr_cp F41 C53 (by decide)
  refine r_aload_n S dX2_copyFrom_58 rfl (lv_at hl 1 rfl) ?_
  refine r_get (K := 4) (v := .ref (G.2.2.2.1 6)) S X51 (Nat.le_of_ble_eq_true rfl) rfl lk2_15_2 (fun _ => ⟨_, rfl, rfl⟩) dX2_copyFrom_59 ?_
  refine r_iconst S dX2_copyFrom_62 (by decide) (fun v56 z57 => ?_)
  have r58 := R_eq z57
  refine r_aload_n S dX2_copyFrom_63 rfl (lv_at hl 0 rfl) ?_
  refine r_get (K := 4) (v := .ref (G.2.2.2.1 25)) S X51 (Nat.le_of_ble_eq_true rfl) rfl lk2_15_2 (fun _ => ⟨_, rfl, rfl⟩) dX2_copyFrom_64 ?_
  refine r_iconst S dX2_copyFrom_67 (by decide) (fun v59 z60 => ?_)
  have r61 := R_eq z60
  refine r_aload_n S dX2_copyFrom_68 rfl (lv_at hl 0 rfl) ?_
  refine r_get (K := 4) (v := .ref (G.2.2.2.1 25)) S X51 (Nat.le_of_ble_eq_true rfl) rfl lk2_15_2 (fun _ => ⟨_, rfl, rfl⟩) dX2_copyFrom_69 ?_
  refine r_alen (x := (0, .inl fun _ => 0)) (n := 10) (K := 6) (t0 := 0) S X51 (Nat.le_of_ble_eq_true rfl) rfl (fun _ => ⟨_, rfl⟩) rfl (by decide) dX2_copyFrom_72 (fun v62 z63 => ?_)
  have r64 := R_eq z63
  refine r_copy (K2 := 6) (n := 10) (K := 6) S X51 (Nat.le_of_ble_eq_true rfl) rfl (Nat.le_of_ble_eq_true rfl) rfl (fun _ _ _ => rfl) (fun _ _ _ => rfl) hl.1 kw9 kw10 kw11 kw12 (by omega) (by omega) (by omega) ⟨Nat.le_of_ble_eq_true rfl, by decide⟩ dX2_copyFrom_73 (fun t66 H lc C67 X65 => ?_)
  have I68 := Inv_cp (K := 6) (K2 := 6) I54 C67 rfl rfl (fun _ _ h => h)
  have F69 : Fr [(23, 0), (23, 1), (23, 2), (23, 3), (23, 4)] [24, 25, 26, 27, 228, 229] τ t66 := Fr_cp F55 C67 (by decide)
  refine r_aload_n S dX2_copyFrom_76 rfl (lv_at hl 1 rfl) ?_
  refine r_get (K := 4) (v := .ref (G.2.2.2.1 7)) S X65 (Nat.le_of_ble_eq_true rfl) rfl lk2_18_2 (fun _ => ⟨_, rfl, rfl⟩) dX2_copyFrom_77 ?_
  refine r_iconst S dX2_copyFrom_80 (by decide) (fun v70 z71 => ?_)
  have r72 := R_eq z71
  refine r_aload_n S dX2_copyFrom_81 rfl (lv_at hl 0 rfl) ?_
  refine r_get (K := 4) (v := .ref (G.2.2.2.1 26)) S X65 (Nat.le_of_ble_eq_true rfl) rfl lk2_18_2 (fun _ => ⟨_, rfl, rfl⟩) dX2_copyFrom_82 ?_
  refine r_iconst S dX2_copyFrom_85 (by decide) (fun v73 z74 => ?_)
  have r75 := R_eq z74
  refine r_aload_n S dX2_copyFrom_86 rfl (lv_at hl 0 rfl) ?_
  refine r_get (K := 4) (v := .ref (G.2.2.2.1 26)) S X65 (Nat.le_of_ble_eq_true rfl) rfl lk2_18_2 (fun _ => ⟨_, rfl, rfl⟩) dX2_copyFrom_87 ?_
  refine r_alen (x := (0, .inl fun _ => 0)) (n := 10) (K := 7) (t0 := 0) S X65 (Nat.le_of_ble_eq_true rfl) rfl (fun _ => ⟨_, rfl⟩) rfl (by decide) dX2_copyFrom_90 (fun v76 z77 => ?_)
  have r78 := R_eq z77
  refine r_copy (K2 := 7) (n := 10) (K := 7) S X65 (Nat.le_of_ble_eq_true rfl) rfl (Nat.le_of_ble_eq_true rfl) rfl (fun _ _ _ => rfl) (fun _ _ _ => rfl) hl.1 kw9 kw10 kw11 kw12 (by omega) (by omega) (by omega) ⟨Nat.le_of_ble_eq_true rfl, by decide⟩ dX2_copyFrom_91 (fun t80 H lc C81 X79 => ?_)
  have I82 := Inv_cp (K := 7) (K2 := 7) I68 C81 rfl rfl (fun _ _ h => h)
  have F83 : Fr [(23, 0), (23, 1), (23, 2), (23, 3), (23, 4)] [24, 25, 26, 27, 228, 229] τ t80 := Fr_cp F69 C81 (by decide)
  refine r_aload_n S dX2_copyFrom_94 rfl (lv_at hl 1 rfl) ?_
  refine r_get (K := 4) (v := .ref (G.2.2.2.1 8)) S X79 (Nat.le_of_ble_eq_true rfl) rfl lk2_21_2 (fun _ => ⟨_, rfl, rfl⟩) dX2_copyFrom_95 ?_
  refine r_iconst S dX2_copyFrom_98 (by decide) (fun v84 z85 => ?_)
  have r86 := R_eq z85
  refine r_aload_n S dX2_copyFrom_99 rfl (lv_at hl 0 rfl) ?_
  refine r_get (K := 4) (v := .ref (G.2.2.2.1 27)) S X79 (Nat.le_of_ble_eq_true rfl) rfl lk2_21_2 (fun _ => ⟨_, rfl, rfl⟩) dX2_copyFrom_100 ?_
  refine r_iconst S dX2_copyFrom_103 (by decide) (fun v87 z88 => ?_)
  have r89 := R_eq z88
  refine r_aload_n S dX2_copyFrom_104 rfl (lv_at hl 0 rfl) ?_
  refine r_get (K := 4) (v := .ref (G.2.2.2.1 27)) S X79 (Nat.le_of_ble_eq_true rfl) rfl lk2_21_2 (fun _ => ⟨_, rfl, rfl⟩) dX2_copyFrom_105 ?_
  refine r_alen (x := (0, .inl fun _ => 0)) (n := 90) (K := 8) (t0 := 0) S X79 (Nat.le_of_ble_eq_true rfl) rfl (fun _ => ⟨_, rfl⟩) rfl (by decide) dX2_copyFrom_108 (fun v90 z91 => ?_)
  have r92 := R_eq z91
  refine r_copy (K2 := 8) (n := 90) (K := 8) S X79 (Nat.le_of_ble_eq_true rfl) rfl (Nat.le_of_ble_eq_true rfl) rfl (fun _ _ _ => rfl) (fun _ _ _ => rfl) hl.1 kw9 kw10 kw11 kw12 (by omega) (by omega) (by omega) ⟨Nat.le_of_ble_eq_true rfl, by decide⟩ dX2_copyFrom_109 (fun t94 H lc C95 X93 => ?_)
  have I96 := Inv_cp (K := 8) (K2 := 8) I82 C95 rfl rfl (fun _ _ h => h)
  have F97 : Fr [(23, 0), (23, 1), (23, 2), (23, 3), (23, 4)] [24, 25, 26, 27, 228, 229] τ t94 := Fr_cp F83 C95 (by decide)
  refine r_aload_n S dX2_copyFrom_112 rfl (lv_at hl 1 rfl) ?_
  refine r_get (K := 4) (v := .ref (G.2.2.2.1 9)) S X93 (Nat.le_of_ble_eq_true rfl) rfl lk2_24_2 (fun _ => ⟨_, rfl, rfl⟩) dX2_copyFrom_113 ?_
  refine r_iconst S dX2_copyFrom_116 (by decide) (fun v98 z99 => ?_)
  have r100 := R_eq z99
  refine r_aload_n S dX2_copyFrom_117 rfl (lv_at hl 0 rfl) ?_
  refine r_get (K := 4) (v := .ref (G.2.2.2.1 28)) S X93 (Nat.le_of_ble_eq_true rfl) rfl lk2_24_2 (fun _ => ⟨_, rfl, rfl⟩) dX2_copyFrom_118 ?_
  refine r_iconst S dX2_copyFrom_121 (by decide) (fun v101 z102 => ?_)
  have r103 := R_eq z102
  refine r_aload_n S dX2_copyFrom_122 rfl (lv_at hl 0 rfl) ?_
  refine r_get (K := 4) (v := .ref (G.2.2.2.1 28)) S X93 (Nat.le_of_ble_eq_true rfl) rfl lk2_24_2 (fun _ => ⟨_, rfl, rfl⟩) dX2_copyFrom_123 ?_
  refine r_alen (x := (0, .inl fun _ => 0)) (n := 9) (K := 9) (t0 := 1) S X93 (Nat.le_of_ble_eq_true rfl) rfl (fun _ => ⟨_, rfl⟩) rfl (by decide) dX2_copyFrom_126 (fun v104 z105 => ?_)
  have r106 := R_eq z105
  refine r_copyJ (n := 9) (K := 9) S X93 (Nat.le_of_ble_eq_true rfl) rfl (Nat.le_of_ble_eq_true rfl) rfl (fun _ _ _ => rfl) hl.1 kw9 kw10 kw11 kw12 (by omega) (by omega) (by omega) ⟨Nat.le_of_ble_eq_true rfl, by decide⟩ dX2_copyFrom_127 (fun t108 H lc M109 X107 => ?_)
  have I110 := Inv_ml I96 M109
  have F111 : Fr [(23, 0), (23, 1), (23, 2), (23, 3), (23, 4)] [24, 25, 26, 27, 228, 229] τ t108 := Fr_ml F97 M109 (by decide)
  refine r_aload_n S dX2_copyFrom_130 rfl (lv_at hl 1 rfl) ?_
  refine r_get (K := 4) (v := .ref (G.2.2.2.1 10)) S X107 (Nat.le_of_ble_eq_true rfl) rfl lk2_28_2 (fun _ => ⟨_, rfl, rfl⟩) dX2_copyFrom_131 ?_
  refine r_iconst S dX2_copyFrom_134 (by decide) (fun v112 z113 => ?_)
  have r114 := R_eq z113
  refine r_aload_n S dX2_copyFrom_135 rfl (lv_at hl 0 rfl) ?_
  refine r_get (K := 4) (v := .ref (G.2.2.2.1 29)) S X107 (Nat.le_of_ble_eq_true rfl) rfl lk2_28_2 (fun _ => ⟨_, rfl, rfl⟩) dX2_copyFrom_136 ?_
  refine r_iconst S dX2_copyFrom_139 (by decide) (fun v115 z116 => ?_)
  have r117 := R_eq z116
  refine r_aload_n S dX2_copyFrom_140 rfl (lv_at hl 0 rfl) ?_
  refine r_get (K := 4) (v := .ref (G.2.2.2.1 29)) S X107 (Nat.le_of_ble_eq_true rfl) rfl lk2_28_2 (fun _ => ⟨_, rfl, rfl⟩) dX2_copyFrom_141 ?_
  refine r_alen (x := (0, .inl fun _ => 0)) (n := 10) (K := 10) (t0 := 1) S X107 (Nat.le_of_ble_eq_true rfl) rfl (fun _ => ⟨_, rfl⟩) rfl (by decide) dX2_copyFrom_144 (fun v118 z119 => ?_)
  have r120 := R_eq z119
  refine r_copyJ (n := 10) (K := 10) S X107 (Nat.le_of_ble_eq_true rfl) rfl (Nat.le_of_ble_eq_true rfl) rfl (fun _ _ _ => rfl) hl.1 kw9 kw10 kw11 kw12 (by omega) (by omega) (by omega) ⟨Nat.le_of_ble_eq_true rfl, by decide⟩ dX2_copyFrom_145 (fun t122 H lc M123 X121 => ?_)
  have I124 := Inv_ml I110 M123
  have F125 : Fr [(23, 0), (23, 1), (23, 2), (23, 3), (23, 4)] [24, 25, 26, 27, 228, 229] τ t122 := Fr_ml F111 M123 (by decide)
  exact r_vret S hr hlk X121 ⟨I124, F125, (((M123.1 23 (by decide) 2).trans ((M109.1 23 (by decide) 2).trans ((C95.1 23 (by decide) 2).trans ((C81.1 23 (by decide) 2).trans ((C67.1 23 (by decide) 2).trans ((C53.1 23 (by decide) 2).trans ((M38.2 23 2 (Or.inr (by decide))).trans ((M29.2 23 2 (Or.inr (by decide))).trans M21.1)))))))).trans (((M13.2 4 2 (Or.inl (by decide))).trans ((M5.2 4 2 (Or.inl (by decide))).trans rfl)).symm.trans z18).symm), (((M123.1 23 (by decide) 0).trans ((M109.1 23 (by decide) 0).trans ((C95.1 23 (by decide) 0).trans ((C81.1 23 (by decide) 0).trans ((C67.1 23 (by decide) 0).trans ((C53.1 23 (by decide) 0).trans ((M38.2 23 0 (Or.inr (by decide))).trans ((M29.2 23 0 (Or.inr (by decide))).trans ((M21.2 23 0 (Or.inr (by decide))).trans ((M13.2 23 0 (Or.inr (by decide))).trans M5.1)))))))))).trans (rfl.symm.trans z2).symm), (((M123.1 23 (by decide) 1).trans ((M109.1 23 (by decide) 1).trans ((C95.1 23 (by decide) 1).trans ((C81.1 23 (by decide) 1).trans ((C67.1 23 (by decide) 1).trans ((C53.1 23 (by decide) 1).trans ((M38.2 23 1 (Or.inr (by decide))).trans ((M29.2 23 1 (Or.inr (by decide))).trans ((M21.2 23 1 (Or.inr (by decide))).trans M13.1))))))))).trans (((M5.2 4 1 (Or.inl (by decide))).trans rfl).symm.trans z10).symm), (((M123.1 23 (by decide) 3).trans ((M109.1 23 (by decide) 3).trans ((C95.1 23 (by decide) 3).trans ((C81.1 23 (by decide) 3).trans ((C67.1 23 (by decide) 3).trans ((C53.1 23 (by decide) 3).trans ((M38.2 23 3 (Or.inr (by decide))).trans M29.1))))))).trans (((M21.2 4 3 (Or.inl (by decide))).trans ((M13.2 4 3 (Or.inl (by decide))).trans ((M5.2 4 3 (Or.inl (by decide))).trans rfl))).symm.trans z26).symm), (((M123.1 23 (by decide) 4).trans ((M109.1 23 (by decide) 4).trans ((C95.1 23 (by decide) 4).trans ((C81.1 23 (by decide) 4).trans ((C67.1 23 (by decide) 4).trans ((C53.1 23 (by decide) 4).trans M38.1)))))).trans (((M29.2 4 4 (Or.inl (by decide))).trans ((M21.2 4 4 (Or.inl (by decide))).trans ((M13.2 4 4 (Or.inl (by decide))).trans ((M5.2 4 4 (Or.inl (by decide))).trans rfl)))).symm.trans z34).symm)⟩ dX2_copyFrom_148
def po_pcopy_94_23 (τ : Tau)     (u : Tau) : Prop := Inv u ∧ Fr [(94, 0), (94, 1), (94, 2), (94, 3), (94, 4)] [95, 96, 97, 98, 299, 300] τ u ∧ u 94 2 = τ 23 2 ∧ u 94 0 = τ 23 0 ∧ u 94 1 = τ 23 1 ∧ u 94 3 = τ 23 3 ∧ u 94 4 = τ 23 4
set_option maxHeartbeats 4000000 in
set_option maxRecDepth 100000 in
theorem c_pcopy_94_23 (l : Launch) (G : Gx) (τ : Tau) (hI : Inv τ) : Cv l G yX2_copyFrom cX2_copyFrom 2 1 60 [.ref (G.2.2.2.1 94), .ref (G.2.2.2.1 23)] τ (po_pcopy_94_23 τ    ) := by
  unfold Cv
  refine C_of (own := RX2) (by decide) rfl (Nat.le_of_ble_eq_true rfl) ?_
  intro p e s m below meth c ls S hr hlk X hl
  have hl : lv_has ls 2 [(0, .ref (G.2.2.2.1 94)), (1, .ref (G.2.2.2.1 23))] := hl
  refine r_aload_n S dX2_copyFrom_0 rfl (lv_at hl 0 rfl) ?_
  refine r_aload_n S dX2_copyFrom_1 rfl (lv_at hl 1 rfl) ?_
  refine r_getn (K := 4) S X (Nat.le_of_ble_eq_true rfl) rfl lk2_34_2 (fun _ => ⟨_, rfl, rfl⟩) dX2_copyFrom_2 (fun v1 z2 => ?_)
  have r3 : R (0) (8) v1 := rd hI rfl z2
  refine r_put (K := 4) (ty := .int) S X (Nat.le_of_ble_eq_true rfl) rfl lk2_34_2 (fun _ => ⟨_, rfl, Nat.le_of_ble_eq_true rfl, rfl⟩) (fun _ _ _ h => by cases h; exact ⟨rfl, rfl⟩) rfl rfl dX2_copyFrom_5 (fun t4 H lc M5 X6 => ?_)
  have I7 := Inv_mu hI M5 (show Rg (kd 94) 0 v1 from (R_of (lo := 0) (hi := 8) r3 rfl))
  have F8 : Fr [(94, 0), (94, 1), (94, 2), (94, 3), (94, 4)] [95, 96, 97, 98, 299, 300] τ t4 := Fr_mu Fr_rfl M5 (by decide)
  refine r_aload_n S dX2_copyFrom_8 rfl (lv_at hl 0 rfl) ?_
  refine r_aload_n S dX2_copyFrom_9 rfl (lv_at hl 1 rfl) ?_
  refine r_getn (K := 4) S X6 (Nat.le_of_ble_eq_true rfl) rfl lk2_38_2 (fun _ => ⟨_, rfl, rfl⟩) dX2_copyFrom_10 (fun v9 z10 => ?_)
  have r11 : R (0) (9) v9 := rd I7 rfl z10
  refine r_put (K := 4) (ty := .int) S X6 (Nat.le_of_ble_eq_true rfl) rfl lk2_38_2 (fun _ => ⟨_, rfl, Nat.le_of_ble_eq_true rfl, rfl⟩) (fun _ _ _ h => by cases h; exact ⟨rfl, rfl⟩) rfl rfl dX2_copyFrom_13 (fun t12 H lc M13 X14 => ?_)
  have I15 := Inv_mu I7 M13 (show Rg (kd 94) 1 v9 from (R_of (lo := 0) (hi := 9) r11 rfl))
  have F16 : Fr [(94, 0), (94, 1), (94, 2), (94, 3), (94, 4)] [95, 96, 97, 98, 299, 300] τ t12 := Fr_mu F8 M13 (by decide)
  refine r_aload_n S dX2_copyFrom_16 rfl (lv_at hl 0 rfl) ?_
  refine r_aload_n S dX2_copyFrom_17 rfl (lv_at hl 1 rfl) ?_
  refine r_getn (K := 4) S X14 (Nat.le_of_ble_eq_true rfl) rfl lk2_41_2 (fun _ => ⟨_, rfl, rfl⟩) dX2_copyFrom_18 (fun v17 z18 => ?_)
  have r19 : R (0) (9) v17 := rd I15 rfl z18
  refine r_put (K := 4) (ty := .int) S X14 (Nat.le_of_ble_eq_true rfl) rfl lk2_41_2 (fun _ => ⟨_, rfl, Nat.le_of_ble_eq_true rfl, rfl⟩) (fun _ _ _ h => by cases h; exact ⟨rfl, rfl⟩) rfl rfl dX2_copyFrom_21 (fun t20 H lc M21 X22 => ?_)
  have I23 := Inv_mu I15 M21 (show Rg (kd 94) 2 v17 from (R_of (lo := 0) (hi := 9) r19 rfl))
  have F24 : Fr [(94, 0), (94, 1), (94, 2), (94, 3), (94, 4)] [95, 96, 97, 98, 299, 300] τ t20 := Fr_mu F16 M21 (by decide)
  refine r_aload_n S dX2_copyFrom_24 rfl (lv_at hl 0 rfl) ?_
  refine r_aload_n S dX2_copyFrom_25 rfl (lv_at hl 1 rfl) ?_
  refine r_getn (K := 4) S X22 (Nat.le_of_ble_eq_true rfl) rfl lk2_44_2 (fun _ => ⟨_, rfl, rfl⟩) dX2_copyFrom_26 (fun v25 z26 => ?_)
  have r27 : R (0) (10) v25 := rd I23 rfl z26
  refine r_put (K := 4) (ty := .int) S X22 (Nat.le_of_ble_eq_true rfl) rfl lk2_44_2 (fun _ => ⟨_, rfl, Nat.le_of_ble_eq_true rfl, rfl⟩) (fun _ _ _ h => by cases h; exact ⟨rfl, rfl⟩) rfl rfl dX2_copyFrom_29 (fun t28 H lc M29 X30 => ?_)
  have I31 := Inv_mu I23 M29 (show Rg (kd 94) 3 v25 from (R_of (lo := 0) (hi := 10) r27 rfl))
  have F32 : Fr [(94, 0), (94, 1), (94, 2), (94, 3), (94, 4)] [95, 96, 97, 98, 299, 300] τ t28 := Fr_mu F24 M29 (by decide)
  refine r_aload_n S dX2_copyFrom_32 rfl (lv_at hl 0 rfl) ?_
  refine r_aload_n S dX2_copyFrom_33 rfl (lv_at hl 1 rfl) ?_
  refine r_getn (K := 4) S X30 (Nat.le_of_ble_eq_true rfl) rfl lk2_47_2 (fun _ => ⟨_, rfl, rfl⟩) dX2_copyFrom_34 (fun v33 z34 => ?_)
  have r36 := R_any v33
  refine r_put (K := 4) (ty := .int) S X30 (Nat.le_of_ble_eq_true rfl) rfl lk2_47_2 (fun _ => ⟨_, rfl, Nat.le_of_ble_eq_true rfl, rfl⟩) (fun _ _ _ h => by cases h; exact ⟨rfl, rfl⟩) rfl rfl dX2_copyFrom_37 (fun t37 H lc M38 X39 => ?_)
  have I40 := Inv_mu I31 M38 (R_any v33)
  have F41 : Fr [(94, 0), (94, 1), (94, 2), (94, 3), (94, 4)] [95, 96, 97, 98, 299, 300] τ t37 := Fr_mu F32 M38 (by decide)
  refine r_aload_n S dX2_copyFrom_40 rfl (lv_at hl 1 rfl) ?_
  refine r_get (K := 4) (v := .ref (G.2.2.2.1 24)) S X39 (Nat.le_of_ble_eq_true rfl) rfl lk2_9_2 (fun _ => ⟨_, rfl, rfl⟩) dX2_copyFrom_41 ?_
  refine r_iconst S dX2_copyFrom_44 (by decide) (fun v42 z43 => ?_)
  have r44 := R_eq z43
  refine r_aload_n S dX2_copyFrom_45 rfl (lv_at hl 0 rfl) ?_
  refine r_get (K := 4) (v := .ref (G.2.2.2.1 95)) S X39 (Nat.le_of_ble_eq_true rfl) rfl lk2_9_2 (fun _ => ⟨_, rfl, rfl⟩) dX2_copyFrom_46 ?_
  refine r_iconst S dX2_copyFrom_49 (by decide) (fun v45 z46 => ?_)
  have r47 := R_eq z46
  refine r_aload_n S dX2_copyFrom_50 rfl (lv_at hl 0 rfl) ?_
  refine r_get (K := 4) (v := .ref (G.2.2.2.1 95)) S X39 (Nat.le_of_ble_eq_true rfl) rfl lk2_9_2 (fun _ => ⟨_, rfl, rfl⟩) dX2_copyFrom_51 ?_
  refine r_alen (x := (0, .inl fun _ => 0)) (n := 10) (K := 5) (t0 := 0) S X39 (Nat.le_of_ble_eq_true rfl) rfl (fun _ => ⟨_, rfl⟩) rfl (by decide) dX2_copyFrom_54 (fun v48 z49 => ?_)
  have r50 := R_eq z49
  refine r_copy (K2 := 5) (n := 10) (K := 5) S X39 (Nat.le_of_ble_eq_true rfl) rfl (Nat.le_of_ble_eq_true rfl) rfl (fun _ _ _ => rfl) (fun _ _ _ => rfl) hl.1 kw9 kw10 kw11 kw12 (by omega) (by omega) (by omega) ⟨Nat.le_of_ble_eq_true rfl, by decide⟩ dX2_copyFrom_55 (fun t52 H lc C53 X51 => ?_)
  have I54 := Inv_cp (K := 5) (K2 := 5) I40 C53 rfl rfl (fun _ _ h => h)
  have F55 : Fr [(94, 0), (94, 1), (94, 2), (94, 3), (94, 4)] [95, 96, 97, 98, 299, 300] τ t52 := Fr_cp F41 C53 (by decide)
  refine r_aload_n S dX2_copyFrom_58 rfl (lv_at hl 1 rfl) ?_
  refine r_get (K := 4) (v := .ref (G.2.2.2.1 25)) S X51 (Nat.le_of_ble_eq_true rfl) rfl lk2_15_2 (fun _ => ⟨_, rfl, rfl⟩) dX2_copyFrom_59 ?_
  refine r_iconst S dX2_copyFrom_62 (by decide) (fun v56 z57 => ?_)
  have r58 := R_eq z57
  refine r_aload_n S dX2_copyFrom_63 rfl (lv_at hl 0 rfl) ?_
  refine r_get (K := 4) (v := .ref (G.2.2.2.1 96)) S X51 (Nat.le_of_ble_eq_true rfl) rfl lk2_15_2 (fun _ => ⟨_, rfl, rfl⟩) dX2_copyFrom_64 ?_
  refine r_iconst S dX2_copyFrom_67 (by decide) (fun v59 z60 => ?_)
  have r61 := R_eq z60
  refine r_aload_n S dX2_copyFrom_68 rfl (lv_at hl 0 rfl) ?_
  refine r_get (K := 4) (v := .ref (G.2.2.2.1 96)) S X51 (Nat.le_of_ble_eq_true rfl) rfl lk2_15_2 (fun _ => ⟨_, rfl, rfl⟩) dX2_copyFrom_69 ?_
  refine r_alen (x := (0, .inl fun _ => 0)) (n := 10) (K := 6) (t0 := 0) S X51 (Nat.le_of_ble_eq_true rfl) rfl (fun _ => ⟨_, rfl⟩) rfl (by decide) dX2_copyFrom_72 (fun v62 z63 => ?_)
  have r64 := R_eq z63
  refine r_copy (K2 := 6) (n := 10) (K := 6) S X51 (Nat.le_of_ble_eq_true rfl) rfl (Nat.le_of_ble_eq_true rfl) rfl (fun _ _ _ => rfl) (fun _ _ _ => rfl) hl.1 kw9 kw10 kw11 kw12 (by omega) (by omega) (by omega) ⟨Nat.le_of_ble_eq_true rfl, by decide⟩ dX2_copyFrom_73 (fun t66 H lc C67 X65 => ?_)
  have I68 := Inv_cp (K := 6) (K2 := 6) I54 C67 rfl rfl (fun _ _ h => h)
  have F69 : Fr [(94, 0), (94, 1), (94, 2), (94, 3), (94, 4)] [95, 96, 97, 98, 299, 300] τ t66 := Fr_cp F55 C67 (by decide)
  refine r_aload_n S dX2_copyFrom_76 rfl (lv_at hl 1 rfl) ?_
  refine r_get (K := 4) (v := .ref (G.2.2.2.1 26)) S X65 (Nat.le_of_ble_eq_true rfl) rfl lk2_18_2 (fun _ => ⟨_, rfl, rfl⟩) dX2_copyFrom_77 ?_
  refine r_iconst S dX2_copyFrom_80 (by decide) (fun v70 z71 => ?_)
  have r72 := R_eq z71
  refine r_aload_n S dX2_copyFrom_81 rfl (lv_at hl 0 rfl) ?_
  refine r_get (K := 4) (v := .ref (G.2.2.2.1 97)) S X65 (Nat.le_of_ble_eq_true rfl) rfl lk2_18_2 (fun _ => ⟨_, rfl, rfl⟩) dX2_copyFrom_82 ?_
  refine r_iconst S dX2_copyFrom_85 (by decide) (fun v73 z74 => ?_)
  have r75 := R_eq z74
  refine r_aload_n S dX2_copyFrom_86 rfl (lv_at hl 0 rfl) ?_
  refine r_get (K := 4) (v := .ref (G.2.2.2.1 97)) S X65 (Nat.le_of_ble_eq_true rfl) rfl lk2_18_2 (fun _ => ⟨_, rfl, rfl⟩) dX2_copyFrom_87 ?_
  refine r_alen (x := (0, .inl fun _ => 0)) (n := 10) (K := 7) (t0 := 0) S X65 (Nat.le_of_ble_eq_true rfl) rfl (fun _ => ⟨_, rfl⟩) rfl (by decide) dX2_copyFrom_90 (fun v76 z77 => ?_)
  have r78 := R_eq z77
  refine r_copy (K2 := 7) (n := 10) (K := 7) S X65 (Nat.le_of_ble_eq_true rfl) rfl (Nat.le_of_ble_eq_true rfl) rfl (fun _ _ _ => rfl) (fun _ _ _ => rfl) hl.1 kw9 kw10 kw11 kw12 (by omega) (by omega) (by omega) ⟨Nat.le_of_ble_eq_true rfl, by decide⟩ dX2_copyFrom_91 (fun t80 H lc C81 X79 => ?_)
  have I82 := Inv_cp (K := 7) (K2 := 7) I68 C81 rfl rfl (fun _ _ h => h)
  have F83 : Fr [(94, 0), (94, 1), (94, 2), (94, 3), (94, 4)] [95, 96, 97, 98, 299, 300] τ t80 := Fr_cp F69 C81 (by decide)
  refine r_aload_n S dX2_copyFrom_94 rfl (lv_at hl 1 rfl) ?_
  refine r_get (K := 4) (v := .ref (G.2.2.2.1 27)) S X79 (Nat.le_of_ble_eq_true rfl) rfl lk2_21_2 (fun _ => ⟨_, rfl, rfl⟩) dX2_copyFrom_95 ?_
  refine r_iconst S dX2_copyFrom_98 (by decide) (fun v84 z85 => ?_)
  have r86 := R_eq z85
  refine r_aload_n S dX2_copyFrom_99 rfl (lv_at hl 0 rfl) ?_
  refine r_get (K := 4) (v := .ref (G.2.2.2.1 98)) S X79 (Nat.le_of_ble_eq_true rfl) rfl lk2_21_2 (fun _ => ⟨_, rfl, rfl⟩) dX2_copyFrom_100 ?_
  refine r_iconst S dX2_copyFrom_103 (by decide) (fun v87 z88 => ?_)
  have r89 := R_eq z88
  refine r_aload_n S dX2_copyFrom_104 rfl (lv_at hl 0 rfl) ?_
  refine r_get (K := 4) (v := .ref (G.2.2.2.1 98)) S X79 (Nat.le_of_ble_eq_true rfl) rfl lk2_21_2 (fun _ => ⟨_, rfl, rfl⟩) dX2_copyFrom_105 ?_
  refine r_alen (x := (0, .inl fun _ => 0)) (n := 90) (K := 8) (t0 := 0) S X79 (Nat.le_of_ble_eq_true rfl) rfl (fun _ => ⟨_, rfl⟩) rfl (by decide) dX2_copyFrom_108 (fun v90 z91 => ?_)
  have r92 := R_eq z91
  refine r_copy (K2 := 8) (n := 90) (K := 8) S X79 (Nat.le_of_ble_eq_true rfl) rfl (Nat.le_of_ble_eq_true rfl) rfl (fun _ _ _ => rfl) (fun _ _ _ => rfl) hl.1 kw9 kw10 kw11 kw12 (by omega) (by omega) (by omega) ⟨Nat.le_of_ble_eq_true rfl, by decide⟩ dX2_copyFrom_109 (fun t94 H lc C95 X93 => ?_)
  have I96 := Inv_cp (K := 8) (K2 := 8) I82 C95 rfl rfl (fun _ _ h => h)
  have F97 : Fr [(94, 0), (94, 1), (94, 2), (94, 3), (94, 4)] [95, 96, 97, 98, 299, 300] τ t94 := Fr_cp F83 C95 (by decide)
  refine r_aload_n S dX2_copyFrom_112 rfl (lv_at hl 1 rfl) ?_
  refine r_get (K := 4) (v := .ref (G.2.2.2.1 28)) S X93 (Nat.le_of_ble_eq_true rfl) rfl lk2_24_2 (fun _ => ⟨_, rfl, rfl⟩) dX2_copyFrom_113 ?_
  refine r_iconst S dX2_copyFrom_116 (by decide) (fun v98 z99 => ?_)
  have r100 := R_eq z99
  refine r_aload_n S dX2_copyFrom_117 rfl (lv_at hl 0 rfl) ?_
  refine r_get (K := 4) (v := .ref (G.2.2.2.1 99)) S X93 (Nat.le_of_ble_eq_true rfl) rfl lk2_24_2 (fun _ => ⟨_, rfl, rfl⟩) dX2_copyFrom_118 ?_
  refine r_iconst S dX2_copyFrom_121 (by decide) (fun v101 z102 => ?_)
  have r103 := R_eq z102
  refine r_aload_n S dX2_copyFrom_122 rfl (lv_at hl 0 rfl) ?_
  refine r_get (K := 4) (v := .ref (G.2.2.2.1 99)) S X93 (Nat.le_of_ble_eq_true rfl) rfl lk2_24_2 (fun _ => ⟨_, rfl, rfl⟩) dX2_copyFrom_123 ?_
  refine r_alen (x := (0, .inl fun _ => 0)) (n := 9) (K := 9) (t0 := 1) S X93 (Nat.le_of_ble_eq_true rfl) rfl (fun _ => ⟨_, rfl⟩) rfl (by decide) dX2_copyFrom_126 (fun v104 z105 => ?_)
  have r106 := R_eq z105
  refine r_copyJ (n := 9) (K := 9) S X93 (Nat.le_of_ble_eq_true rfl) rfl (Nat.le_of_ble_eq_true rfl) rfl (fun _ _ _ => rfl) hl.1 kw9 kw10 kw11 kw12 (by omega) (by omega) (by omega) ⟨Nat.le_of_ble_eq_true rfl, by decide⟩ dX2_copyFrom_127 (fun t108 H lc M109 X107 => ?_)
  have I110 := Inv_ml I96 M109
  have F111 : Fr [(94, 0), (94, 1), (94, 2), (94, 3), (94, 4)] [95, 96, 97, 98, 299, 300] τ t108 := Fr_ml F97 M109 (by decide)
  refine r_aload_n S dX2_copyFrom_130 rfl (lv_at hl 1 rfl) ?_
  refine r_get (K := 4) (v := .ref (G.2.2.2.1 29)) S X107 (Nat.le_of_ble_eq_true rfl) rfl lk2_28_2 (fun _ => ⟨_, rfl, rfl⟩) dX2_copyFrom_131 ?_
  refine r_iconst S dX2_copyFrom_134 (by decide) (fun v112 z113 => ?_)
  have r114 := R_eq z113
  refine r_aload_n S dX2_copyFrom_135 rfl (lv_at hl 0 rfl) ?_
  refine r_get (K := 4) (v := .ref (G.2.2.2.1 100)) S X107 (Nat.le_of_ble_eq_true rfl) rfl lk2_28_2 (fun _ => ⟨_, rfl, rfl⟩) dX2_copyFrom_136 ?_
  refine r_iconst S dX2_copyFrom_139 (by decide) (fun v115 z116 => ?_)
  have r117 := R_eq z116
  refine r_aload_n S dX2_copyFrom_140 rfl (lv_at hl 0 rfl) ?_
  refine r_get (K := 4) (v := .ref (G.2.2.2.1 100)) S X107 (Nat.le_of_ble_eq_true rfl) rfl lk2_28_2 (fun _ => ⟨_, rfl, rfl⟩) dX2_copyFrom_141 ?_
  refine r_alen (x := (0, .inl fun _ => 0)) (n := 10) (K := 10) (t0 := 1) S X107 (Nat.le_of_ble_eq_true rfl) rfl (fun _ => ⟨_, rfl⟩) rfl (by decide) dX2_copyFrom_144 (fun v118 z119 => ?_)
  have r120 := R_eq z119
  refine r_copyJ (n := 10) (K := 10) S X107 (Nat.le_of_ble_eq_true rfl) rfl (Nat.le_of_ble_eq_true rfl) rfl (fun _ _ _ => rfl) hl.1 kw9 kw10 kw11 kw12 (by omega) (by omega) (by omega) ⟨Nat.le_of_ble_eq_true rfl, by decide⟩ dX2_copyFrom_145 (fun t122 H lc M123 X121 => ?_)
  have I124 := Inv_ml I110 M123
  have F125 : Fr [(94, 0), (94, 1), (94, 2), (94, 3), (94, 4)] [95, 96, 97, 98, 299, 300] τ t122 := Fr_ml F111 M123 (by decide)
  exact r_vret S hr hlk X121 ⟨I124, F125, (((M123.1 94 (by decide) 2).trans ((M109.1 94 (by decide) 2).trans ((C95.1 94 (by decide) 2).trans ((C81.1 94 (by decide) 2).trans ((C67.1 94 (by decide) 2).trans ((C53.1 94 (by decide) 2).trans ((M38.2 94 2 (Or.inr (by decide))).trans ((M29.2 94 2 (Or.inr (by decide))).trans M21.1)))))))).trans (((M13.2 23 2 (Or.inl (by decide))).trans ((M5.2 23 2 (Or.inl (by decide))).trans rfl)).symm.trans z18).symm), (((M123.1 94 (by decide) 0).trans ((M109.1 94 (by decide) 0).trans ((C95.1 94 (by decide) 0).trans ((C81.1 94 (by decide) 0).trans ((C67.1 94 (by decide) 0).trans ((C53.1 94 (by decide) 0).trans ((M38.2 94 0 (Or.inr (by decide))).trans ((M29.2 94 0 (Or.inr (by decide))).trans ((M21.2 94 0 (Or.inr (by decide))).trans ((M13.2 94 0 (Or.inr (by decide))).trans M5.1)))))))))).trans (rfl.symm.trans z2).symm), (((M123.1 94 (by decide) 1).trans ((M109.1 94 (by decide) 1).trans ((C95.1 94 (by decide) 1).trans ((C81.1 94 (by decide) 1).trans ((C67.1 94 (by decide) 1).trans ((C53.1 94 (by decide) 1).trans ((M38.2 94 1 (Or.inr (by decide))).trans ((M29.2 94 1 (Or.inr (by decide))).trans ((M21.2 94 1 (Or.inr (by decide))).trans M13.1))))))))).trans (((M5.2 23 1 (Or.inl (by decide))).trans rfl).symm.trans z10).symm), (((M123.1 94 (by decide) 3).trans ((M109.1 94 (by decide) 3).trans ((C95.1 94 (by decide) 3).trans ((C81.1 94 (by decide) 3).trans ((C67.1 94 (by decide) 3).trans ((C53.1 94 (by decide) 3).trans ((M38.2 94 3 (Or.inr (by decide))).trans M29.1))))))).trans (((M21.2 23 3 (Or.inl (by decide))).trans ((M13.2 23 3 (Or.inl (by decide))).trans ((M5.2 23 3 (Or.inl (by decide))).trans rfl))).symm.trans z26).symm), (((M123.1 94 (by decide) 4).trans ((M109.1 94 (by decide) 4).trans ((C95.1 94 (by decide) 4).trans ((C81.1 94 (by decide) 4).trans ((C67.1 94 (by decide) 4).trans ((C53.1 94 (by decide) 4).trans M38.1)))))).trans (((M29.2 23 4 (Or.inl (by decide))).trans ((M21.2 23 4 (Or.inl (by decide))).trans ((M13.2 23 4 (Or.inl (by decide))).trans ((M5.2 23 4 (Or.inl (by decide))).trans rfl)))).symm.trans z34).symm)⟩ dX2_copyFrom_148
def po_pcopy_112_23 (τ : Tau)     (u : Tau) : Prop := Inv u ∧ Fr [(112, 0), (112, 1), (112, 2), (112, 3), (112, 4)] [113, 114, 115, 116, 317, 318] τ u ∧ u 112 2 = τ 23 2 ∧ u 112 0 = τ 23 0 ∧ u 112 1 = τ 23 1 ∧ u 112 3 = τ 23 3 ∧ u 112 4 = τ 23 4
set_option maxHeartbeats 4000000 in
set_option maxRecDepth 100000 in
theorem c_pcopy_112_23 (l : Launch) (G : Gx) (τ : Tau) (hI : Inv τ) : Cv l G yX2_copyFrom cX2_copyFrom 2 1 60 [.ref (G.2.2.2.1 112), .ref (G.2.2.2.1 23)] τ (po_pcopy_112_23 τ    ) := by
  unfold Cv
  refine C_of (own := RX2) (by decide) rfl (Nat.le_of_ble_eq_true rfl) ?_
  intro p e s m below meth c ls S hr hlk X hl
  have hl : lv_has ls 2 [(0, .ref (G.2.2.2.1 112)), (1, .ref (G.2.2.2.1 23))] := hl
  refine r_aload_n S dX2_copyFrom_0 rfl (lv_at hl 0 rfl) ?_
  refine r_aload_n S dX2_copyFrom_1 rfl (lv_at hl 1 rfl) ?_
  refine r_getn (K := 4) S X (Nat.le_of_ble_eq_true rfl) rfl lk2_34_2 (fun _ => ⟨_, rfl, rfl⟩) dX2_copyFrom_2 (fun v1 z2 => ?_)
  have r3 : R (0) (8) v1 := rd hI rfl z2
  refine r_put (K := 4) (ty := .int) S X (Nat.le_of_ble_eq_true rfl) rfl lk2_34_2 (fun _ => ⟨_, rfl, Nat.le_of_ble_eq_true rfl, rfl⟩) (fun _ _ _ h => by cases h; exact ⟨rfl, rfl⟩) rfl rfl dX2_copyFrom_5 (fun t4 H lc M5 X6 => ?_)
  have I7 := Inv_mu hI M5 (show Rg (kd 112) 0 v1 from (R_of (lo := 0) (hi := 8) r3 rfl))
  have F8 : Fr [(112, 0), (112, 1), (112, 2), (112, 3), (112, 4)] [113, 114, 115, 116, 317, 318] τ t4 := Fr_mu Fr_rfl M5 (by decide)
  refine r_aload_n S dX2_copyFrom_8 rfl (lv_at hl 0 rfl) ?_
  refine r_aload_n S dX2_copyFrom_9 rfl (lv_at hl 1 rfl) ?_
  refine r_getn (K := 4) S X6 (Nat.le_of_ble_eq_true rfl) rfl lk2_38_2 (fun _ => ⟨_, rfl, rfl⟩) dX2_copyFrom_10 (fun v9 z10 => ?_)
  have r11 : R (0) (9) v9 := rd I7 rfl z10
  refine r_put (K := 4) (ty := .int) S X6 (Nat.le_of_ble_eq_true rfl) rfl lk2_38_2 (fun _ => ⟨_, rfl, Nat.le_of_ble_eq_true rfl, rfl⟩) (fun _ _ _ h => by cases h; exact ⟨rfl, rfl⟩) rfl rfl dX2_copyFrom_13 (fun t12 H lc M13 X14 => ?_)
  have I15 := Inv_mu I7 M13 (show Rg (kd 112) 1 v9 from (R_of (lo := 0) (hi := 9) r11 rfl))
  have F16 : Fr [(112, 0), (112, 1), (112, 2), (112, 3), (112, 4)] [113, 114, 115, 116, 317, 318] τ t12 := Fr_mu F8 M13 (by decide)
  refine r_aload_n S dX2_copyFrom_16 rfl (lv_at hl 0 rfl) ?_
  refine r_aload_n S dX2_copyFrom_17 rfl (lv_at hl 1 rfl) ?_
  refine r_getn (K := 4) S X14 (Nat.le_of_ble_eq_true rfl) rfl lk2_41_2 (fun _ => ⟨_, rfl, rfl⟩) dX2_copyFrom_18 (fun v17 z18 => ?_)
  have r19 : R (0) (9) v17 := rd I15 rfl z18
  refine r_put (K := 4) (ty := .int) S X14 (Nat.le_of_ble_eq_true rfl) rfl lk2_41_2 (fun _ => ⟨_, rfl, Nat.le_of_ble_eq_true rfl, rfl⟩) (fun _ _ _ h => by cases h; exact ⟨rfl, rfl⟩) rfl rfl dX2_copyFrom_21 (fun t20 H lc M21 X22 => ?_)
  have I23 := Inv_mu I15 M21 (show Rg (kd 112) 2 v17 from (R_of (lo := 0) (hi := 9) r19 rfl))
  have F24 : Fr [(112, 0), (112, 1), (112, 2), (112, 3), (112, 4)] [113, 114, 115, 116, 317, 318] τ t20 := Fr_mu F16 M21 (by decide)
  refine r_aload_n S dX2_copyFrom_24 rfl (lv_at hl 0 rfl) ?_
  refine r_aload_n S dX2_copyFrom_25 rfl (lv_at hl 1 rfl) ?_
  refine r_getn (K := 4) S X22 (Nat.le_of_ble_eq_true rfl) rfl lk2_44_2 (fun _ => ⟨_, rfl, rfl⟩) dX2_copyFrom_26 (fun v25 z26 => ?_)
  have r27 : R (0) (10) v25 := rd I23 rfl z26
  refine r_put (K := 4) (ty := .int) S X22 (Nat.le_of_ble_eq_true rfl) rfl lk2_44_2 (fun _ => ⟨_, rfl, Nat.le_of_ble_eq_true rfl, rfl⟩) (fun _ _ _ h => by cases h; exact ⟨rfl, rfl⟩) rfl rfl dX2_copyFrom_29 (fun t28 H lc M29 X30 => ?_)
  have I31 := Inv_mu I23 M29 (show Rg (kd 112) 3 v25 from (R_of (lo := 0) (hi := 10) r27 rfl))
  have F32 : Fr [(112, 0), (112, 1), (112, 2), (112, 3), (112, 4)] [113, 114, 115, 116, 317, 318] τ t28 := Fr_mu F24 M29 (by decide)
  refine r_aload_n S dX2_copyFrom_32 rfl (lv_at hl 0 rfl) ?_
  refine r_aload_n S dX2_copyFrom_33 rfl (lv_at hl 1 rfl) ?_
  refine r_getn (K := 4) S X30 (Nat.le_of_ble_eq_true rfl) rfl lk2_47_2 (fun _ => ⟨_, rfl, rfl⟩) dX2_copyFrom_34 (fun v33 z34 => ?_)
  have r36 := R_any v33
  refine r_put (K := 4) (ty := .int) S X30 (Nat.le_of_ble_eq_true rfl) rfl lk2_47_2 (fun _ => ⟨_, rfl, Nat.le_of_ble_eq_true rfl, rfl⟩) (fun _ _ _ h => by cases h; exact ⟨rfl, rfl⟩) rfl rfl dX2_copyFrom_37 (fun t37 H lc M38 X39 => ?_)
  have I40 := Inv_mu I31 M38 (R_any v33)
  have F41 : Fr [(112, 0), (112, 1), (112, 2), (112, 3), (112, 4)] [113, 114, 115, 116, 317, 318] τ t37 := Fr_mu F32 M38 (by decide)
  refine r_aload_n S dX2_copyFrom_40 rfl (lv_at hl 1 rfl) ?_
  refine r_get (K := 4) (v := .ref (G.2.2.2.1 24)) S X39 (Nat.le_of_ble_eq_true rfl) rfl lk2_9_2 (fun _ => ⟨_, rfl, rfl⟩) dX2_copyFrom_41 ?_
  refine r_iconst S dX2_copyFrom_44 (by decide) (fun v42 z43 => ?_)
  have r44 := R_eq z43
  refine r_aload_n S dX2_copyFrom_45 rfl (lv_at hl 0 rfl) ?_
  refine r_get (K := 4) (v := .ref (G.2.2.2.1 113)) S X39 (Nat.le_of_ble_eq_true rfl) rfl lk2_9_2 (fun _ => ⟨_, rfl, rfl⟩) dX2_copyFrom_46 ?_
  refine r_iconst S dX2_copyFrom_49 (by decide) (fun v45 z46 => ?_)
  have r47 := R_eq z46
  refine r_aload_n S dX2_copyFrom_50 rfl (lv_at hl 0 rfl) ?_
  refine r_get (K := 4) (v := .ref (G.2.2.2.1 113)) S X39 (Nat.le_of_ble_eq_true rfl) rfl lk2_9_2 (fun _ => ⟨_, rfl, rfl⟩) dX2_copyFrom_51 ?_
  refine r_alen (x := (0, .inl fun _ => 0)) (n := 10) (K := 5) (t0 := 0) S X39 (Nat.le_of_ble_eq_true rfl) rfl (fun _ => ⟨_, rfl⟩) rfl (by decide) dX2_copyFrom_54 (fun v48 z49 => ?_)
  have r50 := R_eq z49
  refine r_copy (K2 := 5) (n := 10) (K := 5) S X39 (Nat.le_of_ble_eq_true rfl) rfl (Nat.le_of_ble_eq_true rfl) rfl (fun _ _ _ => rfl) (fun _ _ _ => rfl) hl.1 kw9 kw10 kw11 kw12 (by omega) (by omega) (by omega) ⟨Nat.le_of_ble_eq_true rfl, by decide⟩ dX2_copyFrom_55 (fun t52 H lc C53 X51 => ?_)
  have I54 := Inv_cp (K := 5) (K2 := 5) I40 C53 rfl rfl (fun _ _ h => h)
  have F55 : Fr [(112, 0), (112, 1), (112, 2), (112, 3), (112, 4)] [113, 114, 115, 116, 317, 318] τ t52 := Fr_cp F41 C53 (by decide)
  refine r_aload_n S dX2_copyFrom_58 rfl (lv_at hl 1 rfl) ?_
  refine r_get (K := 4) (v := .ref (G.2.2.2.1 25)) S X51 (Nat.le_of_ble_eq_true rfl) rfl lk2_15_2 (fun _ => ⟨_, rfl, rfl⟩) dX2_copyFrom_59 ?_
  refine r_iconst S dX2_copyFrom_62 (by decide) (fun v56 z57 => ?_)
  have r58 := R_eq z57
  refine r_aload_n S dX2_copyFrom_63 rfl (lv_at hl 0 rfl) ?_
  refine r_get (K := 4) (v := .ref (G.2.2.2.1 114)) S X51 (Nat.le_of_ble_eq_true rfl) rfl lk2_15_2 (fun _ => ⟨_, rfl, rfl⟩) dX2_copyFrom_64 ?_
  refine r_iconst S dX2_copyFrom_67 (by decide) (fun v59 z60 => ?_)
  have r61 := R_eq z60
  refine r_aload_n S dX2_copyFrom_68 rfl (lv_at hl 0 rfl) ?_
  refine r_get (K := 4) (v := .ref (G.2.2.2.1 114)) S X51 (Nat.le_of_ble_eq_true rfl) rfl lk2_15_2 (fun _ => ⟨_, rfl, rfl⟩) dX2_copyFrom_69 ?_
  refine r_alen (x := (0, .inl fun _ => 0)) (n := 10) (K := 6) (t0 := 0) S X51 (Nat.le_of_ble_eq_true rfl) rfl (fun _ => ⟨_, rfl⟩) rfl (by decide) dX2_copyFrom_72 (fun v62 z63 => ?_)
  have r64 := R_eq z63
  refine r_copy (K2 := 6) (n := 10) (K := 6) S X51 (Nat.le_of_ble_eq_true rfl) rfl (Nat.le_of_ble_eq_true rfl) rfl (fun _ _ _ => rfl) (fun _ _ _ => rfl) hl.1 kw9 kw10 kw11 kw12 (by omega) (by omega) (by omega) ⟨Nat.le_of_ble_eq_true rfl, by decide⟩ dX2_copyFrom_73 (fun t66 H lc C67 X65 => ?_)
  have I68 := Inv_cp (K := 6) (K2 := 6) I54 C67 rfl rfl (fun _ _ h => h)
  have F69 : Fr [(112, 0), (112, 1), (112, 2), (112, 3), (112, 4)] [113, 114, 115, 116, 317, 318] τ t66 := Fr_cp F55 C67 (by decide)
  refine r_aload_n S dX2_copyFrom_76 rfl (lv_at hl 1 rfl) ?_
  refine r_get (K := 4) (v := .ref (G.2.2.2.1 26)) S X65 (Nat.le_of_ble_eq_true rfl) rfl lk2_18_2 (fun _ => ⟨_, rfl, rfl⟩) dX2_copyFrom_77 ?_
  refine r_iconst S dX2_copyFrom_80 (by decide) (fun v70 z71 => ?_)
  have r72 := R_eq z71
  refine r_aload_n S dX2_copyFrom_81 rfl (lv_at hl 0 rfl) ?_
  refine r_get (K := 4) (v := .ref (G.2.2.2.1 115)) S X65 (Nat.le_of_ble_eq_true rfl) rfl lk2_18_2 (fun _ => ⟨_, rfl, rfl⟩) dX2_copyFrom_82 ?_
  refine r_iconst S dX2_copyFrom_85 (by decide) (fun v73 z74 => ?_)
  have r75 := R_eq z74
  refine r_aload_n S dX2_copyFrom_86 rfl (lv_at hl 0 rfl) ?_
  refine r_get (K := 4) (v := .ref (G.2.2.2.1 115)) S X65 (Nat.le_of_ble_eq_true rfl) rfl lk2_18_2 (fun _ => ⟨_, rfl, rfl⟩) dX2_copyFrom_87 ?_
  refine r_alen (x := (0, .inl fun _ => 0)) (n := 10) (K := 7) (t0 := 0) S X65 (Nat.le_of_ble_eq_true rfl) rfl (fun _ => ⟨_, rfl⟩) rfl (by decide) dX2_copyFrom_90 (fun v76 z77 => ?_)
  have r78 := R_eq z77
  refine r_copy (K2 := 7) (n := 10) (K := 7) S X65 (Nat.le_of_ble_eq_true rfl) rfl (Nat.le_of_ble_eq_true rfl) rfl (fun _ _ _ => rfl) (fun _ _ _ => rfl) hl.1 kw9 kw10 kw11 kw12 (by omega) (by omega) (by omega) ⟨Nat.le_of_ble_eq_true rfl, by decide⟩ dX2_copyFrom_91 (fun t80 H lc C81 X79 => ?_)
  have I82 := Inv_cp (K := 7) (K2 := 7) I68 C81 rfl rfl (fun _ _ h => h)
  have F83 : Fr [(112, 0), (112, 1), (112, 2), (112, 3), (112, 4)] [113, 114, 115, 116, 317, 318] τ t80 := Fr_cp F69 C81 (by decide)
  refine r_aload_n S dX2_copyFrom_94 rfl (lv_at hl 1 rfl) ?_
  refine r_get (K := 4) (v := .ref (G.2.2.2.1 27)) S X79 (Nat.le_of_ble_eq_true rfl) rfl lk2_21_2 (fun _ => ⟨_, rfl, rfl⟩) dX2_copyFrom_95 ?_
  refine r_iconst S dX2_copyFrom_98 (by decide) (fun v84 z85 => ?_)
  have r86 := R_eq z85
  refine r_aload_n S dX2_copyFrom_99 rfl (lv_at hl 0 rfl) ?_
  refine r_get (K := 4) (v := .ref (G.2.2.2.1 116)) S X79 (Nat.le_of_ble_eq_true rfl) rfl lk2_21_2 (fun _ => ⟨_, rfl, rfl⟩) dX2_copyFrom_100 ?_
  refine r_iconst S dX2_copyFrom_103 (by decide) (fun v87 z88 => ?_)
  have r89 := R_eq z88
  refine r_aload_n S dX2_copyFrom_104 rfl (lv_at hl 0 rfl) ?_
  refine r_get (K := 4) (v := .ref (G.2.2.2.1 116)) S X79 (Nat.le_of_ble_eq_true rfl) rfl lk2_21_2 (fun _ => ⟨_, rfl, rfl⟩) dX2_copyFrom_105 ?_
  refine r_alen (x := (0, .inl fun _ => 0)) (n := 90) (K := 8) (t0 := 0) S X79 (Nat.le_of_ble_eq_true rfl) rfl (fun _ => ⟨_, rfl⟩) rfl (by decide) dX2_copyFrom_108 (fun v90 z91 => ?_)
  have r92 := R_eq z91
  refine r_copy (K2 := 8) (n := 90) (K := 8) S X79 (Nat.le_of_ble_eq_true rfl) rfl (Nat.le_of_ble_eq_true rfl) rfl (fun _ _ _ => rfl) (fun _ _ _ => rfl) hl.1 kw9 kw10 kw11 kw12 (by omega) (by omega) (by omega) ⟨Nat.le_of_ble_eq_true rfl, by decide⟩ dX2_copyFrom_109 (fun t94 H lc C95 X93 => ?_)
  have I96 := Inv_cp (K := 8) (K2 := 8) I82 C95 rfl rfl (fun _ _ h => h)
  have F97 : Fr [(112, 0), (112, 1), (112, 2), (112, 3), (112, 4)] [113, 114, 115, 116, 317, 318] τ t94 := Fr_cp F83 C95 (by decide)
  refine r_aload_n S dX2_copyFrom_112 rfl (lv_at hl 1 rfl) ?_
  refine r_get (K := 4) (v := .ref (G.2.2.2.1 28)) S X93 (Nat.le_of_ble_eq_true rfl) rfl lk2_24_2 (fun _ => ⟨_, rfl, rfl⟩) dX2_copyFrom_113 ?_
  refine r_iconst S dX2_copyFrom_116 (by decide) (fun v98 z99 => ?_)
  have r100 := R_eq z99
  refine r_aload_n S dX2_copyFrom_117 rfl (lv_at hl 0 rfl) ?_
  refine r_get (K := 4) (v := .ref (G.2.2.2.1 117)) S X93 (Nat.le_of_ble_eq_true rfl) rfl lk2_24_2 (fun _ => ⟨_, rfl, rfl⟩) dX2_copyFrom_118 ?_
  refine r_iconst S dX2_copyFrom_121 (by decide) (fun v101 z102 => ?_)
  have r103 := R_eq z102
  refine r_aload_n S dX2_copyFrom_122 rfl (lv_at hl 0 rfl) ?_
  refine r_get (K := 4) (v := .ref (G.2.2.2.1 117)) S X93 (Nat.le_of_ble_eq_true rfl) rfl lk2_24_2 (fun _ => ⟨_, rfl, rfl⟩) dX2_copyFrom_123 ?_
  refine r_alen (x := (0, .inl fun _ => 0)) (n := 9) (K := 9) (t0 := 1) S X93 (Nat.le_of_ble_eq_true rfl) rfl (fun _ => ⟨_, rfl⟩) rfl (by decide) dX2_copyFrom_126 (fun v104 z105 => ?_)
  have r106 := R_eq z105
  refine r_copyJ (n := 9) (K := 9) S X93 (Nat.le_of_ble_eq_true rfl) rfl (Nat.le_of_ble_eq_true rfl) rfl (fun _ _ _ => rfl) hl.1 kw9 kw10 kw11 kw12 (by omega) (by omega) (by omega) ⟨Nat.le_of_ble_eq_true rfl, by decide⟩ dX2_copyFrom_127 (fun t108 H lc M109 X107 => ?_)
  have I110 := Inv_ml I96 M109
  have F111 : Fr [(112, 0), (112, 1), (112, 2), (112, 3), (112, 4)] [113, 114, 115, 116, 317, 318] τ t108 := Fr_ml F97 M109 (by decide)
  refine r_aload_n S dX2_copyFrom_130 rfl (lv_at hl 1 rfl) ?_
  refine r_get (K := 4) (v := .ref (G.2.2.2.1 29)) S X107 (Nat.le_of_ble_eq_true rfl) rfl lk2_28_2 (fun _ => ⟨_, rfl, rfl⟩) dX2_copyFrom_131 ?_
  refine r_iconst S dX2_copyFrom_134 (by decide) (fun v112 z113 => ?_)
  have r114 := R_eq z113
  refine r_aload_n S dX2_copyFrom_135 rfl (lv_at hl 0 rfl) ?_
  refine r_get (K := 4) (v := .ref (G.2.2.2.1 118)) S X107 (Nat.le_of_ble_eq_true rfl) rfl lk2_28_2 (fun _ => ⟨_, rfl, rfl⟩) dX2_copyFrom_136 ?_
  refine r_iconst S dX2_copyFrom_139 (by decide) (fun v115 z116 => ?_)
  have r117 := R_eq z116
  refine r_aload_n S dX2_copyFrom_140 rfl (lv_at hl 0 rfl) ?_
  refine r_get (K := 4) (v := .ref (G.2.2.2.1 118)) S X107 (Nat.le_of_ble_eq_true rfl) rfl lk2_28_2 (fun _ => ⟨_, rfl, rfl⟩) dX2_copyFrom_141 ?_
  refine r_alen (x := (0, .inl fun _ => 0)) (n := 10) (K := 10) (t0 := 1) S X107 (Nat.le_of_ble_eq_true rfl) rfl (fun _ => ⟨_, rfl⟩) rfl (by decide) dX2_copyFrom_144 (fun v118 z119 => ?_)
  have r120 := R_eq z119
  refine r_copyJ (n := 10) (K := 10) S X107 (Nat.le_of_ble_eq_true rfl) rfl (Nat.le_of_ble_eq_true rfl) rfl (fun _ _ _ => rfl) hl.1 kw9 kw10 kw11 kw12 (by omega) (by omega) (by omega) ⟨Nat.le_of_ble_eq_true rfl, by decide⟩ dX2_copyFrom_145 (fun t122 H lc M123 X121 => ?_)
  have I124 := Inv_ml I110 M123
  have F125 : Fr [(112, 0), (112, 1), (112, 2), (112, 3), (112, 4)] [113, 114, 115, 116, 317, 318] τ t122 := Fr_ml F111 M123 (by decide)
  exact r_vret S hr hlk X121 ⟨I124, F125, (((M123.1 112 (by decide) 2).trans ((M109.1 112 (by decide) 2).trans ((C95.1 112 (by decide) 2).trans ((C81.1 112 (by decide) 2).trans ((C67.1 112 (by decide) 2).trans ((C53.1 112 (by decide) 2).trans ((M38.2 112 2 (Or.inr (by decide))).trans ((M29.2 112 2 (Or.inr (by decide))).trans M21.1)))))))).trans (((M13.2 23 2 (Or.inl (by decide))).trans ((M5.2 23 2 (Or.inl (by decide))).trans rfl)).symm.trans z18).symm), (((M123.1 112 (by decide) 0).trans ((M109.1 112 (by decide) 0).trans ((C95.1 112 (by decide) 0).trans ((C81.1 112 (by decide) 0).trans ((C67.1 112 (by decide) 0).trans ((C53.1 112 (by decide) 0).trans ((M38.2 112 0 (Or.inr (by decide))).trans ((M29.2 112 0 (Or.inr (by decide))).trans ((M21.2 112 0 (Or.inr (by decide))).trans ((M13.2 112 0 (Or.inr (by decide))).trans M5.1)))))))))).trans (rfl.symm.trans z2).symm), (((M123.1 112 (by decide) 1).trans ((M109.1 112 (by decide) 1).trans ((C95.1 112 (by decide) 1).trans ((C81.1 112 (by decide) 1).trans ((C67.1 112 (by decide) 1).trans ((C53.1 112 (by decide) 1).trans ((M38.2 112 1 (Or.inr (by decide))).trans ((M29.2 112 1 (Or.inr (by decide))).trans ((M21.2 112 1 (Or.inr (by decide))).trans M13.1))))))))).trans (((M5.2 23 1 (Or.inl (by decide))).trans rfl).symm.trans z10).symm), (((M123.1 112 (by decide) 3).trans ((M109.1 112 (by decide) 3).trans ((C95.1 112 (by decide) 3).trans ((C81.1 112 (by decide) 3).trans ((C67.1 112 (by decide) 3).trans ((C53.1 112 (by decide) 3).trans ((M38.2 112 3 (Or.inr (by decide))).trans M29.1))))))).trans (((M21.2 23 3 (Or.inl (by decide))).trans ((M13.2 23 3 (Or.inl (by decide))).trans ((M5.2 23 3 (Or.inl (by decide))).trans rfl))).symm.trans z26).symm), (((M123.1 112 (by decide) 4).trans ((M109.1 112 (by decide) 4).trans ((C95.1 112 (by decide) 4).trans ((C81.1 112 (by decide) 4).trans ((C67.1 112 (by decide) 4).trans ((C53.1 112 (by decide) 4).trans M38.1)))))).trans (((M29.2 23 4 (Or.inl (by decide))).trans ((M21.2 23 4 (Or.inl (by decide))).trans ((M13.2 23 4 (Or.inl (by decide))).trans ((M5.2 23 4 (Or.inl (by decide))).trans rfl)))).symm.trans z34).symm)⟩ dX2_copyFrom_148
def po_pcopy_23_94 (τ : Tau)     (u : Tau) : Prop := Inv u ∧ Fr [(23, 0), (23, 1), (23, 2), (23, 3), (23, 4)] [24, 25, 26, 27, 228, 229] τ u ∧ u 23 2 = τ 94 2 ∧ u 23 0 = τ 94 0 ∧ u 23 1 = τ 94 1 ∧ u 23 3 = τ 94 3 ∧ u 23 4 = τ 94 4
set_option maxHeartbeats 4000000 in
set_option maxRecDepth 100000 in
theorem c_pcopy_23_94 (l : Launch) (G : Gx) (τ : Tau) (hI : Inv τ) : Cv l G yX2_copyFrom cX2_copyFrom 2 1 60 [.ref (G.2.2.2.1 23), .ref (G.2.2.2.1 94)] τ (po_pcopy_23_94 τ    ) := by
  unfold Cv
  refine C_of (own := RX2) (by decide) rfl (Nat.le_of_ble_eq_true rfl) ?_
  intro p e s m below meth c ls S hr hlk X hl
  have hl : lv_has ls 2 [(0, .ref (G.2.2.2.1 23)), (1, .ref (G.2.2.2.1 94))] := hl
  refine r_aload_n S dX2_copyFrom_0 rfl (lv_at hl 0 rfl) ?_
  refine r_aload_n S dX2_copyFrom_1 rfl (lv_at hl 1 rfl) ?_
  refine r_getn (K := 4) S X (Nat.le_of_ble_eq_true rfl) rfl lk2_34_2 (fun _ => ⟨_, rfl, rfl⟩) dX2_copyFrom_2 (fun v1 z2 => ?_)
  have r3 : R (0) (8) v1 := rd hI rfl z2
  refine r_put (K := 4) (ty := .int) S X (Nat.le_of_ble_eq_true rfl) rfl lk2_34_2 (fun _ => ⟨_, rfl, Nat.le_of_ble_eq_true rfl, rfl⟩) (fun _ _ _ h => by cases h; exact ⟨rfl, rfl⟩) rfl rfl dX2_copyFrom_5 (fun t4 H lc M5 X6 => ?_)
  have I7 := Inv_mu hI M5 (show Rg (kd 23) 0 v1 from (R_of (lo := 0) (hi := 8) r3 rfl))
  have F8 : Fr [(23, 0), (23, 1), (23, 2), (23, 3), (23, 4)] [24, 25, 26, 27, 228, 229] τ t4 := Fr_mu Fr_rfl M5 (by decide)
  refine r_aload_n S dX2_copyFrom_8 rfl (lv_at hl 0 rfl) ?_
  refine r_aload_n S dX2_copyFrom_9 rfl (lv_at hl 1 rfl) ?_
  refine r_getn (K := 4) S X6 (Nat.le_of_ble_eq_true rfl) rfl lk2_38_2 (fun _ => ⟨_, rfl, rfl⟩) dX2_copyFrom_10 (fun v9 z10 => ?_)
  have r11 : R (0) (9) v9 := rd I7 rfl z10
  refine r_put (K := 4) (ty := .int) S X6 (Nat.le_of_ble_eq_true rfl) rfl lk2_38_2 (fun _ => ⟨_, rfl, Nat.le_of_ble_eq_true rfl, rfl⟩) (fun _ _ _ h => by cases h; exact ⟨rfl, rfl⟩) rfl rfl dX2_copyFrom_13 (fun t12 H lc M13 X14 => ?_)
  have I15 := Inv_mu I7 M13 (show Rg (kd 23) 1 v9 from (R_of (lo := 0) (hi := 9) r11 rfl))
  have F16 : Fr [(23, 0), (23, 1), (23, 2), (23, 3), (23, 4)] [24, 25, 26, 27, 228, 229] τ t12 := Fr_mu F8 M13 (by decide)
  refine r_aload_n S dX2_copyFrom_16 rfl (lv_at hl 0 rfl) ?_
  refine r_aload_n S dX2_copyFrom_17 rfl (lv_at hl 1 rfl) ?_
  refine r_getn (K := 4) S X14 (Nat.le_of_ble_eq_true rfl) rfl lk2_41_2 (fun _ => ⟨_, rfl, rfl⟩) dX2_copyFrom_18 (fun v17 z18 => ?_)
  have r19 : R (0) (9) v17 := rd I15 rfl z18
  refine r_put (K := 4) (ty := .int) S X14 (Nat.le_of_ble_eq_true rfl) rfl lk2_41_2 (fun _ => ⟨_, rfl, Nat.le_of_ble_eq_true rfl, rfl⟩) (fun _ _ _ h => by cases h; exact ⟨rfl, rfl⟩) rfl rfl dX2_copyFrom_21 (fun t20 H lc M21 X22 => ?_)
  have I23 := Inv_mu I15 M21 (show Rg (kd 23) 2 v17 from (R_of (lo := 0) (hi := 9) r19 rfl))
  have F24 : Fr [(23, 0), (23, 1), (23, 2), (23, 3), (23, 4)] [24, 25, 26, 27, 228, 229] τ t20 := Fr_mu F16 M21 (by decide)
  refine r_aload_n S dX2_copyFrom_24 rfl (lv_at hl 0 rfl) ?_
  refine r_aload_n S dX2_copyFrom_25 rfl (lv_at hl 1 rfl) ?_
  refine r_getn (K := 4) S X22 (Nat.le_of_ble_eq_true rfl) rfl lk2_44_2 (fun _ => ⟨_, rfl, rfl⟩) dX2_copyFrom_26 (fun v25 z26 => ?_)
  have r27 : R (0) (10) v25 := rd I23 rfl z26
  refine r_put (K := 4) (ty := .int) S X22 (Nat.le_of_ble_eq_true rfl) rfl lk2_44_2 (fun _ => ⟨_, rfl, Nat.le_of_ble_eq_true rfl, rfl⟩) (fun _ _ _ h => by cases h; exact ⟨rfl, rfl⟩) rfl rfl dX2_copyFrom_29 (fun t28 H lc M29 X30 => ?_)
  have I31 := Inv_mu I23 M29 (show Rg (kd 23) 3 v25 from (R_of (lo := 0) (hi := 10) r27 rfl))
  have F32 : Fr [(23, 0), (23, 1), (23, 2), (23, 3), (23, 4)] [24, 25, 26, 27, 228, 229] τ t28 := Fr_mu F24 M29 (by decide)
  refine r_aload_n S dX2_copyFrom_32 rfl (lv_at hl 0 rfl) ?_
  refine r_aload_n S dX2_copyFrom_33 rfl (lv_at hl 1 rfl) ?_
  refine r_getn (K := 4) S X30 (Nat.le_of_ble_eq_true rfl) rfl lk2_47_2 (fun _ => ⟨_, rfl, rfl⟩) dX2_copyFrom_34 (fun v33 z34 => ?_)
  have r36 := R_any v33
  refine r_put (K := 4) (ty := .int) S X30 (Nat.le_of_ble_eq_true rfl) rfl lk2_47_2 (fun _ => ⟨_, rfl, Nat.le_of_ble_eq_true rfl, rfl⟩) (fun _ _ _ h => by cases h; exact ⟨rfl, rfl⟩) rfl rfl dX2_copyFrom_37 (fun t37 H lc M38 X39 => ?_)
  have I40 := Inv_mu I31 M38 (R_any v33)
  have F41 : Fr [(23, 0), (23, 1), (23, 2), (23, 3), (23, 4)] [24, 25, 26, 27, 228, 229] τ t37 := Fr_mu F32 M38 (by decide)
  refine r_aload_n S dX2_copyFrom_40 rfl (lv_at hl 1 rfl) ?_
  refine r_get (K := 4) (v := .ref (G.2.2.2.1 95)) S X39 (Nat.le_of_ble_eq_true rfl) rfl lk2_9_2 (fun _ => ⟨_, rfl, rfl⟩) dX2_copyFrom_41 ?_
  refine r_iconst S dX2_copyFrom_44 (by decide) (fun v42 z43 => ?_)
  have r44 := R_eq z43
  refine r_aload_n S dX2_copyFrom_45 rfl (lv_at hl 0 rfl) ?_
  refine r_get (K := 4) (v := .ref (G.2.2.2.1 24)) S X39 (Nat.le_of_ble_eq_true rfl) rfl lk2_9_2 (fun _ => ⟨_, rfl, rfl⟩) dX2_copyFrom_46 ?_
  refine r_iconst S dX2_copyFrom_49 (by decide) (fun v45 z46 => ?_)
  have r47 := R_eq z46
  refine r_aload_n S dX2_copyFrom_50 rfl (lv_at hl 0 rfl) ?_
  refine r_get (K := 4) (v := .ref (G.2.2.2.1 24)) S X39 (Nat.le_of_ble_eq_true rfl) rfl lk2_9_2 (fun _ => ⟨_, rfl, rfl⟩) dX2_copyFrom_51 ?_
  refine r_alen (x := (0, .inl fun _ => 0)) (n := 10) (K := 5) (t0 := 0) S X39 (Nat.le_of_ble_eq_true rfl) rfl (fun _ => ⟨_, rfl⟩) rfl (by decide) dX2_copyFrom_54 (fun v48 z49 => ?_)
  have r50 := R_eq z49
  refine r_copy (K2 := 5) (n := 10) (K := 5) S X39 (Nat.le_of_ble_eq_true rfl) rfl (Nat.le_of_ble_eq_true rfl) rfl (fun _ _ _ => rfl) (fun _ _ _ => rfl) hl.1 kw9 kw10 kw11 kw12 (by omega) (by omega) (by omega) ⟨Nat.le_of_ble_eq_true rfl, by decide⟩ dX2_copyFrom_55 (fun t52 H lc C53 X51 => ?_)
  have I54 := Inv_cp (K := 5) (K2 := 5) I40 C53 rfl rfl (fun _ _ h => h)
  have F55 : Fr [(23, 0), (23, 1), (23, 2), (23, 3), (23, 4)] [24, 25, 26, 27, 228, 229] τ t52 := Fr_cp F41 C53 (by decide)
  refine r_aload_n S dX2_copyFrom_58 rfl (lv_at hl 1 rfl) ?_
  refine r_get (K := 4) (v := .ref (G.2.2.2.1 96)) S X51 (Nat.le_of_ble_eq_true rfl) rfl lk2_15_2 (fun _ => ⟨_, rfl, rfl⟩) dX2_copyFrom_59 ?_
  refine r_iconst S dX2_copyFrom_62 (by decide) (fun v56 z57 => ?_)
  have r58 := R_eq z57
  refine r_aload_n S dX2_copyFrom_63 rfl (lv_at hl 0 rfl) ?_
  refine r_get (K := 4) (v := .ref (G.2.2.2.1 25)) S X51 (Nat.le_of_ble_eq_true rfl) rfl lk2_15_2 (fun _ => ⟨_, rfl, rfl⟩) dX2_copyFrom_64 ?_
  refine r_iconst S dX2_copyFrom_67 (by decide) (fun v59 z60 => ?_)
  have r61 := R_eq z60
  refine r_aload_n S dX2_copyFrom_68 rfl (lv_at hl 0 rfl) ?_
  refine r_get (K := 4) (v := .ref (G.2.2.2.1 25)) S X51 (Nat.le_of_ble_eq_true rfl) rfl lk2_15_2 (fun _ => ⟨_, rfl, rfl⟩) dX2_copyFrom_69 ?_
  refine r_alen (x := (0, .inl fun _ => 0)) (n := 10) (K := 6) (t0 := 0) S X51 (Nat.le_of_ble_eq_true rfl) rfl (fun _ => ⟨_, rfl⟩) rfl (by decide) dX2_copyFrom_72 (fun v62 z63 => ?_)
  have r64 := R_eq z63
  refine r_copy (K2 := 6) (n := 10) (K := 6) S X51 (Nat.le_of_ble_eq_true rfl) rfl (Nat.le_of_ble_eq_true rfl) rfl (fun _ _ _ => rfl) (fun _ _ _ => rfl) hl.1 kw9 kw10 kw11 kw12 (by omega) (by omega) (by omega) ⟨Nat.le_of_ble_eq_true rfl, by decide⟩ dX2_copyFrom_73 (fun t66 H lc C67 X65 => ?_)
  have I68 := Inv_cp (K := 6) (K2 := 6) I54 C67 rfl rfl (fun _ _ h => h)
  have F69 : Fr [(23, 0), (23, 1), (23, 2), (23, 3), (23, 4)] [24, 25, 26, 27, 228, 229] τ t66 := Fr_cp F55 C67 (by decide)
  refine r_aload_n S dX2_copyFrom_76 rfl (lv_at hl 1 rfl) ?_
  refine r_get (K := 4) (v := .ref (G.2.2.2.1 97)) S X65 (Nat.le_of_ble_eq_true rfl) rfl lk2_18_2 (fun _ => ⟨_, rfl, rfl⟩) dX2_copyFrom_77 ?_
  refine r_iconst S dX2_copyFrom_80 (by decide) (fun v70 z71 => ?_)
  have r72 := R_eq z71
  refine r_aload_n S dX2_copyFrom_81 rfl (lv_at hl 0 rfl) ?_
  refine r_get (K := 4) (v := .ref (G.2.2.2.1 26)) S X65 (Nat.le_of_ble_eq_true rfl) rfl lk2_18_2 (fun _ => ⟨_, rfl, rfl⟩) dX2_copyFrom_82 ?_
  refine r_iconst S dX2_copyFrom_85 (by decide) (fun v73 z74 => ?_)
  have r75 := R_eq z74
  refine r_aload_n S dX2_copyFrom_86 rfl (lv_at hl 0 rfl) ?_
  refine r_get (K := 4) (v := .ref (G.2.2.2.1 26)) S X65 (Nat.le_of_ble_eq_true rfl) rfl lk2_18_2 (fun _ => ⟨_, rfl, rfl⟩) dX2_copyFrom_87 ?_
  refine r_alen (x := (0, .inl fun _ => 0)) (n := 10) (K := 7) (t0 := 0) S X65 (Nat.le_of_ble_eq_true rfl) rfl (fun _ => ⟨_, rfl⟩) rfl (by decide) dX2_copyFrom_90 (fun v76 z77 => ?_)
  have r78 := R_eq z77
  refine r_copy (K2 := 7) (n := 10) (K := 7) S X65 (Nat.le_of_ble_eq_true rfl) rfl (Nat.le_of_ble_eq_true rfl) rfl (fun _ _ _ => rfl) (fun _ _ _ => rfl) hl.1 kw9 kw10 kw11 kw12 (by omega) (by omega) (by omega) ⟨Nat.le_of_ble_eq_true rfl, by decide⟩ dX2_copyFrom_91 (fun t80 H lc C81 X79 => ?_)
  have I82 := Inv_cp (K := 7) (K2 := 7) I68 C81 rfl rfl (fun _ _ h => h)
  have F83 : Fr [(23, 0), (23, 1), (23, 2), (23, 3), (23, 4)] [24, 25, 26, 27, 228, 229] τ t80 := Fr_cp F69 C81 (by decide)
  refine r_aload_n S dX2_copyFrom_94 rfl (lv_at hl 1 rfl) ?_
  refine r_get (K := 4) (v := .ref (G.2.2.2.1 98)) S X79 (Nat.le_of_ble_eq_true rfl) rfl lk2_21_2 (fun _ => ⟨_, rfl, rfl⟩) dX2_copyFrom_95 ?_
  refine r_iconst S dX2_copyFrom_98 (by decide) (fun v84 z85 => ?_)
  have r86 := R_eq z85
  refine r_aload_n S dX2_copyFrom_99 rfl (lv_at hl 0 rfl) ?_
  refine r_get (K := 4) (v := .ref (G.2.2.2.1 27)) S X79 (Nat.le_of_ble_eq_true rfl) rfl lk2_21_2 (fun _ => ⟨_, rfl, rfl⟩) dX2_copyFrom_100 ?_
  refine r_iconst S dX2_copyFrom_103 (by decide) (fun v87 z88 => ?_)
  have r89 := R_eq z88
  refine r_aload_n S dX2_copyFrom_104 rfl (lv_at hl 0 rfl) ?_
  refine r_get (K := 4) (v := .ref (G.2.2.2.1 27)) S X79 (Nat.le_of_ble_eq_true rfl) rfl lk2_21_2 (fun _ => ⟨_, rfl, rfl⟩) dX2_copyFrom_105 ?_
  refine r_alen (x := (0, .inl fun _ => 0)) (n := 90) (K := 8) (t0 := 0) S X79 (Nat.le_of_ble_eq_true rfl) rfl (fun _ => ⟨_, rfl⟩) rfl (by decide) dX2_copyFrom_108 (fun v90 z91 => ?_)
  have r92 := R_eq z91
  refine r_copy (K2 := 8) (n := 90) (K := 8) S X79 (Nat.le_of_ble_eq_true rfl) rfl (Nat.le_of_ble_eq_true rfl) rfl (fun _ _ _ => rfl) (fun _ _ _ => rfl) hl.1 kw9 kw10 kw11 kw12 (by omega) (by omega) (by omega) ⟨Nat.le_of_ble_eq_true rfl, by decide⟩ dX2_copyFrom_109 (fun t94 H lc C95 X93 => ?_)
  have I96 := Inv_cp (K := 8) (K2 := 8) I82 C95 rfl rfl (fun _ _ h => h)
  have F97 : Fr [(23, 0), (23, 1), (23, 2), (23, 3), (23, 4)] [24, 25, 26, 27, 228, 229] τ t94 := Fr_cp F83 C95 (by decide)
  refine r_aload_n S dX2_copyFrom_112 rfl (lv_at hl 1 rfl) ?_
  refine r_get (K := 4) (v := .ref (G.2.2.2.1 99)) S X93 (Nat.le_of_ble_eq_true rfl) rfl lk2_24_2 (fun _ => ⟨_, rfl, rfl⟩) dX2_copyFrom_113 ?_
  refine r_iconst S dX2_copyFrom_116 (by decide) (fun v98 z99 => ?_)
  have r100 := R_eq z99
  refine r_aload_n S dX2_copyFrom_117 rfl (lv_at hl 0 rfl) ?_
  refine r_get (K := 4) (v := .ref (G.2.2.2.1 28)) S X93 (Nat.le_of_ble_eq_true rfl) rfl lk2_24_2 (fun _ => ⟨_, rfl, rfl⟩) dX2_copyFrom_118 ?_
  refine r_iconst S dX2_copyFrom_121 (by decide) (fun v101 z102 => ?_)
  have r103 := R_eq z102
  refine r_aload_n S dX2_copyFrom_122 rfl (lv_at hl 0 rfl) ?_
  refine r_get (K := 4) (v := .ref (G.2.2.2.1 28)) S X93 (Nat.le_of_ble_eq_true rfl) rfl lk2_24_2 (fun _ => ⟨_, rfl, rfl⟩) dX2_copyFrom_123 ?_
  refine r_alen (x := (0, .inl fun _ => 0)) (n := 9) (K := 9) (t0 := 1) S X93 (Nat.le_of_ble_eq_true rfl) rfl (fun _ => ⟨_, rfl⟩) rfl (by decide) dX2_copyFrom_126 (fun v104 z105 => ?_)
  have r106 := R_eq z105
  refine r_copyJ (n := 9) (K := 9) S X93 (Nat.le_of_ble_eq_true rfl) rfl (Nat.le_of_ble_eq_true rfl) rfl (fun _ _ _ => rfl) hl.1 kw9 kw10 kw11 kw12 (by omega) (by omega) (by omega) ⟨Nat.le_of_ble_eq_true rfl, by decide⟩ dX2_copyFrom_127 (fun t108 H lc M109 X107 => ?_)
  have I110 := Inv_ml I96 M109
  have F111 : Fr [(23, 0), (23, 1), (23, 2), (23, 3), (23, 4)] [24, 25, 26, 27, 228, 229] τ t108 := Fr_ml F97 M109 (by decide)
  refine r_aload_n S dX2_copyFrom_130 rfl (lv_at hl 1 rfl) ?_
  refine r_get (K := 4) (v := .ref (G.2.2.2.1 100)) S X107 (Nat.le_of_ble_eq_true rfl) rfl lk2_28_2 (fun _ => ⟨_, rfl, rfl⟩) dX2_copyFrom_131 ?_
  refine r_iconst S dX2_copyFrom_134 (by decide) (fun v112 z113 => ?_)
  have r114 := R_eq z113
  refine r_aload_n S dX2_copyFrom_135 rfl (lv_at hl 0 rfl) ?_
  refine r_get (K := 4) (v := .ref (G.2.2.2.1 29)) S X107 (Nat.le_of_ble_eq_true rfl) rfl lk2_28_2 (fun _ => ⟨_, rfl, rfl⟩) dX2_copyFrom_136 ?_
  refine r_iconst S dX2_copyFrom_139 (by decide) (fun v115 z116 => ?_)
  have r117 := R_eq z116
  refine r_aload_n S dX2_copyFrom_140 rfl (lv_at hl 0 rfl) ?_
  refine r_get (K := 4) (v := .ref (G.2.2.2.1 29)) S X107 (Nat.le_of_ble_eq_true rfl) rfl lk2_28_2 (fun _ => ⟨_, rfl, rfl⟩) dX2_copyFrom_141 ?_
  refine r_alen (x := (0, .inl fun _ => 0)) (n := 10) (K := 10) (t0 := 1) S X107 (Nat.le_of_ble_eq_true rfl) rfl (fun _ => ⟨_, rfl⟩) rfl (by decide) dX2_copyFrom_144 (fun v118 z119 => ?_)
  have r120 := R_eq z119
  refine r_copyJ (n := 10) (K := 10) S X107 (Nat.le_of_ble_eq_true rfl) rfl (Nat.le_of_ble_eq_true rfl) rfl (fun _ _ _ => rfl) hl.1 kw9 kw10 kw11 kw12 (by omega) (by omega) (by omega) ⟨Nat.le_of_ble_eq_true rfl, by decide⟩ dX2_copyFrom_145 (fun t122 H lc M123 X121 => ?_)
  have I124 := Inv_ml I110 M123
  have F125 : Fr [(23, 0), (23, 1), (23, 2), (23, 3), (23, 4)] [24, 25, 26, 27, 228, 229] τ t122 := Fr_ml F111 M123 (by decide)
  exact r_vret S hr hlk X121 ⟨I124, F125, (((M123.1 23 (by decide) 2).trans ((M109.1 23 (by decide) 2).trans ((C95.1 23 (by decide) 2).trans ((C81.1 23 (by decide) 2).trans ((C67.1 23 (by decide) 2).trans ((C53.1 23 (by decide) 2).trans ((M38.2 23 2 (Or.inr (by decide))).trans ((M29.2 23 2 (Or.inr (by decide))).trans M21.1)))))))).trans (((M13.2 94 2 (Or.inl (by decide))).trans ((M5.2 94 2 (Or.inl (by decide))).trans rfl)).symm.trans z18).symm), (((M123.1 23 (by decide) 0).trans ((M109.1 23 (by decide) 0).trans ((C95.1 23 (by decide) 0).trans ((C81.1 23 (by decide) 0).trans ((C67.1 23 (by decide) 0).trans ((C53.1 23 (by decide) 0).trans ((M38.2 23 0 (Or.inr (by decide))).trans ((M29.2 23 0 (Or.inr (by decide))).trans ((M21.2 23 0 (Or.inr (by decide))).trans ((M13.2 23 0 (Or.inr (by decide))).trans M5.1)))))))))).trans (rfl.symm.trans z2).symm), (((M123.1 23 (by decide) 1).trans ((M109.1 23 (by decide) 1).trans ((C95.1 23 (by decide) 1).trans ((C81.1 23 (by decide) 1).trans ((C67.1 23 (by decide) 1).trans ((C53.1 23 (by decide) 1).trans ((M38.2 23 1 (Or.inr (by decide))).trans ((M29.2 23 1 (Or.inr (by decide))).trans ((M21.2 23 1 (Or.inr (by decide))).trans M13.1))))))))).trans (((M5.2 94 1 (Or.inl (by decide))).trans rfl).symm.trans z10).symm), (((M123.1 23 (by decide) 3).trans ((M109.1 23 (by decide) 3).trans ((C95.1 23 (by decide) 3).trans ((C81.1 23 (by decide) 3).trans ((C67.1 23 (by decide) 3).trans ((C53.1 23 (by decide) 3).trans ((M38.2 23 3 (Or.inr (by decide))).trans M29.1))))))).trans (((M21.2 94 3 (Or.inl (by decide))).trans ((M13.2 94 3 (Or.inl (by decide))).trans ((M5.2 94 3 (Or.inl (by decide))).trans rfl))).symm.trans z26).symm), (((M123.1 23 (by decide) 4).trans ((M109.1 23 (by decide) 4).trans ((C95.1 23 (by decide) 4).trans ((C81.1 23 (by decide) 4).trans ((C67.1 23 (by decide) 4).trans ((C53.1 23 (by decide) 4).trans M38.1)))))).trans (((M29.2 94 4 (Or.inl (by decide))).trans ((M21.2 94 4 (Or.inl (by decide))).trans ((M13.2 94 4 (Or.inl (by decide))).trans ((M5.2 94 4 (Or.inl (by decide))).trans rfl)))).symm.trans z34).symm)⟩ dX2_copyFrom_148
def po_pcopy_23_112 (τ : Tau)     (u : Tau) : Prop := Inv u ∧ Fr [(23, 0), (23, 1), (23, 2), (23, 3), (23, 4)] [24, 25, 26, 27, 228, 229] τ u ∧ u 23 2 = τ 112 2 ∧ u 23 0 = τ 112 0 ∧ u 23 1 = τ 112 1 ∧ u 23 3 = τ 112 3 ∧ u 23 4 = τ 112 4
set_option maxHeartbeats 4000000 in
set_option maxRecDepth 100000 in
theorem c_pcopy_23_112 (l : Launch) (G : Gx) (τ : Tau) (hI : Inv τ) : Cv l G yX2_copyFrom cX2_copyFrom 2 1 60 [.ref (G.2.2.2.1 23), .ref (G.2.2.2.1 112)] τ (po_pcopy_23_112 τ    ) := by
  unfold Cv
  refine C_of (own := RX2) (by decide) rfl (Nat.le_of_ble_eq_true rfl) ?_
  intro p e s m below meth c ls S hr hlk X hl
  have hl : lv_has ls 2 [(0, .ref (G.2.2.2.1 23)), (1, .ref (G.2.2.2.1 112))] := hl
  refine r_aload_n S dX2_copyFrom_0 rfl (lv_at hl 0 rfl) ?_
  refine r_aload_n S dX2_copyFrom_1 rfl (lv_at hl 1 rfl) ?_
  refine r_getn (K := 4) S X (Nat.le_of_ble_eq_true rfl) rfl lk2_34_2 (fun _ => ⟨_, rfl, rfl⟩) dX2_copyFrom_2 (fun v1 z2 => ?_)
  have r3 : R (0) (8) v1 := rd hI rfl z2
  refine r_put (K := 4) (ty := .int) S X (Nat.le_of_ble_eq_true rfl) rfl lk2_34_2 (fun _ => ⟨_, rfl, Nat.le_of_ble_eq_true rfl, rfl⟩) (fun _ _ _ h => by cases h; exact ⟨rfl, rfl⟩) rfl rfl dX2_copyFrom_5 (fun t4 H lc M5 X6 => ?_)
  have I7 := Inv_mu hI M5 (show Rg (kd 23) 0 v1 from (R_of (lo := 0) (hi := 8) r3 rfl))
  have F8 : Fr [(23, 0), (23, 1), (23, 2), (23, 3), (23, 4)] [24, 25, 26, 27, 228, 229] τ t4 := Fr_mu Fr_rfl M5 (by decide)
  refine r_aload_n S dX2_copyFrom_8 rfl (lv_at hl 0 rfl) ?_
  refine r_aload_n S dX2_copyFrom_9 rfl (lv_at hl 1 rfl) ?_
  refine r_getn (K := 4) S X6 (Nat.le_of_ble_eq_true rfl) rfl lk2_38_2 (fun _ => ⟨_, rfl, rfl⟩) dX2_copyFrom_10 (fun v9 z10 => ?_)
  have r11 : R (0) (9) v9 := rd I7 rfl z10
  refine r_put (K := 4) (ty := .int) S X6 (Nat.le_of_ble_eq_true rfl) rfl lk2_38_2 (fun _ => ⟨_, rfl, Nat.le_of_ble_eq_true rfl, rfl⟩) (fun _ _ _ h => by cases h; exact ⟨rfl, rfl⟩) rfl rfl dX2_copyFrom_13 (fun t12 H lc M13 X14 => ?_)
  have I15 := Inv_mu I7 M13 (show Rg (kd 23) 1 v9 from (R_of (lo := 0) (hi := 9) r11 rfl))
  have F16 : Fr [(23, 0), (23, 1), (23, 2), (23, 3), (23, 4)] [24, 25, 26, 27, 228, 229] τ t12 := Fr_mu F8 M13 (by decide)
  refine r_aload_n S dX2_copyFrom_16 rfl (lv_at hl 0 rfl) ?_
  refine r_aload_n S dX2_copyFrom_17 rfl (lv_at hl 1 rfl) ?_
  refine r_getn (K := 4) S X14 (Nat.le_of_ble_eq_true rfl) rfl lk2_41_2 (fun _ => ⟨_, rfl, rfl⟩) dX2_copyFrom_18 (fun v17 z18 => ?_)
  have r19 : R (0) (9) v17 := rd I15 rfl z18
  refine r_put (K := 4) (ty := .int) S X14 (Nat.le_of_ble_eq_true rfl) rfl lk2_41_2 (fun _ => ⟨_, rfl, Nat.le_of_ble_eq_true rfl, rfl⟩) (fun _ _ _ h => by cases h; exact ⟨rfl, rfl⟩) rfl rfl dX2_copyFrom_21 (fun t20 H lc M21 X22 => ?_)
  have I23 := Inv_mu I15 M21 (show Rg (kd 23) 2 v17 from (R_of (lo := 0) (hi := 9) r19 rfl))
  have F24 : Fr [(23, 0), (23, 1), (23, 2), (23, 3), (23, 4)] [24, 25, 26, 27, 228, 229] τ t20 := Fr_mu F16 M21 (by decide)
  refine r_aload_n S dX2_copyFrom_24 rfl (lv_at hl 0 rfl) ?_
  refine r_aload_n S dX2_copyFrom_25 rfl (lv_at hl 1 rfl) ?_
  refine r_getn (K := 4) S X22 (Nat.le_of_ble_eq_true rfl) rfl lk2_44_2 (fun _ => ⟨_, rfl, rfl⟩) dX2_copyFrom_26 (fun v25 z26 => ?_)
  have r27 : R (0) (10) v25 := rd I23 rfl z26
  refine r_put (K := 4) (ty := .int) S X22 (Nat.le_of_ble_eq_true rfl) rfl lk2_44_2 (fun _ => ⟨_, rfl, Nat.le_of_ble_eq_true rfl, rfl⟩) (fun _ _ _ h => by cases h; exact ⟨rfl, rfl⟩) rfl rfl dX2_copyFrom_29 (fun t28 H lc M29 X30 => ?_)
  have I31 := Inv_mu I23 M29 (show Rg (kd 23) 3 v25 from (R_of (lo := 0) (hi := 10) r27 rfl))
  have F32 : Fr [(23, 0), (23, 1), (23, 2), (23, 3), (23, 4)] [24, 25, 26, 27, 228, 229] τ t28 := Fr_mu F24 M29 (by decide)
  refine r_aload_n S dX2_copyFrom_32 rfl (lv_at hl 0 rfl) ?_
  refine r_aload_n S dX2_copyFrom_33 rfl (lv_at hl 1 rfl) ?_
  refine r_getn (K := 4) S X30 (Nat.le_of_ble_eq_true rfl) rfl lk2_47_2 (fun _ => ⟨_, rfl, rfl⟩) dX2_copyFrom_34 (fun v33 z34 => ?_)
  have r36 := R_any v33
  refine r_put (K := 4) (ty := .int) S X30 (Nat.le_of_ble_eq_true rfl) rfl lk2_47_2 (fun _ => ⟨_, rfl, Nat.le_of_ble_eq_true rfl, rfl⟩) (fun _ _ _ h => by cases h; exact ⟨rfl, rfl⟩) rfl rfl dX2_copyFrom_37 (fun t37 H lc M38 X39 => ?_)
  have I40 := Inv_mu I31 M38 (R_any v33)
  have F41 : Fr [(23, 0), (23, 1), (23, 2), (23, 3), (23, 4)] [24, 25, 26, 27, 228, 229] τ t37 := Fr_mu F32 M38 (by decide)
  refine r_aload_n S dX2_copyFrom_40 rfl (lv_at hl 1 rfl) ?_
  refine r_get (K := 4) (v := .ref (G.2.2.2.1 113)) S X39 (Nat.le_of_ble_eq_true rfl) rfl lk2_9_2 (fun _ => ⟨_, rfl, rfl⟩) dX2_copyFrom_41 ?_
  refine r_iconst S dX2_copyFrom_44 (by decide) (fun v42 z43 => ?_)
  have r44 := R_eq z43
  refine r_aload_n S dX2_copyFrom_45 rfl (lv_at hl 0 rfl) ?_
  refine r_get (K := 4) (v := .ref (G.2.2.2.1 24)) S X39 (Nat.le_of_ble_eq_true rfl) rfl lk2_9_2 (fun _ => ⟨_, rfl, rfl⟩) dX2_copyFrom_46 ?_
  refine r_iconst S dX2_copyFrom_49 (by decide) (fun v45 z46 => ?_)
  have r47 := R_eq z46
  refine r_aload_n S dX2_copyFrom_50 rfl (lv_at hl 0 rfl) ?_
  refine r_get (K := 4) (v := .ref (G.2.2.2.1 24)) S X39 (Nat.le_of_ble_eq_true rfl) rfl lk2_9_2 (fun _ => ⟨_, rfl, rfl⟩) dX2_copyFrom_51 ?_
  refine r_alen (x := (0, .inl fun _ => 0)) (n := 10) (K := 5) (t0 := 0) S X39 (Nat.le_of_ble_eq_true rfl) rfl (fun _ => ⟨_, rfl⟩) rfl (by decide) dX2_copyFrom_54 (fun v48 z49 => ?_)
  have r50 := R_eq z49
  refine r_copy (K2 := 5) (n := 10) (K := 5) S X39 (Nat.le_of_ble_eq_true rfl) rfl (Nat.le_of_ble_eq_true rfl) rfl (fun _ _ _ => rfl) (fun _ _ _ => rfl) hl.1 kw9 kw10 kw11 kw12 (by omega) (by omega) (by omega) ⟨Nat.le_of_ble_eq_true rfl, by decide⟩ dX2_copyFrom_55 (fun t52 H lc C53 X51 => ?_)
  have I54 := Inv_cp (K := 5) (K2 := 5) I40 C53 rfl rfl (fun _ _ h => h)
  have F55 : Fr [(23, 0), (23, 1), (23, 2), (23, 3), (23, 4)] [24, 25, 26, 27, 228, 229] τ t52 := Fr_cp F41 C53 (by decide)
  refine r_aload_n S dX2_copyFrom_58 rfl (lv_at hl 1 rfl) ?_
  refine r_get (K := 4) (v := .ref (G.2.2.2.1 114)) S X51 (Nat.le_of_ble_eq_true rfl) rfl lk2_15_2 (fun _ => ⟨_, rfl, rfl⟩) dX2_copyFrom_59 ?_
  refine r_iconst S dX2_copyFrom_62 (by decide) (fun v56 z57 => ?_)
  have r58 := R_eq z57
  refine r_aload_n S dX2_copyFrom_63 rfl (lv_at hl 0 rfl) ?_
  refine r_get (K := 4) (v := .ref (G.2.2.2.1 25)) S X51 (Nat.le_of_ble_eq_true rfl) rfl lk2_15_2 (fun _ => ⟨_, rfl, rfl⟩) dX2_copyFrom_64 ?_
  refine r_iconst S dX2_copyFrom_67 (by decide) (fun v59 z60 => ?_)
  have r61 := R_eq z60
  refine r_aload_n S dX2_copyFrom_68 rfl (lv_at hl 0 rfl) ?_
  refine r_get (K := 4) (v := .ref (G.2.2.2.1 25)) S X51 (Nat.le_of_ble_eq_true rfl) rfl lk2_15_2 (fun _ => ⟨_, rfl, rfl⟩) dX2_copyFrom_69 ?_
  refine r_alen (x := (0, .inl fun _ => 0)) (n := 10) (K := 6) (t0 := 0) S X51 (Nat.le_of_ble_eq_true rfl) rfl (fun _ => ⟨_, rfl⟩) rfl (by decide) dX2_copyFrom_72 (fun v62 z63 => ?_)
  have r64 := R_eq z63
  refine r_copy (K2 := 6) (n := 10) (K := 6) S X51 (Nat.le_of_ble_eq_true rfl) rfl (Nat.le_of_ble_eq_true rfl) rfl (fun _ _ _ => rfl) (fun _ _ _ => rfl) hl.1 kw9 kw10 kw11 kw12 (by omega) (by omega) (by omega) ⟨Nat.le_of_ble_eq_true rfl, by decide⟩ dX2_copyFrom_73 (fun t66 H lc C67 X65 => ?_)
  have I68 := Inv_cp (K := 6) (K2 := 6) I54 C67 rfl rfl (fun _ _ h => h)
  have F69 : Fr [(23, 0), (23, 1), (23, 2), (23, 3), (23, 4)] [24, 25, 26, 27, 228, 229] τ t66 := Fr_cp F55 C67 (by decide)
  refine r_aload_n S dX2_copyFrom_76 rfl (lv_at hl 1 rfl) ?_
  refine r_get (K := 4) (v := .ref (G.2.2.2.1 115)) S X65 (Nat.le_of_ble_eq_true rfl) rfl lk2_18_2 (fun _ => ⟨_, rfl, rfl⟩) dX2_copyFrom_77 ?_
  refine r_iconst S dX2_copyFrom_80 (by decide) (fun v70 z71 => ?_)
  have r72 := R_eq z71
  refine r_aload_n S dX2_copyFrom_81 rfl (lv_at hl 0 rfl) ?_
  refine r_get (K := 4) (v := .ref (G.2.2.2.1 26)) S X65 (Nat.le_of_ble_eq_true rfl) rfl lk2_18_2 (fun _ => ⟨_, rfl, rfl⟩) dX2_copyFrom_82 ?_
  refine r_iconst S dX2_copyFrom_85 (by decide) (fun v73 z74 => ?_)
  have r75 := R_eq z74
  refine r_aload_n S dX2_copyFrom_86 rfl (lv_at hl 0 rfl) ?_
  refine r_get (K := 4) (v := .ref (G.2.2.2.1 26)) S X65 (Nat.le_of_ble_eq_true rfl) rfl lk2_18_2 (fun _ => ⟨_, rfl, rfl⟩) dX2_copyFrom_87 ?_
  refine r_alen (x := (0, .inl fun _ => 0)) (n := 10) (K := 7) (t0 := 0) S X65 (Nat.le_of_ble_eq_true rfl) rfl (fun _ => ⟨_, rfl⟩) rfl (by decide) dX2_copyFrom_90 (fun v76 z77 => ?_)
  have r78 := R_eq z77
  refine r_copy (K2 := 7) (n := 10) (K := 7) S X65 (Nat.le_of_ble_eq_true rfl) rfl (Nat.le_of_ble_eq_true rfl) rfl (fun _ _ _ => rfl) (fun _ _ _ => rfl) hl.1 kw9 kw10 kw11 kw12 (by omega) (by omega) (by omega) ⟨Nat.le_of_ble_eq_true rfl, by decide⟩ dX2_copyFrom_91 (fun t80 H lc C81 X79 => ?_)
  have I82 := Inv_cp (K := 7) (K2 := 7) I68 C81 rfl rfl (fun _ _ h => h)
  have F83 : Fr [(23, 0), (23, 1), (23, 2), (23, 3), (23, 4)] [24, 25, 26, 27, 228, 229] τ t80 := Fr_cp F69 C81 (by decide)
  refine r_aload_n S dX2_copyFrom_94 rfl (lv_at hl 1 rfl) ?_
  refine r_get (K := 4) (v := .ref (G.2.2.2.1 116)) S X79 (Nat.le_of_ble_eq_true rfl) rfl lk2_21_2 (fun _ => ⟨_, rfl, rfl⟩) dX2_copyFrom_95 ?_
  refine r_iconst S dX2_copyFrom_98 (by decide) (fun v84 z85 => ?_)
  have r86 := R_eq z85
  refine r_aload_n S dX2_copyFrom_99 rfl (lv_at hl 0 rfl) ?_
  refine r_get (K := 4) (v := .ref (G.2.2.2.1 27)) S X79 (Nat.le_of_ble_eq_true rfl) rfl lk2_21_2 (fun _ => ⟨_, rfl, rfl⟩) dX2_copyFrom_100 ?_
  refine r_iconst S dX2_copyFrom_103 (by decide) (fun v87 z88 => ?_)
  have r89 := R_eq z88
  refine r_aload_n S dX2_copyFrom_104 rfl (lv_at hl 0 rfl) ?_
  refine r_get (K := 4) (v := .ref (G.2.2.2.1 27)) S X79 (Nat.le_of_ble_eq_true rfl) rfl lk2_21_2 (fun _ => ⟨_, rfl, rfl⟩) dX2_copyFrom_105 ?_
  refine r_alen (x := (0, .inl fun _ => 0)) (n := 90) (K := 8) (t0 := 0) S X79 (Nat.le_of_ble_eq_true rfl) rfl (fun _ => ⟨_, rfl⟩) rfl (by decide) dX2_copyFrom_108 (fun v90 z91 => ?_)
  have r92 := R_eq z91
  refine r_copy (K2 := 8) (n := 90) (K := 8) S X79 (Nat.le_of_ble_eq_true rfl) rfl (Nat.le_of_ble_eq_true rfl) rfl (fun _ _ _ => rfl) (fun _ _ _ => rfl) hl.1 kw9 kw10 kw11 kw12 (by omega) (by omega) (by omega) ⟨Nat.le_of_ble_eq_true rfl, by decide⟩ dX2_copyFrom_109 (fun t94 H lc C95 X93 => ?_)
  have I96 := Inv_cp (K := 8) (K2 := 8) I82 C95 rfl rfl (fun _ _ h => h)
  have F97 : Fr [(23, 0), (23, 1), (23, 2), (23, 3), (23, 4)] [24, 25, 26, 27, 228, 229] τ t94 := Fr_cp F83 C95 (by decide)
  refine r_aload_n S dX2_copyFrom_112 rfl (lv_at hl 1 rfl) ?_
  refine r_get (K := 4) (v := .ref (G.2.2.2.1 117)) S X93 (Nat.le_of_ble_eq_true rfl) rfl lk2_24_2 (fun _ => ⟨_, rfl, rfl⟩) dX2_copyFrom_113 ?_
  refine r_iconst S dX2_copyFrom_116 (by decide) (fun v98 z99 => ?_)
  have r100 := R_eq z99
  refine r_aload_n S dX2_copyFrom_117 rfl (lv_at hl 0 rfl) ?_
  refine r_get (K := 4) (v := .ref (G.2.2.2.1 28)) S X93 (Nat.le_of_ble_eq_true rfl) rfl lk2_24_2 (fun _ => ⟨_, rfl, rfl⟩) dX2_copyFrom_118 ?_
  refine r_iconst S dX2_copyFrom_121 (by decide) (fun v101 z102 => ?_)
  have r103 := R_eq z102
  refine r_aload_n S dX2_copyFrom_122 rfl (lv_at hl 0 rfl) ?_
  refine r_get (K := 4) (v := .ref (G.2.2.2.1 28)) S X93 (Nat.le_of_ble_eq_true rfl) rfl lk2_24_2 (fun _ => ⟨_, rfl, rfl⟩) dX2_copyFrom_123 ?_
  refine r_alen (x := (0, .inl fun _ => 0)) (n := 9) (K := 9) (t0 := 1) S X93 (Nat.le_of_ble_eq_true rfl) rfl (fun _ => ⟨_, rfl⟩) rfl (by decide) dX2_copyFrom_126 (fun v104 z105 => ?_)
  have r106 := R_eq z105
  refine r_copyJ (n := 9) (K := 9) S X93 (Nat.le_of_ble_eq_true rfl) rfl (Nat.le_of_ble_eq_true rfl) rfl (fun _ _ _ => rfl) hl.1 kw9 kw10 kw11 kw12 (by omega) (by omega) (by omega) ⟨Nat.le_of_ble_eq_true rfl, by decide⟩ dX2_copyFrom_127 (fun t108 H lc M109 X107 => ?_)
  have I110 := Inv_ml I96 M109
  have F111 : Fr [(23, 0), (23, 1), (23, 2), (23, 3), (23, 4)] [24, 25, 26, 27, 228, 229] τ t108 := Fr_ml F97 M109 (by decide)
  refine r_aload_n S dX2_copyFrom_130 rfl (lv_at hl 1 rfl) ?_
  refine r_get (K := 4) (v := .ref (G.2.2.2.1 118)) S X107 (Nat.le_of_ble_eq_true rfl) rfl lk2_28_2 (fun _ => ⟨_, rfl, rfl⟩) dX2_copyFrom_131 ?_
  refine r_iconst S dX2_copyFrom_134 (by decide) (fun v112 z113 => ?_)
  have r114 := R_eq z113
  refine r_aload_n S dX2_copyFrom_135 rfl (lv_at hl 0 rfl) ?_
  refine r_get (K := 4) (v := .ref (G.2.2.2.1 29)) S X107 (Nat.le_of_ble_eq_true rfl) rfl lk2_28_2 (fun _ => ⟨_, rfl, rfl⟩) dX2_copyFrom_136 ?_
  refine r_iconst S dX2_copyFrom_139 (by decide) (fun v115 z116 => ?_)
  have r117 := R_eq z116
  refine r_aload_n S dX2_copyFrom_140 rfl (lv_at hl 0 rfl) ?_
  refine r_get (K := 4) (v := .ref (G.2.2.2.1 29)) S X107 (Nat.le_of_ble_eq_true rfl) rfl lk2_28_2 (fun _ => ⟨_, rfl, rfl⟩) dX2_copyFrom_141 ?_
  refine r_alen (x := (0, .inl fun _ => 0)) (n := 10) (K := 10) (t0 := 1) S X107 (Nat.le_of_ble_eq_true rfl) rfl (fun _ => ⟨_, rfl⟩) rfl (by decide) dX2_copyFrom_144 (fun v118 z119 => ?_)
  have r120 := R_eq z119
  refine r_copyJ (n := 10) (K := 10) S X107 (Nat.le_of_ble_eq_true rfl) rfl (Nat.le_of_ble_eq_true rfl) rfl (fun _ _ _ => rfl) hl.1 kw9 kw10 kw11 kw12 (by omega) (by omega) (by omega) ⟨Nat.le_of_ble_eq_true rfl, by decide⟩ dX2_copyFrom_145 (fun t122 H lc M123 X121 => ?_)
  have I124 := Inv_ml I110 M123
  have F125 : Fr [(23, 0), (23, 1), (23, 2), (23, 3), (23, 4)] [24, 25, 26, 27, 228, 229] τ t122 := Fr_ml F111 M123 (by decide)
  exact r_vret S hr hlk X121 ⟨I124, F125, (((M123.1 23 (by decide) 2).trans ((M109.1 23 (by decide) 2).trans ((C95.1 23 (by decide) 2).trans ((C81.1 23 (by decide) 2).trans ((C67.1 23 (by decide) 2).trans ((C53.1 23 (by decide) 2).trans ((M38.2 23 2 (Or.inr (by decide))).trans ((M29.2 23 2 (Or.inr (by decide))).trans M21.1)))))))).trans (((M13.2 112 2 (Or.inl (by decide))).trans ((M5.2 112 2 (Or.inl (by decide))).trans rfl)).symm.trans z18).symm), (((M123.1 23 (by decide) 0).trans ((M109.1 23 (by decide) 0).trans ((C95.1 23 (by decide) 0).trans ((C81.1 23 (by decide) 0).trans ((C67.1 23 (by decide) 0).trans ((C53.1 23 (by decide) 0).trans ((M38.2 23 0 (Or.inr (by decide))).trans ((M29.2 23 0 (Or.inr (by decide))).trans ((M21.2 23 0 (Or.inr (by decide))).trans ((M13.2 23 0 (Or.inr (by decide))).trans M5.1)))))))))).trans (rfl.symm.trans z2).symm), (((M123.1 23 (by decide) 1).trans ((M109.1 23 (by decide) 1).trans ((C95.1 23 (by decide) 1).trans ((C81.1 23 (by decide) 1).trans ((C67.1 23 (by decide) 1).trans ((C53.1 23 (by decide) 1).trans ((M38.2 23 1 (Or.inr (by decide))).trans ((M29.2 23 1 (Or.inr (by decide))).trans ((M21.2 23 1 (Or.inr (by decide))).trans M13.1))))))))).trans (((M5.2 112 1 (Or.inl (by decide))).trans rfl).symm.trans z10).symm), (((M123.1 23 (by decide) 3).trans ((M109.1 23 (by decide) 3).trans ((C95.1 23 (by decide) 3).trans ((C81.1 23 (by decide) 3).trans ((C67.1 23 (by decide) 3).trans ((C53.1 23 (by decide) 3).trans ((M38.2 23 3 (Or.inr (by decide))).trans M29.1))))))).trans (((M21.2 112 3 (Or.inl (by decide))).trans ((M13.2 112 3 (Or.inl (by decide))).trans ((M5.2 112 3 (Or.inl (by decide))).trans rfl))).symm.trans z26).symm), (((M123.1 23 (by decide) 4).trans ((M109.1 23 (by decide) 4).trans ((C95.1 23 (by decide) 4).trans ((C81.1 23 (by decide) 4).trans ((C67.1 23 (by decide) 4).trans ((C53.1 23 (by decide) 4).trans M38.1)))))).trans (((M29.2 112 4 (Or.inl (by decide))).trans ((M21.2 112 4 (Or.inl (by decide))).trans ((M13.2 112 4 (Or.inl (by decide))).trans ((M5.2 112 4 (Or.inl (by decide))).trans rfl)))).symm.trans z34).symm)⟩ dX2_copyFrom_148
def po_scopy_52_30 (τ : Tau)     (u : Tau) : Prop := Inv u ∧ Fr [(52, 4), (52, 5), (52, 6), (52, 7), (52, 8), (52, 9), (52, 10)] [53, 54, 55, 56] τ u ∧ u 52 8 = τ 30 8
set_option maxHeartbeats 4000000 in
set_option maxRecDepth 100000 in
theorem c_scopy_52_30 (l : Launch) (G : Gx) (τ : Tau) (hI : Inv τ) : Cv l G yX3_copyFrom cX3_copyFrom 2 1 60 [.ref (G.2.2.2.1 52), .ref (G.2.2.2.1 30)] τ (po_scopy_52_30 τ    ) := by
  unfold Cv
  refine C_of (own := RX3) (by decide) rfl (Nat.le_of_ble_eq_true rfl) ?_
  intro p e s m below meth c ls S hr hlk X hl
  have hl : lv_has ls 2 [(0, .ref (G.2.2.2.1 52)), (1, .ref (G.2.2.2.1 30))] := hl
  refine r_aload_n S dX3_copyFrom_0 rfl (lv_at hl 1 rfl) ?_
  refine r_get (K := 23) (v := .ref (G.2.2.2.1 31)) S X (Nat.le_of_ble_eq_true rfl) rfl lk3_9_3 (fun _ => ⟨_, rfl, rfl⟩) dX3_copyFrom_1 ?_
  refine r_iconst S dX3_copyFrom_4 (by decide) (fun v1 z2 => ?_)
  have r3 := R_eq z2
  refine r_aload_n S dX3_copyFrom_5 rfl (lv_at hl 0 rfl) ?_
  refine r_get (K := 23) (v := .ref (G.2.2.2.1 53)) S X (Nat.le_of_ble_eq_true rfl) rfl lk3_9_3 (fun _ => ⟨_, rfl, rfl⟩) dX3_copyFrom_6 ?_
  refine r_iconst S dX3_copyFrom_9 (by decide) (fun v4 z5 => ?_)
  have r6 := R_eq z5
  refine r_aload_n S dX3_copyFrom_10 rfl (lv_at hl 0 rfl) ?_
  refine r_get (K := 23) (v := .ref (G.2.2.2.1 53)) S X (Nat.le_of_ble_eq_true rfl) rfl lk3_9_3 (fun _ => ⟨_, rfl, rfl⟩) dX3_copyFrom_11 ?_
  refine r_alen (x := (0, .inl fun _ => 0)) (n := 90) (K := 24) (t0 := 0) S X (Nat.le_of_ble_eq_true rfl) rfl (fun _ => ⟨_, rfl⟩) rfl (by decide) dX3_copyFrom_14 (fun v7 z8 => ?_)
  have r9 := R_eq z8
  refine r_copy (K2 := 24) (n := 90) (K := 24) S X (Nat.le_of_ble_eq_true rfl) rfl (Nat.le_of_ble_eq_true rfl) rfl (fun _ _ _ => rfl) (fun _ _ _ => rfl) hl.1 kw13 kw10 kw11 kw12 (by omega) (by omega) (by omega) ⟨Nat.le_of_ble_eq_true rfl, by decide⟩ dX3_copyFrom_15 (fun t11 H lc C12 X10 => ?_)
  have I13 := Inv_cp (K := 24) (K2 := 24) hI C12 rfl rfl (fun _ _ h => h)
  have F14 : Fr [(52, 4), (52, 5), (52, 6), (52, 7), (52, 8), (52, 9), (52, 10)] [53, 54, 55, 56] τ t11 := Fr_cp Fr_rfl C12 (by decide)
  refine r_aload_n S dX3_copyFrom_18 rfl (lv_at hl 1 rfl) ?_
  refine r_get (K := 23) (v := .ref (G.2.2.2.1 32)) S X10 (Nat.le_of_ble_eq_true rfl) rfl lk3_15_3 (fun _ => ⟨_, rfl, rfl⟩) dX3_copyFrom_19 ?_
  refine r_iconst S dX3_copyFrom_22 (by decide) (fun v15 z16 => ?_)
  have r17 := R_eq z16
  refine r_aload_n S dX3_copyFrom_23 rfl (lv_at hl 0 rfl) ?_
  refine r_get (K := 23) (v := .ref (G.2.2.2.1 54)) S X10 (Nat.le_of_ble_eq_true rfl) rfl lk3_15_3 (fun _ => ⟨_, rfl, rfl⟩) dX3_copyFrom_24 ?_
  refine r_iconst S dX3_copyFrom_27 (by decide) (fun v18 z19 => ?_)
  have r20 := R_eq z19
  refine r_aload_n S dX3_copyFrom_28 rfl (lv_at hl 0 rfl) ?_
  refine r_get (K := 23) (v := .ref (G.2.2.2.1 54)) S X10 (Nat.le_of_ble_eq_true rfl) rfl lk3_15_3 (fun _ => ⟨_, rfl, rfl⟩) dX3_copyFrom_29 ?_
  refine r_alen (x := (0, .inl fun _ => 0)) (n := 90) (K := 25) (t0 := 0) S X10 (Nat.le_of_ble_eq_true rfl) rfl (fun _ => ⟨_, rfl⟩) rfl (by decide) dX3_copyFrom_32 (fun v21 z22 => ?_)
  have r23 := R_eq z22
  refine r_copy (K2 := 25) (n := 90) (K := 25) S X10 (Nat.le_of_ble_eq_true rfl) rfl (Nat.le_of_ble_eq_true rfl) rfl (fun _ _ _ => rfl) (fun _ _ _ => rfl) hl.1 kw13 kw10 kw11 kw12 (by omega) (by omega) (by omega) ⟨Nat.le_of_ble_eq_true rfl, by decide⟩ dX3_copyFrom_33 (fun t25 H lc C26 X24 => ?_)
  have I27 := Inv_cp (K := 25) (K2 := 25) I13 C26 rfl rfl (fun _ _ h => h)
  have F28 : Fr [(52, 4), (52, 5), (52, 6), (52, 7), (52, 8), (52, 9), (52, 10)] [53, 54, 55, 56] τ t25 := Fr_cp F14 C26 (by decide)
  refine r_aload_n S dX3_copyFrom_36 rfl (lv_at hl 1 rfl) ?_
  refine r_get (K := 23) (v := .ref (G.2.2.2.1 33)) S X24 (Nat.le_of_ble_eq_true rfl) rfl lk3_18_3 (fun _ => ⟨_, rfl, rfl⟩) dX3_copyFrom_37 ?_
  refine r_iconst S dX3_copyFrom_40 (by decide) (fun v29 z30 => ?_)
  have r31 := R_eq z30
  refine r_aload_n S dX3_copyFrom_41 rfl (lv_at hl 0 rfl) ?_
  refine r_get (K := 23) (v := .ref (G.2.2.2.1 55)) S X24 (Nat.le_of_ble_eq_true rfl) rfl lk3_18_3 (fun _ => ⟨_, rfl, rfl⟩) dX3_copyFrom_42 ?_
  refine r_iconst S dX3_copyFrom_45 (by decide) (fun v32 z33 => ?_)
  have r34 := R_eq z33
  refine r_aload_n S dX3_copyFrom_46 rfl (lv_at hl 0 rfl) ?_
  refine r_get (K := 23) (v := .ref (G.2.2.2.1 55)) S X24 (Nat.le_of_ble_eq_true rfl) rfl lk3_18_3 (fun _ => ⟨_, rfl, rfl⟩) dX3_copyFrom_47 ?_
  refine r_alen (x := (0, .inl fun _ => 0)) (n := 10) (K := 26) (t0 := 0) S X24 (Nat.le_of_ble_eq_true rfl) rfl (fun _ => ⟨_, rfl⟩) rfl (by decide) dX3_copyFrom_50 (fun v35 z36 => ?_)
  have r37 := R_eq z36
  refine r_copy (K2 := 26) (n := 10) (K := 26) S X24 (Nat.le_of_ble_eq_true rfl) rfl (Nat.le_of_ble_eq_true rfl) rfl (fun _ _ _ => rfl) (fun _ _ _ => rfl) hl.1 kw13 kw10 kw11 kw12 (by omega) (by omega) (by omega) ⟨Nat.le_of_ble_eq_true rfl, by decide⟩ dX3_copyFrom_51 (fun t39 H lc C40 X38 => ?_)
  have I41 := Inv_cp (K := 26) (K2 := 26) I27 C40 rfl rfl (fun _ _ h => h)
  have F42 : Fr [(52, 4), (52, 5), (52, 6), (52, 7), (52, 8), (52, 9), (52, 10)] [53, 54, 55, 56] τ t39 := Fr_cp F28 C40 (by decide)
  refine r_aload_n S dX3_copyFrom_54 rfl (lv_at hl 1 rfl) ?_
  refine r_get (K := 23) (v := .ref (G.2.2.2.1 34)) S X38 (Nat.le_of_ble_eq_true rfl) rfl lk3_21_3 (fun _ => ⟨_, rfl, rfl⟩) dX3_copyFrom_55 ?_
  refine r_iconst S dX3_copyFrom_58 (by decide) (fun v43 z44 => ?_)
  have r45 := R_eq z44
  refine r_aload_n S dX3_copyFrom_59 rfl (lv_at hl 0 rfl) ?_
  refine r_get (K := 23) (v := .ref (G.2.2.2.1 56)) S X38 (Nat.le_of_ble_eq_true rfl) rfl lk3_21_3 (fun _ => ⟨_, rfl, rfl⟩) dX3_copyFrom_60 ?_
  refine r_iconst S dX3_copyFrom_63 (by decide) (fun v46 z47 => ?_)
  have r48 := R_eq z47
  refine r_aload_n S dX3_copyFrom_64 rfl (lv_at hl 0 rfl) ?_
  refine r_get (K := 23) (v := .ref (G.2.2.2.1 56)) S X38 (Nat.le_of_ble_eq_true rfl) rfl lk3_21_3 (fun _ => ⟨_, rfl, rfl⟩) dX3_copyFrom_65 ?_
  refine r_alen (x := (0, .inl fun _ => 0)) (n := 10) (K := 27) (t0 := 0) S X38 (Nat.le_of_ble_eq_true rfl) rfl (fun _ => ⟨_, rfl⟩) rfl (by decide) dX3_copyFrom_68 (fun v49 z50 => ?_)
  have r51 := R_eq z50
  refine r_copy (K2 := 27) (n := 10) (K := 27) S X38 (Nat.le_of_ble_eq_true rfl) rfl (Nat.le_of_ble_eq_true rfl) rfl (fun _ _ _ => rfl) (fun _ _ _ => rfl) hl.1 kw13 kw10 kw11 kw12 (by omega) (by omega) (by omega) ⟨Nat.le_of_ble_eq_true rfl, by decide⟩ dX3_copyFrom_69 (fun t53 H lc C54 X52 => ?_)
  have I55 := Inv_cp (K := 27) (K2 := 27) I41 C54 rfl rfl (fun _ _ h => h)
  have F56 : Fr [(52, 4), (52, 5), (52, 6), (52, 7), (52, 8), (52, 9), (52, 10)] [53, 54, 55, 56] τ t53 := Fr_cp F42 C54 (by decide)
  refine r_aload_n S dX3_copyFrom_72 rfl (lv_at hl 0 rfl) ?_
  refine r_aload_n S dX3_copyFrom_73 rfl (lv_at hl 1 rfl) ?_
  refine r_getn (K := 23) S X52 (Nat.le_of_ble_eq_true rfl) rfl lk3_45_3 (fun _ => ⟨_, rfl, rfl⟩) dX3_copyFrom_74 (fun v57 z58 => ?_)
  have r59 : R (0) (1023) v57 := rd I55 rfl z58
  refine r_put (K := 23) (ty := .int) S X52 (Nat.le_of_ble_eq_true rfl) rfl lk3_45_3 (fun _ => ⟨_, rfl, Nat.le_of_ble_eq_true rfl, rfl⟩) (fun _ _ _ h => by cases h; exact ⟨rfl, rfl⟩) rfl rfl dX3_copyFrom_77 (fun t60 H lc M61 X62 => ?_)
  have I63 := Inv_mu I55 M61 (show Rg (kd 52) 4 v57 from (R_of (lo := 0) (hi := 1023) r59 rfl))
  have F64 : Fr [(52, 4), (52, 5), (52, 6), (52, 7), (52, 8), (52, 9), (52, 10)] [53, 54, 55, 56] τ t60 := Fr_mu F56 M61 (by decide)
  refine r_aload_n S dX3_copyFrom_80 rfl (lv_at hl 0 rfl) ?_
  refine r_aload_n S dX3_copyFrom_81 rfl (lv_at hl 1 rfl) ?_
  refine r_getn (K := 23) S X62 (Nat.le_of_ble_eq_true rfl) rfl lk3_48_3 (fun _ => ⟨_, rfl, rfl⟩) dX3_copyFrom_82 (fun v65 z66 => ?_)
  have r67 : R (0) (1) v65 := rd I63 rfl z66
  refine r_put (K := 23) (ty := .int) S X62 (Nat.le_of_ble_eq_true rfl) rfl lk3_48_3 (fun _ => ⟨_, rfl, Nat.le_of_ble_eq_true rfl, rfl⟩) (fun _ _ _ h => by cases h; exact ⟨rfl, rfl⟩) rfl rfl dX3_copyFrom_85 (fun t68 H lc M69 X70 => ?_)
  have I71 := Inv_mu I63 M69 (show Rg (kd 52) 5 v65 from (R_of (lo := 0) (hi := 1) r67 rfl))
  have F72 : Fr [(52, 4), (52, 5), (52, 6), (52, 7), (52, 8), (52, 9), (52, 10)] [53, 54, 55, 56] τ t68 := Fr_mu F64 M69 (by decide)
  refine r_aload_n S dX3_copyFrom_88 rfl (lv_at hl 0 rfl) ?_
  refine r_aload_n S dX3_copyFrom_89 rfl (lv_at hl 1 rfl) ?_
  refine r_getn (K := 23) S X70 (Nat.le_of_ble_eq_true rfl) rfl lk3_51_3 (fun _ => ⟨_, rfl, rfl⟩) dX3_copyFrom_90 (fun v73 z74 => ?_)
  have r75 : R (0) (1023) v73 := rd I71 rfl z74
  refine r_put (K := 23) (ty := .int) S X70 (Nat.le_of_ble_eq_true rfl) rfl lk3_51_3 (fun _ => ⟨_, rfl, Nat.le_of_ble_eq_true rfl, rfl⟩) (fun _ _ _ h => by cases h; exact ⟨rfl, rfl⟩) rfl rfl dX3_copyFrom_93 (fun t76 H lc M77 X78 => ?_)
  have I79 := Inv_mu I71 M77 (show Rg (kd 52) 6 v73 from (R_of (lo := 0) (hi := 1023) r75 rfl))
  have F80 : Fr [(52, 4), (52, 5), (52, 6), (52, 7), (52, 8), (52, 9), (52, 10)] [53, 54, 55, 56] τ t76 := Fr_mu F72 M77 (by decide)
  refine r_aload_n S dX3_copyFrom_96 rfl (lv_at hl 0 rfl) ?_
  refine r_aload_n S dX3_copyFrom_97 rfl (lv_at hl 1 rfl) ?_
  refine r_getn (K := 23) S X78 (Nat.le_of_ble_eq_true rfl) rfl lk3_54_3 (fun _ => ⟨_, rfl, rfl⟩) dX3_copyFrom_98 (fun v81 z82 => ?_)
  have r83 : R (0) (1023) v81 := rd I79 rfl z82
  refine r_put (K := 23) (ty := .int) S X78 (Nat.le_of_ble_eq_true rfl) rfl lk3_54_3 (fun _ => ⟨_, rfl, Nat.le_of_ble_eq_true rfl, rfl⟩) (fun _ _ _ h => by cases h; exact ⟨rfl, rfl⟩) rfl rfl dX3_copyFrom_101 (fun t84 H lc M85 X86 => ?_)
  have I87 := Inv_mu I79 M85 (show Rg (kd 52) 7 v81 from (R_of (lo := 0) (hi := 1023) r83 rfl))
  have F88 : Fr [(52, 4), (52, 5), (52, 6), (52, 7), (52, 8), (52, 9), (52, 10)] [53, 54, 55, 56] τ t84 := Fr_mu F80 M85 (by decide)
  refine r_aload_n S dX3_copyFrom_104 rfl (lv_at hl 0 rfl) ?_
  refine r_aload_n S dX3_copyFrom_105 rfl (lv_at hl 1 rfl) ?_
  refine r_getn (K := 23) S X86 (Nat.le_of_ble_eq_true rfl) rfl lk3_24_3 (fun _ => ⟨_, rfl, rfl⟩) dX3_copyFrom_106 (fun v89 z90 => ?_)
  have r91 : R (-1) (8) v89 := rd I87 rfl z90
  refine r_put (K := 23) (ty := .int) S X86 (Nat.le_of_ble_eq_true rfl) rfl lk3_24_3 (fun _ => ⟨_, rfl, Nat.le_of_ble_eq_true rfl, rfl⟩) (fun _ _ _ h => by cases h; exact ⟨rfl, rfl⟩) rfl rfl dX3_copyFrom_109 (fun t92 H lc M93 X94 => ?_)
  have I95 := Inv_mu I87 M93 (show Rg (kd 52) 8 v89 from (R_of (lo := -1) (hi := 8) r91 rfl))
  have F96 : Fr [(52, 4), (52, 5), (52, 6), (52, 7), (52, 8), (52, 9), (52, 10)] [53, 54, 55, 56] τ t92 := Fr_mu F88 M93 (by decide)
  refine r_aload_n S dX3_copyFrom_112 rfl (lv_at hl 0 rfl) ?_
  refine r_aload_n S dX3_copyFrom_113 rfl (lv_at hl 1 rfl) ?_
  refine r_getn (K := 23) S X94 (Nat.le_of_ble_eq_true rfl) rfl lk3_60_3 (fun _ => ⟨_, rfl, rfl⟩) dX3_copyFrom_114 (fun v97 z98 => ?_)
  have r100 := R_any v97
  refine r_put (K := 23) (ty := .int) S X94 (Nat.le_of_ble_eq_true rfl) rfl lk3_60_3 (fun _ => ⟨_, rfl, Nat.le_of_ble_eq_true rfl, rfl⟩) (fun _ _ _ h => by cases h; exact ⟨rfl, rfl⟩) rfl rfl dX3_copyFrom_117 (fun t101 H lc M102 X103 => ?_)
  have I104 := Inv_mu I95 M102 (R_any v97)
  have F105 : Fr [(52, 4), (52, 5), (52, 6), (52, 7), (52, 8), (52, 9), (52, 10)] [53, 54, 55, 56] τ t101 := Fr_mu F96 M102 (by decide)
  refine r_aload_n S dX3_copyFrom_120 rfl (lv_at hl 0 rfl) ?_
  refine r_aload_n S dX3_copyFrom_121 rfl (lv_at hl 1 rfl) ?_
  refine r_getn (K := 23) S X103 (Nat.le_of_ble_eq_true rfl) rfl lk3_63_3 (fun _ => ⟨_, rfl, rfl⟩) dX3_copyFrom_122 (fun v106 z107 => ?_)
  have r109 := R_any v106
  refine r_put (K := 23) (ty := .int) S X103 (Nat.le_of_ble_eq_true rfl) rfl lk3_63_3 (fun _ => ⟨_, rfl, Nat.le_of_ble_eq_true rfl, rfl⟩) (fun _ _ _ h => by cases h; exact ⟨rfl, rfl⟩) rfl rfl dX3_copyFrom_125 (fun t110 H lc M111 X112 => ?_)
  have I113 := Inv_mu I104 M111 (R_any v106)
  have F114 : Fr [(52, 4), (52, 5), (52, 6), (52, 7), (52, 8), (52, 9), (52, 10)] [53, 54, 55, 56] τ t110 := Fr_mu F105 M111 (by decide)
  exact r_vret S hr hlk X112 ⟨I113, F114, (((M111.2 52 8 (Or.inr (by decide))).trans ((M102.2 52 8 (Or.inr (by decide))).trans M93.1)).trans (((M85.2 30 8 (Or.inl (by decide))).trans ((M77.2 30 8 (Or.inl (by decide))).trans ((M69.2 30 8 (Or.inl (by decide))).trans ((M61.2 30 8 (Or.inl (by decide))).trans ((C54.1 30 (by decide) 8).trans ((C40.1 30 (by decide) 8).trans ((C26.1 30 (by decide) 8).trans ((C12.1 30 (by decide) 8).trans rfl)))))))).symm.trans z90).symm)⟩ dX3_copyFrom_128
def po_scopy_30_52 (τ : Tau)     (u : Tau) : Prop := Inv u ∧ Fr [(30, 4), (30, 5), (30, 6), (30, 7), (30, 8), (30, 9), (30, 10)] [31, 32, 33, 34] τ u ∧ u 30 8 = τ 52 8
set_option maxHeartbeats 4000000 in
set_option maxRecDepth 100000 in
theorem c_scopy_30_52 (l : Launch) (G : Gx) (τ : Tau) (hI : Inv τ) : Cv l G yX3_copyFrom cX3_copyFrom 2 1 60 [.ref (G.2.2.2.1 30), .ref (G.2.2.2.1 52)] τ (po_scopy_30_52 τ    ) := by
  unfold Cv
  refine C_of (own := RX3) (by decide) rfl (Nat.le_of_ble_eq_true rfl) ?_
  intro p e s m below meth c ls S hr hlk X hl
  have hl : lv_has ls 2 [(0, .ref (G.2.2.2.1 30)), (1, .ref (G.2.2.2.1 52))] := hl
  refine r_aload_n S dX3_copyFrom_0 rfl (lv_at hl 1 rfl) ?_
  refine r_get (K := 23) (v := .ref (G.2.2.2.1 53)) S X (Nat.le_of_ble_eq_true rfl) rfl lk3_9_3 (fun _ => ⟨_, rfl, rfl⟩) dX3_copyFrom_1 ?_
  refine r_iconst S dX3_copyFrom_4 (by decide) (fun v1 z2 => ?_)
  have r3 := R_eq z2
  refine r_aload_n S dX3_copyFrom_5 rfl (lv_at hl 0 rfl) ?_
  refine r_get (K := 23) (v := .ref (G.2.2.2.1 31)) S X (Nat.le_of_ble_eq_true rfl) rfl lk3_9_3 (fun _ => ⟨_, rfl, rfl⟩) dX3_copyFrom_6 ?_
  refine r_iconst S dX3_copyFrom_9 (by decide) (fun v4 z5 => ?_)
  have r6 := R_eq z5
  refine r_aload_n S dX3_copyFrom_10 rfl (lv_at hl 0 rfl) ?_
  refine r_get (K := 23) (v := .ref (G.2.2.2.1 31)) S X (Nat.le_of_ble_eq_true rfl) rfl lk3_9_3 (fun _ => ⟨_, rfl, rfl⟩) dX3_copyFrom_11 ?_
  refine r_alen (x := (0, .inl fun _ => 0)) (n := 90) (K := 24) (t0 := 0) S X (Nat.le_of_ble_eq_true rfl) rfl (fun _ => ⟨_, rfl⟩) rfl (by decide) dX3_copyFrom_14 (fun v7 z8 => ?_)
  have r9 := R_eq z8
  refine r_copy (K2 := 24) (n := 90) (K := 24) S X (Nat.le_of_ble_eq_true rfl) rfl (Nat.le_of_ble_eq_true rfl) rfl (fun _ _ _ => rfl) (fun _ _ _ => rfl) hl.1 kw13 kw10 kw11 kw12 (by omega) (by omega) (by omega) ⟨Nat.le_of_ble_eq_true rfl, by decide⟩ dX3_copyFrom_15 (fun t11 H lc C12 X10 => ?_)
  have I13 := Inv_cp (K := 24) (K2 := 24) hI C12 rfl rfl (fun _ _ h => h)
  have F14 : Fr [(30, 4), (30, 5), (30, 6), (30, 7), (30, 8), (30, 9), (30, 10)] [31, 32, 33, 34] τ t11 := Fr_cp Fr_rfl C12 (by decide)
  refine r_aload_n S dX3_copyFrom_18 rfl (lv_at hl 1 rfl) ?_
  refine r_get (K := 23) (v := .ref (G.2.2.2.1 54)) S X10 (Nat.le_of_ble_eq_true rfl) rfl lk3_15_3 (fun _ => ⟨_, rfl, rfl⟩) dX3_copyFrom_19 ?_
  refine r_iconst S dX3_copyFrom_22 (by decide) (fun v15 z16 => ?_)
  have r17 := R_eq z16
  refine r_aload_n S dX3_copyFrom_23 rfl (lv_at hl 0 rfl) ?_
  refine r_get (K := 23) (v := .ref (G.2.2.2.1 32)) S X10 (Nat.le_of_ble_eq_true rfl) rfl lk3_15_3 (fun _ => ⟨_, rfl, rfl⟩) dX3_copyFrom_24 ?_
  refine r_iconst S dX3_copyFrom_27 (by decide) (fun v18 z19 => ?_)
  have r20 := R_eq z19
  refine r_aload_n S dX3_copyFrom_28 rfl (lv_at hl 0 rfl) ?_
  refine r_get (K := 23) (v := .ref (G.2.2.2.1 32)) S X10 (Nat.le_of_ble_eq_true rfl) rfl lk3_15_3 (fun _ => ⟨_, rfl, rfl⟩) dX3_copyFrom_29 ?_
  refine r_alen (x := (0, .inl fun _ => 0)) (n := 90) (K := 25) (t0 := 0) S X10 (Nat.le_of_ble_eq_true rfl) rfl (fun _ => ⟨_, rfl⟩) rfl (by decide) dX3_copyFrom_32 (fun v21 z22 => ?_)
  have r23 := R_eq z22
  refine r_copy (K2 := 25) (n := 90) (K := 25) S X10 (Nat.le_of_ble_eq_true rfl) rfl (Nat.le_of_ble_eq_true rfl) rfl (fun _ _ _ => rfl) (fun _ _ _ => rfl) hl.1 kw13 kw10 kw11 kw12 (by omega) (by omega) (by omega) ⟨Nat.le_of_ble_eq_true rfl, by decide⟩ dX3_copyFrom_33 (fun t25 H lc C26 X24 => ?_)
  have I27 := Inv_cp (K := 25) (K2 := 25) I13 C26 rfl rfl (fun _ _ h => h)
  have F28 : Fr [(30, 4), (30, 5), (30, 6), (30, 7), (30, 8), (30, 9), (30, 10)] [31, 32, 33, 34] τ t25 := Fr_cp F14 C26 (by decide)
  refine r_aload_n S dX3_copyFrom_36 rfl (lv_at hl 1 rfl) ?_
  refine r_get (K := 23) (v := .ref (G.2.2.2.1 55)) S X24 (Nat.le_of_ble_eq_true rfl) rfl lk3_18_3 (fun _ => ⟨_, rfl, rfl⟩) dX3_copyFrom_37 ?_
  refine r_iconst S dX3_copyFrom_40 (by decide) (fun v29 z30 => ?_)
  have r31 := R_eq z30
  refine r_aload_n S dX3_copyFrom_41 rfl (lv_at hl 0 rfl) ?_
  refine r_get (K := 23) (v := .ref (G.2.2.2.1 33)) S X24 (Nat.le_of_ble_eq_true rfl) rfl lk3_18_3 (fun _ => ⟨_, rfl, rfl⟩) dX3_copyFrom_42 ?_
  refine r_iconst S dX3_copyFrom_45 (by decide) (fun v32 z33 => ?_)
  have r34 := R_eq z33
  refine r_aload_n S dX3_copyFrom_46 rfl (lv_at hl 0 rfl) ?_
  refine r_get (K := 23) (v := .ref (G.2.2.2.1 33)) S X24 (Nat.le_of_ble_eq_true rfl) rfl lk3_18_3 (fun _ => ⟨_, rfl, rfl⟩) dX3_copyFrom_47 ?_
  refine r_alen (x := (0, .inl fun _ => 0)) (n := 10) (K := 26) (t0 := 0) S X24 (Nat.le_of_ble_eq_true rfl) rfl (fun _ => ⟨_, rfl⟩) rfl (by decide) dX3_copyFrom_50 (fun v35 z36 => ?_)
  have r37 := R_eq z36
  refine r_copy (K2 := 26) (n := 10) (K := 26) S X24 (Nat.le_of_ble_eq_true rfl) rfl (Nat.le_of_ble_eq_true rfl) rfl (fun _ _ _ => rfl) (fun _ _ _ => rfl) hl.1 kw13 kw10 kw11 kw12 (by omega) (by omega) (by omega) ⟨Nat.le_of_ble_eq_true rfl, by decide⟩ dX3_copyFrom_51 (fun t39 H lc C40 X38 => ?_)
  have I41 := Inv_cp (K := 26) (K2 := 26) I27 C40 rfl rfl (fun _ _ h => h)
  have F42 : Fr [(30, 4), (30, 5), (30, 6), (30, 7), (30, 8), (30, 9), (30, 10)] [31, 32, 33, 34] τ t39 := Fr_cp F28 C40 (by decide)
  refine r_aload_n S dX3_copyFrom_54 rfl (lv_at hl 1 rfl) ?_
  refine r_get (K := 23) (v := .ref (G.2.2.2.1 56)) S X38 (Nat.le_of_ble_eq_true rfl) rfl lk3_21_3 (fun _ => ⟨_, rfl, rfl⟩) dX3_copyFrom_55 ?_
  refine r_iconst S dX3_copyFrom_58 (by decide) (fun v43 z44 => ?_)
  have r45 := R_eq z44
  refine r_aload_n S dX3_copyFrom_59 rfl (lv_at hl 0 rfl) ?_
  refine r_get (K := 23) (v := .ref (G.2.2.2.1 34)) S X38 (Nat.le_of_ble_eq_true rfl) rfl lk3_21_3 (fun _ => ⟨_, rfl, rfl⟩) dX3_copyFrom_60 ?_
  refine r_iconst S dX3_copyFrom_63 (by decide) (fun v46 z47 => ?_)
  have r48 := R_eq z47
  refine r_aload_n S dX3_copyFrom_64 rfl (lv_at hl 0 rfl) ?_
  refine r_get (K := 23) (v := .ref (G.2.2.2.1 34)) S X38 (Nat.le_of_ble_eq_true rfl) rfl lk3_21_3 (fun _ => ⟨_, rfl, rfl⟩) dX3_copyFrom_65 ?_
  refine r_alen (x := (0, .inl fun _ => 0)) (n := 10) (K := 27) (t0 := 0) S X38 (Nat.le_of_ble_eq_true rfl) rfl (fun _ => ⟨_, rfl⟩) rfl (by decide) dX3_copyFrom_68 (fun v49 z50 => ?_)
  have r51 := R_eq z50
  refine r_copy (K2 := 27) (n := 10) (K := 27) S X38 (Nat.le_of_ble_eq_true rfl) rfl (Nat.le_of_ble_eq_true rfl) rfl (fun _ _ _ => rfl) (fun _ _ _ => rfl) hl.1 kw13 kw10 kw11 kw12 (by omega) (by omega) (by omega) ⟨Nat.le_of_ble_eq_true rfl, by decide⟩ dX3_copyFrom_69 (fun t53 H lc C54 X52 => ?_)
  have I55 := Inv_cp (K := 27) (K2 := 27) I41 C54 rfl rfl (fun _ _ h => h)
  have F56 : Fr [(30, 4), (30, 5), (30, 6), (30, 7), (30, 8), (30, 9), (30, 10)] [31, 32, 33, 34] τ t53 := Fr_cp F42 C54 (by decide)
  refine r_aload_n S dX3_copyFrom_72 rfl (lv_at hl 0 rfl) ?_
  refine r_aload_n S dX3_copyFrom_73 rfl (lv_at hl 1 rfl) ?_
  refine r_getn (K := 23) S X52 (Nat.le_of_ble_eq_true rfl) rfl lk3_45_3 (fun _ => ⟨_, rfl, rfl⟩) dX3_copyFrom_74 (fun v57 z58 => ?_)
  have r59 : R (0) (1023) v57 := rd I55 rfl z58
  refine r_put (K := 23) (ty := .int) S X52 (Nat.le_of_ble_eq_true rfl) rfl lk3_45_3 (fun _ => ⟨_, rfl, Nat.le_of_ble_eq_true rfl, rfl⟩) (fun _ _ _ h => by cases h; exact ⟨rfl, rfl⟩) rfl rfl dX3_copyFrom_77 (fun t60 H lc M61 X62 => ?_)
  have I63 := Inv_mu I55 M61 (show Rg (kd 30) 4 v57 from (R_of (lo := 0) (hi := 1023) r59 rfl))
  have F64 : Fr [(30, 4), (30, 5), (30, 6), (30, 7), (30, 8), (30, 9), (30, 10)] [31, 32, 33, 34] τ t60 := Fr_mu F56 M61 (by decide)
  refine r_aload_n S dX3_copyFrom_80 rfl (lv_at hl 0 rfl) ?_
  refine r_aload_n S dX3_copyFrom_81 rfl (lv_at hl 1 rfl) ?_
  refine r_getn (K := 23) S X62 (Nat.le_of_ble_eq_true rfl) rfl lk3_48_3 (fun _ => ⟨_, rfl, rfl⟩) dX3_copyFrom_82 (fun v65 z66 => ?_)
  have r67 : R (0) (1) v65 := rd I63 rfl z66
  refine r_put (K := 23) (ty := .int) S X62 (Nat.le_of_ble_eq_true rfl) rfl lk3_48_3 (fun _ => ⟨_, rfl, Nat.le_of_ble_eq_true rfl, rfl⟩) (fun _ _ _ h => by cases h; exact ⟨rfl, rfl⟩) rfl rfl dX3_copyFrom_85 (fun t68 H lc M69 X70 => ?_)
  have I71 := Inv_mu I63 M69 (show Rg (kd 30) 5 v65 from (R_of (lo := 0) (hi := 1) r67 rfl))
  have F72 : Fr [(30, 4), (30, 5), (30, 6), (30, 7), (30, 8), (30, 9), (30, 10)] [31, 32, 33, 34] τ t68 := Fr_mu F64 M69 (by decide)
  refine r_aload_n S dX3_copyFrom_88 rfl (lv_at hl 0 rfl) ?_
  refine r_aload_n S dX3_copyFrom_89 rfl (lv_at hl 1 rfl) ?_
  refine r_getn (K := 23) S X70 (Nat.le_of_ble_eq_true rfl) rfl lk3_51_3 (fun _ => ⟨_, rfl, rfl⟩) dX3_copyFrom_90 (fun v73 z74 => ?_)
  have r75 : R (0) (1023) v73 := rd I71 rfl z74
  refine r_put (K := 23) (ty := .int) S X70 (Nat.le_of_ble_eq_true rfl) rfl lk3_51_3 (fun _ => ⟨_, rfl, Nat.le_of_ble_eq_true rfl, rfl⟩) (fun _ _ _ h => by cases h; exact ⟨rfl, rfl⟩) rfl rfl dX3_copyFrom_93 (fun t76 H lc M77 X78 => ?_)
  have I79 := Inv_mu I71 M77 (show Rg (kd 30) 6 v73 from (R_of (lo := 0) (hi := 1023) r75 rfl))
  have F80 : Fr [(30, 4), (30, 5), (30, 6), (30, 7), (30, 8), (30, 9), (30, 10)] [31, 32, 33, 34] τ t76 := Fr_mu F72 M77 (by decide)
  refine r_aload_n S dX3_copyFrom_96 rfl (lv_at hl 0 rfl) ?_
  refine r_aload_n S dX3_copyFrom_97 rfl (lv_at hl 1 rfl) ?_
  refine r_getn (K := 23) S X78 (Nat.le_of_ble_eq_true rfl) rfl lk3_54_3 (fun _ => ⟨_, rfl, rfl⟩) dX3_copyFrom_98 (fun v81 z82 => ?_)
  have r83 : R (0) (1023) v81 := rd I79 rfl z82
  refine r_put (K := 23) (ty := .int) S X78 (Nat.le_of_ble_eq_true rfl) rfl lk3_54_3 (fun _ => ⟨_, rfl, Nat.le_of_ble_eq_true rfl, rfl⟩) (fun _ _ _ h => by cases h; exact ⟨rfl, rfl⟩) rfl rfl dX3_copyFrom_101 (fun t84 H lc M85 X86 => ?_)
  have I87 := Inv_mu I79 M85 (show Rg (kd 30) 7 v81 from (R_of (lo := 0) (hi := 1023) r83 rfl))
  have F88 : Fr [(30, 4), (30, 5), (30, 6), (30, 7), (30, 8), (30, 9), (30, 10)] [31, 32, 33, 34] τ t84 := Fr_mu F80 M85 (by decide)
  refine r_aload_n S dX3_copyFrom_104 rfl (lv_at hl 0 rfl) ?_
  refine r_aload_n S dX3_copyFrom_105 rfl (lv_at hl 1 rfl) ?_
  refine r_getn (K := 23) S X86 (Nat.le_of_ble_eq_true rfl) rfl lk3_24_3 (fun _ => ⟨_, rfl, rfl⟩) dX3_copyFrom_106 (fun v89 z90 => ?_)
  have r91 : R (-1) (8) v89 := rd I87 rfl z90
  refine r_put (K := 23) (ty := .int) S X86 (Nat.le_of_ble_eq_true rfl) rfl lk3_24_3 (fun _ => ⟨_, rfl, Nat.le_of_ble_eq_true rfl, rfl⟩) (fun _ _ _ h => by cases h; exact ⟨rfl, rfl⟩) rfl rfl dX3_copyFrom_109 (fun t92 H lc M93 X94 => ?_)
  have I95 := Inv_mu I87 M93 (show Rg (kd 30) 8 v89 from (R_of (lo := -1) (hi := 8) r91 rfl))
  have F96 : Fr [(30, 4), (30, 5), (30, 6), (30, 7), (30, 8), (30, 9), (30, 10)] [31, 32, 33, 34] τ t92 := Fr_mu F88 M93 (by decide)
  refine r_aload_n S dX3_copyFrom_112 rfl (lv_at hl 0 rfl) ?_
  refine r_aload_n S dX3_copyFrom_113 rfl (lv_at hl 1 rfl) ?_
  refine r_getn (K := 23) S X94 (Nat.le_of_ble_eq_true rfl) rfl lk3_60_3 (fun _ => ⟨_, rfl, rfl⟩) dX3_copyFrom_114 (fun v97 z98 => ?_)
  have r100 := R_any v97
  refine r_put (K := 23) (ty := .int) S X94 (Nat.le_of_ble_eq_true rfl) rfl lk3_60_3 (fun _ => ⟨_, rfl, Nat.le_of_ble_eq_true rfl, rfl⟩) (fun _ _ _ h => by cases h; exact ⟨rfl, rfl⟩) rfl rfl dX3_copyFrom_117 (fun t101 H lc M102 X103 => ?_)
  have I104 := Inv_mu I95 M102 (R_any v97)
  have F105 : Fr [(30, 4), (30, 5), (30, 6), (30, 7), (30, 8), (30, 9), (30, 10)] [31, 32, 33, 34] τ t101 := Fr_mu F96 M102 (by decide)
  refine r_aload_n S dX3_copyFrom_120 rfl (lv_at hl 0 rfl) ?_
  refine r_aload_n S dX3_copyFrom_121 rfl (lv_at hl 1 rfl) ?_
  refine r_getn (K := 23) S X103 (Nat.le_of_ble_eq_true rfl) rfl lk3_63_3 (fun _ => ⟨_, rfl, rfl⟩) dX3_copyFrom_122 (fun v106 z107 => ?_)
  have r109 := R_any v106
  refine r_put (K := 23) (ty := .int) S X103 (Nat.le_of_ble_eq_true rfl) rfl lk3_63_3 (fun _ => ⟨_, rfl, Nat.le_of_ble_eq_true rfl, rfl⟩) (fun _ _ _ h => by cases h; exact ⟨rfl, rfl⟩) rfl rfl dX3_copyFrom_125 (fun t110 H lc M111 X112 => ?_)
  have I113 := Inv_mu I104 M111 (R_any v106)
  have F114 : Fr [(30, 4), (30, 5), (30, 6), (30, 7), (30, 8), (30, 9), (30, 10)] [31, 32, 33, 34] τ t110 := Fr_mu F105 M111 (by decide)
  exact r_vret S hr hlk X112 ⟨I113, F114, (((M111.2 30 8 (Or.inr (by decide))).trans ((M102.2 30 8 (Or.inr (by decide))).trans M93.1)).trans (((M85.2 52 8 (Or.inl (by decide))).trans ((M77.2 52 8 (Or.inl (by decide))).trans ((M69.2 52 8 (Or.inl (by decide))).trans ((M61.2 52 8 (Or.inl (by decide))).trans ((C54.1 52 (by decide) 8).trans ((C40.1 52 (by decide) 8).trans ((C26.1 52 (by decide) 8).trans ((C12.1 52 (by decide) 8).trans rfl)))))))).symm.trans z90).symm)⟩ dX3_copyFrom_128
def po_scopy_57_30 (τ : Tau)     (u : Tau) : Prop := Inv u ∧ Fr [(57, 4), (57, 5), (57, 6), (57, 7), (57, 8), (57, 9), (57, 10)] [58, 59, 60, 61] τ u ∧ u 57 8 = τ 30 8
set_option maxHeartbeats 4000000 in
set_option maxRecDepth 100000 in
theorem c_scopy_57_30 (l : Launch) (G : Gx) (τ : Tau) (hI : Inv τ) : Cv l G yX3_copyFrom cX3_copyFrom 2 1 60 [.ref (G.2.2.2.1 57), .ref (G.2.2.2.1 30)] τ (po_scopy_57_30 τ    ) := by
  unfold Cv
  refine C_of (own := RX3) (by decide) rfl (Nat.le_of_ble_eq_true rfl) ?_
  intro p e s m below meth c ls S hr hlk X hl
  have hl : lv_has ls 2 [(0, .ref (G.2.2.2.1 57)), (1, .ref (G.2.2.2.1 30))] := hl
  refine r_aload_n S dX3_copyFrom_0 rfl (lv_at hl 1 rfl) ?_
  refine r_get (K := 23) (v := .ref (G.2.2.2.1 31)) S X (Nat.le_of_ble_eq_true rfl) rfl lk3_9_3 (fun _ => ⟨_, rfl, rfl⟩) dX3_copyFrom_1 ?_
  refine r_iconst S dX3_copyFrom_4 (by decide) (fun v1 z2 => ?_)
  have r3 := R_eq z2
  refine r_aload_n S dX3_copyFrom_5 rfl (lv_at hl 0 rfl) ?_
  refine r_get (K := 23) (v := .ref (G.2.2.2.1 58)) S X (Nat.le_of_ble_eq_true rfl) rfl lk3_9_3 (fun _ => ⟨_, rfl, rfl⟩) dX3_copyFrom_6 ?_
  refine r_iconst S dX3_copyFrom_9 (by decide) (fun v4 z5 => ?_)
  have r6 := R_eq z5
  refine r_aload_n S dX3_copyFrom_10 rfl (lv_at hl 0 rfl) ?_
  refine r_get (K := 23) (v := .ref (G.2.2.2.1 58)) S X (Nat.le_of_ble_eq_true rfl) rfl lk3_9_3 (fun _ => ⟨_, rfl, rfl⟩) dX3_copyFrom_11 ?_
  refine r_alen (x := (0, .inl fun _ => 0)) (n := 90) (K := 24) (t0 := 0) S X (Nat.le_of_ble_eq_true rfl) rfl (fun _ => ⟨_, rfl⟩) rfl (by decide) dX3_copyFrom_14 (fun v7 z8 => ?_)
  have r9 := R_eq z8
  refine r_copy (K2 := 24) (n := 90) (K := 24) S X (Nat.le_of_ble_eq_true rfl) rfl (Nat.le_of_ble_eq_true rfl) rfl (fun _ _ _ => rfl) (fun _ _ _ => rfl) hl.1 kw13 kw10 kw11 kw12 (by omega) (by omega) (by omega) ⟨Nat.le_of_ble_eq_true rfl, by decide⟩ dX3_copyFrom_15 (fun t11 H lc C12 X10 => ?_)
  have I13 := Inv_cp (K := 24) (K2 := 24) hI C12 rfl rfl (fun _ _ h => h)
  have F14 : Fr [(57, 4), (57, 5), (57, 6), (57, 7), (57, 8), (57, 9), (57, 10)] [58, 59, 60, 61] τ t11 := Fr_cp Fr_rfl C12 (by decide)
  refine r_aload_n S dX3_copyFrom_18 rfl (lv_at hl 1 rfl) ?_
  refine r_get (K := 23) (v := .ref (G.2.2.2.1 32)) S X10 (Nat.le_of_ble_eq_true rfl) rfl lk3_15_3 (fun _ => ⟨_, rfl, rfl⟩) dX3_copyFrom_19 ?_
  refine r_iconst S dX3_copyFrom_22 (by decide) (fun v15 z16 => ?_)
  have r17 := R_eq z16
  refine r_aload_n S dX3_copyFrom_23 rfl (lv_at hl 0 rfl) ?_
  refine r_get (K := 23) (v := .ref (G.2.2.2.1 59)) S X10 (Nat.le_of_ble_eq_true rfl) rfl lk3_15_3 (fun _ => ⟨_, rfl, rfl⟩) dX3_copyFrom_24 ?_
  refine r_iconst S dX3_copyFrom_27 (by decide) (fun v18 z19 => ?_)
  have r20 := R_eq z19
  refine r_aload_n S dX3_copyFrom_28 rfl (lv_at hl 0 rfl) ?_
  refine r_get (K := 23) (v := .ref (G.2.2.2.1 59)) S X10 (Nat.le_of_ble_eq_true rfl) rfl lk3_15_3 (fun _ => ⟨_, rfl, rfl⟩) dX3_copyFrom_29 ?_
  refine r_alen (x := (0, .inl fun _ => 0)) (n := 90) (K := 25) (t0 := 0) S X10 (Nat.le_of_ble_eq_true rfl) rfl (fun _ => ⟨_, rfl⟩) rfl (by decide) dX3_copyFrom_32 (fun v21 z22 => ?_)
  have r23 := R_eq z22
  refine r_copy (K2 := 25) (n := 90) (K := 25) S X10 (Nat.le_of_ble_eq_true rfl) rfl (Nat.le_of_ble_eq_true rfl) rfl (fun _ _ _ => rfl) (fun _ _ _ => rfl) hl.1 kw13 kw10 kw11 kw12 (by omega) (by omega) (by omega) ⟨Nat.le_of_ble_eq_true rfl, by decide⟩ dX3_copyFrom_33 (fun t25 H lc C26 X24 => ?_)
  have I27 := Inv_cp (K := 25) (K2 := 25) I13 C26 rfl rfl (fun _ _ h => h)
  have F28 : Fr [(57, 4), (57, 5), (57, 6), (57, 7), (57, 8), (57, 9), (57, 10)] [58, 59, 60, 61] τ t25 := Fr_cp F14 C26 (by decide)
  refine r_aload_n S dX3_copyFrom_36 rfl (lv_at hl 1 rfl) ?_
  refine r_get (K := 23) (v := .ref (G.2.2.2.1 33)) S X24 (Nat.le_of_ble_eq_true rfl) rfl lk3_18_3 (fun _ => ⟨_, rfl, rfl⟩) dX3_copyFrom_37 ?_
  refine r_iconst S dX3_copyFrom_40 (by decide) (fun v29 z30 => ?_)
  have r31 := R_eq z30
  refine r_aload_n S dX3_copyFrom_41 rfl (lv_at hl 0 rfl) ?_
  refine r_get (K := 23) (v := .ref (G.2.2.2.1 60)) S X24 (Nat.le_of_ble_eq_true rfl) rfl lk3_18_3 (fun _ => ⟨_, rfl, rfl⟩) dX3_copyFrom_42 ?_
  refine r_iconst S dX3_copyFrom_45 (by decide) (fun v32 z33 => ?_)
  have r34 := R_eq z33
  refine r_aload_n S dX3_copyFrom_46 rfl (lv_at hl 0 rfl) ?_
  refine r_get (K := 23) (v := .ref (G.2.2.2.1 60)) S X24 (Nat.le_of_ble_eq_true rfl) rfl lk3_18_3 (fun _ => ⟨_, rfl, rfl⟩) dX3_copyFrom_47 ?_
  refine r_alen (x := (0, .inl fun _ => 0)) (n := 10) (K := 26) (t0 := 0) S X24 (Nat.le_of_ble_eq_true rfl) rfl (fun _ => ⟨_, rfl⟩) rfl (by decide) dX3_copyFrom_50 (fun v35 z36 => ?_)
  have r37 := R_eq z36
  refine r_copy (K2 := 26) (n := 10) (K := 26) S X24 (Nat.le_of_ble_eq_true rfl) rfl (Nat.le_of_ble_eq_true rfl) rfl (fun _ _ _ => rfl) (fun _ _ _ => rfl) hl.1 kw13 kw10 kw11 kw12 (by omega) (by omega) (by omega) ⟨Nat.le_of_ble_eq_true rfl, by decide⟩ dX3_copyFrom_51 (fun t39 H lc C40 X38 => ?_)
  have I41 := Inv_cp (K := 26) (K2 := 26) I27 C40 rfl rfl (fun _ _ h => h)
  have F42 : Fr [(57, 4), (57, 5), (57, 6), (57, 7), (57, 8), (57, 9), (57, 10)] [58, 59, 60, 61] τ t39 := Fr_cp F28 C40 (by decide)
  refine r_aload_n S dX3_copyFrom_54 rfl (lv_at hl 1 rfl) ?_
  refine r_get (K := 23) (v := .ref (G.2.2.2.1 34)) S X38 (Nat.le_of_ble_eq_true rfl) rfl lk3_21_3 (fun _ => ⟨_, rfl, rfl⟩) dX3_copyFrom_55 ?_
  refine r_iconst S dX3_copyFrom_58 (by decide) (fun v43 z44 => ?_)
  have r45 := R_eq z44
  refine r_aload_n S dX3_copyFrom_59 rfl (lv_at hl 0 rfl) ?_
  refine r_get (K := 23) (v := .ref (G.2.2.2.1 61)) S X38 (Nat.le_of_ble_eq_true rfl) rfl lk3_21_3 (fun _ => ⟨_, rfl, rfl⟩) dX3_copyFrom_60 ?_
  refine r_iconst S dX3_copyFrom_63 (by decide) (fun v46 z47 => ?_)
  have r48 := R_eq z47
  refine r_aload_n S dX3_copyFrom_64 rfl (lv_at hl 0 rfl) ?_
  refine r_get (K := 23) (v := .ref (G.2.2.2.1 61)) S X38 (Nat.le_of_ble_eq_true rfl) rfl lk3_21_3 (fun _ => ⟨_, rfl, rfl⟩) dX3_copyFrom_65 ?_
  refine r_alen (x := (0, .inl fun _ => 0)) (n := 10) (K := 27) (t0 := 0) S X38 (Nat.le_of_ble_eq_true rfl) rfl (fun _ => ⟨_, rfl⟩) rfl (by decide) dX3_copyFrom_68 (fun v49 z50 => ?_)
  have r51 := R_eq z50
  refine r_copy (K2 := 27) (n := 10) (K := 27) S X38 (Nat.le_of_ble_eq_true rfl) rfl (Nat.le_of_ble_eq_true rfl) rfl (fun _ _ _ => rfl) (fun _ _ _ => rfl) hl.1 kw13 kw10 kw11 kw12 (by omega) (by omega) (by omega) ⟨Nat.le_of_ble_eq_true rfl, by decide⟩ dX3_copyFrom_69 (fun t53 H lc C54 X52 => ?_)
  have I55 := Inv_cp (K := 27) (K2 := 27) I41 C54 rfl rfl (fun _ _ h => h)
  have F56 : Fr [(57, 4), (57, 5), (57, 6), (57, 7), (57, 8), (57, 9), (57, 10)] [58, 59, 60, 61] τ t53 := Fr_cp F42 C54 (by decide)
  refine r_aload_n S dX3_copyFrom_72 rfl (lv_at hl 0 rfl) ?_
  refine r_aload_n S dX3_copyFrom_73 rfl (lv_at hl 1 rfl) ?_
  refine r_getn (K := 23) S X52 (Nat.le_of_ble_eq_true rfl) rfl lk3_45_3 (fun _ => ⟨_, rfl, rfl⟩) dX3_copyFrom_74 (fun v57 z58 => ?_)
  have r59 : R (0) (1023) v57 := rd I55 rfl z58
  refine r_put (K := 23) (ty := .int) S X52 (Nat.le_of_ble_eq_true rfl) rfl lk3_45_3 (fun _ => ⟨_, rfl, Nat.le_of_ble_eq_true rfl, rfl⟩) (fun _ _ _ h => by cases h; exact ⟨rfl, rfl⟩) rfl rfl dX3_copyFrom_77 (fun t60 H lc M61 X62 => ?_)
  have I63 := Inv_mu I55 M61 (show Rg (kd 57) 4 v57 from (R_of (lo := 0) (hi := 1023) r59 rfl))
  have F64 : Fr [(57, 4), (57, 5), (57, 6), (57, 7), (57, 8), (57, 9), (57, 10)] [58, 59, 60, 61] τ t60 := Fr_mu F56 M61 (by decide)
  refine r_aload_n S dX3_copyFrom_80 rfl (lv_at hl 0 rfl) ?_
  refine r_aload_n S dX3_copyFrom_81 rfl (lv_at hl 1 rfl) ?_
  refine r_getn (K := 23) S X62 (Nat.le_of_ble_eq_true rfl) rfl lk3_48_3 (fun _ => ⟨_, rfl, rfl⟩) dX3_copyFrom_82 (fun v65 z66 => ?_)
  have r67 : R (0) (1) v65 := rd I63 rfl z66
  refine r_put (K := 23) (ty := .int) S X62 (Nat.le_of_ble_eq_true rfl) rfl lk3_48_3 (fun _ => ⟨_, rfl, Nat.le_of_ble_eq_true rfl, rfl⟩) (fun _ _ _ h => by cases h; exact ⟨rfl, rfl⟩) rfl rfl dX3_copyFrom_85 (fun t68 H lc M69 X70 => ?_)
  have I71 := Inv_mu I63 M69 (show Rg (kd 57) 5 v65 from (R_of (lo := 0) (hi := 1) r67 rfl))
  have F72 : Fr [(57, 4), (57, 5), (57, 6), (57, 7), (57, 8), (57, 9), (57, 10)] [58, 59, 60, 61] τ t68 := Fr_mu F64 M69 (by decide)
  refine r_aload_n S dX3_copyFrom_88 rfl (lv_at hl 0 rfl) ?_
  refine r_aload_n S dX3_copyFrom_89 rfl (lv_at hl 1 rfl) ?_
  refine r_getn (K := 23) S X70 (Nat.le_of_ble_eq_true rfl) rfl lk3_51_3 (fun _ => ⟨_, rfl, rfl⟩) dX3_copyFrom_90 (fun v73 z74 => ?_)
  have r75 : R (0) (1023) v73 := rd I71 rfl z74
  refine r_put (K := 23) (ty := .int) S X70 (Nat.le_of_ble_eq_true rfl) rfl lk3_51_3 (fun _ => ⟨_, rfl, Nat.le_of_ble_eq_true rfl, rfl⟩) (fun _ _ _ h => by cases h; exact ⟨rfl, rfl⟩) rfl rfl dX3_copyFrom_93 (fun t76 H lc M77 X78 => ?_)
  have I79 := Inv_mu I71 M77 (show Rg (kd 57) 6 v73 from (R_of (lo := 0) (hi := 1023) r75 rfl))
  have F80 : Fr [(57, 4), (57, 5), (57, 6), (57, 7), (57, 8), (57, 9), (57, 10)] [58, 59, 60, 61] τ t76 := Fr_mu F72 M77 (by decide)
  refine r_aload_n S dX3_copyFrom_96 rfl (lv_at hl 0 rfl) ?_
  refine r_aload_n S dX3_copyFrom_97 rfl (lv_at hl 1 rfl) ?_
  refine r_getn (K := 23) S X78 (Nat.le_of_ble_eq_true rfl) rfl lk3_54_3 (fun _ => ⟨_, rfl, rfl⟩) dX3_copyFrom_98 (fun v81 z82 => ?_)
  have r83 : R (0) (1023) v81 := rd I79 rfl z82
  refine r_put (K := 23) (ty := .int) S X78 (Nat.le_of_ble_eq_true rfl) rfl lk3_54_3 (fun _ => ⟨_, rfl, Nat.le_of_ble_eq_true rfl, rfl⟩) (fun _ _ _ h => by cases h; exact ⟨rfl, rfl⟩) rfl rfl dX3_copyFrom_101 (fun t84 H lc M85 X86 => ?_)
  have I87 := Inv_mu I79 M85 (show Rg (kd 57) 7 v81 from (R_of (lo := 0) (hi := 1023) r83 rfl))
  have F88 : Fr [(57, 4), (57, 5), (57, 6), (57, 7), (57, 8), (57, 9), (57, 10)] [58, 59, 60, 61] τ t84 := Fr_mu F80 M85 (by decide)
  refine r_aload_n S dX3_copyFrom_104 rfl (lv_at hl 0 rfl) ?_
  refine r_aload_n S dX3_copyFrom_105 rfl (lv_at hl 1 rfl) ?_
  refine r_getn (K := 23) S X86 (Nat.le_of_ble_eq_true rfl) rfl lk3_24_3 (fun _ => ⟨_, rfl, rfl⟩) dX3_copyFrom_106 (fun v89 z90 => ?_)
  have r91 : R (-1) (8) v89 := rd I87 rfl z90
  refine r_put (K := 23) (ty := .int) S X86 (Nat.le_of_ble_eq_true rfl) rfl lk3_24_3 (fun _ => ⟨_, rfl, Nat.le_of_ble_eq_true rfl, rfl⟩) (fun _ _ _ h => by cases h; exact ⟨rfl, rfl⟩) rfl rfl dX3_copyFrom_109 (fun t92 H lc M93 X94 => ?_)
  have I95 := Inv_mu I87 M93 (show Rg (kd 57) 8 v89 from (R_of (lo := -1) (hi := 8) r91 rfl))
  have F96 : Fr [(57, 4), (57, 5), (57, 6), (57, 7), (57, 8), (57, 9), (57, 10)] [58, 59, 60, 61] τ t92 := Fr_mu F88 M93 (by decide)
  refine r_aload_n S dX3_copyFrom_112 rfl (lv_at hl 0 rfl) ?_
  refine r_aload_n S dX3_copyFrom_113 rfl (lv_at hl 1 rfl) ?_
  refine r_getn (K := 23) S X94 (Nat.le_of_ble_eq_true rfl) rfl lk3_60_3 (fun _ => ⟨_, rfl, rfl⟩) dX3_copyFrom_114 (fun v97 z98 => ?_)
  have r100 := R_any v97
  refine r_put (K := 23) (ty := .int) S X94 (Nat.le_of_ble_eq_true rfl) rfl lk3_60_3 (fun _ => ⟨_, rfl, Nat.le_of_ble_eq_true rfl, rfl⟩) (fun _ _ _ h => by cases h; exact ⟨rfl, rfl⟩) rfl rfl dX3_copyFrom_117 (fun t101 H lc M102 X103 => ?_)
  have I104 := Inv_mu I95 M102 (R_any v97)
  have F105 : Fr [(57, 4), (57, 5), (57, 6), (57, 7), (57, 8), (57, 9), (57, 10)] [58, 59, 60, 61] τ t101 := Fr_mu F96 M102 (by decide)
  refine r_aload_n S dX3_copyFrom_120 rfl (lv_at hl 0 rfl) ?_
  refine r_aload_n S dX3_copyFrom_121 rfl (lv_at hl 1 rfl) ?_
  refine r_getn (K := 23) S X103 (Nat.le_of_ble_eq_true rfl) rfl lk3_63_3 (fun _ => ⟨_, rfl, rfl⟩) dX3_copyFrom_122 (fun v106 z107 => ?_)
  have r109 := R_any v106
  refine r_put (K := 23) (ty := .int) S X103 (Nat.le_of_ble_eq_true rfl) rfl lk3_63_3 (fun _ => ⟨_, rfl, Nat.le_of_ble_eq_true rfl, rfl⟩) (fun _ _ _ h => by cases h; exact ⟨rfl, rfl⟩) rfl rfl dX3_copyFrom_125 (fun t110 H lc M111 X112 => ?_)
  have I113 := Inv_mu I104 M111 (R_any v106)
  have F114 : Fr [(57, 4), (57, 5), (57, 6), (57, 7), (57, 8), (57, 9), (57, 10)] [58, 59, 60, 61] τ t110 := Fr_mu F105 M111 (by decide)
  exact r_vret S hr hlk X112 ⟨I113, F114, (((M111.2 57 8 (Or.inr (by decide))).trans ((M102.2 57 8 (Or.inr (by decide))).trans M93.1)).trans (((M85.2 30 8 (Or.inl (by decide))).trans ((M77.2 30 8 (Or.inl (by decide))).trans ((M69.2 30 8 (Or.inl (by decide))).trans ((M61.2 30 8 (Or.inl (by decide))).trans ((C54.1 30 (by decide) 8).trans ((C40.1 30 (by decide) 8).trans ((C26.1 30 (by decide) 8).trans ((C12.1 30 (by decide) 8).trans rfl)))))))).symm.trans z90).symm)⟩ dX3_copyFrom_128
def po_scopy_30_57 (τ : Tau)     (u : Tau) : Prop := Inv u ∧ Fr [(30, 4), (30, 5), (30, 6), (30, 7), (30, 8), (30, 9), (30, 10)] [31, 32, 33, 34] τ u ∧ u 30 8 = τ 57 8
set_option maxHeartbeats 4000000 in
set_option maxRecDepth 100000 in
theorem c_scopy_30_57 (l : Launch) (G : Gx) (τ : Tau) (hI : Inv τ) : Cv l G yX3_copyFrom cX3_copyFrom 2 1 60 [.ref (G.2.2.2.1 30), .ref (G.2.2.2.1 57)] τ (po_scopy_30_57 τ    ) := by
  unfold Cv
  refine C_of (own := RX3) (by decide) rfl (Nat.le_of_ble_eq_true rfl) ?_
  intro p e s m below meth c ls S hr hlk X hl
  have hl : lv_has ls 2 [(0, .ref (G.2.2.2.1 30)), (1, .ref (G.2.2.2.1 57))] := hl
  refine r_aload_n S dX3_copyFrom_0 rfl (lv_at hl 1 rfl) ?_
  refine r_get (K := 23) (v := .ref (G.2.2.2.1 58)) S X (Nat.le_of_ble_eq_true rfl) rfl lk3_9_3 (fun _ => ⟨_, rfl, rfl⟩) dX3_copyFrom_1 ?_
  refine r_iconst S dX3_copyFrom_4 (by decide) (fun v1 z2 => ?_)
  have r3 := R_eq z2
  refine r_aload_n S dX3_copyFrom_5 rfl (lv_at hl 0 rfl) ?_
  refine r_get (K := 23) (v := .ref (G.2.2.2.1 31)) S X (Nat.le_of_ble_eq_true rfl) rfl lk3_9_3 (fun _ => ⟨_, rfl, rfl⟩) dX3_copyFrom_6 ?_
  refine r_iconst S dX3_copyFrom_9 (by decide) (fun v4 z5 => ?_)
  have r6 := R_eq z5
  refine r_aload_n S dX3_copyFrom_10 rfl (lv_at hl 0 rfl) ?_
  refine r_get (K := 23) (v := .ref (G.2.2.2.1 31)) S X (Nat.le_of_ble_eq_true rfl) rfl lk3_9_3 (fun _ => ⟨_, rfl, rfl⟩) dX3_copyFrom_11 ?_
  refine r_alen (x := (0, .inl fun _ => 0)) (n := 90) (K := 24) (t0 := 0) S X (Nat.le_of_ble_eq_true rfl) rfl (fun _ => ⟨_, rfl⟩) rfl (by decide) dX3_copyFrom_14 (fun v7 z8 => ?_)
  have r9 := R_eq z8
  refine r_copy (K2 := 24) (n := 90) (K := 24) S X (Nat.le_of_ble_eq_true rfl) rfl (Nat.le_of_ble_eq_true rfl) rfl (fun _ _ _ => rfl) (fun _ _ _ => rfl) hl.1 kw13 kw10 kw11 kw12 (by omega) (by omega) (by omega) ⟨Nat.le_of_ble_eq_true rfl, by decide⟩ dX3_copyFrom_15 (fun t11 H lc C12 X10 => ?_)
  have I13 := Inv_cp (K := 24) (K2 := 24) hI C12 rfl rfl (fun _ _ h => h)
  have F14 : Fr [(30, 4), (30, 5), (30, 6), (30, 7), (30, 8), (30, 9), (30, 10)] [31, 32, 33, 34] τ t11 := Fr_cp Fr_rfl C12 (by decide)
  refine r_aload_n S dX3_copyFrom_18 rfl (lv_at hl 1 rfl) ?_
  refine r_get (K := 23) (v := .ref (G.2.2.2.1 59)) S X10 (Nat.le_of_ble_eq_true rfl) rfl lk3_15_3 (fun _ => ⟨_, rfl, rfl⟩) dX3_copyFrom_19 ?_
  refine r_iconst S dX3_copyFrom_22 (by decide) (fun v15 z16 => ?_)
  have r17 := R_eq z16
  refine r_aload_n S dX3_copyFrom_23 rfl (lv_at hl 0 rfl) ?_
  refine r_get (K := 23) (v := .ref (G.2.2.2.1 32)) S X10 (Nat.le_of_ble_eq_true rfl) rfl lk3_15_3 (fun _ => ⟨_, rfl, rfl⟩) dX3_copyFrom_24 ?_
  refine r_iconst S dX3_copyFrom_27 (by decide) (fun v18 z19 => ?_)
  have r20 := R_eq z19
  refine r_aload_n S dX3_copyFrom_28 rfl (lv_at hl 0 rfl) ?_
  refine r_get (K := 23) (v := .ref (G.2.2.2.1 32)) S X10 (Nat.le_of_ble_eq_true rfl) rfl lk3_15_3 (fun _ => ⟨_, rfl, rfl⟩) dX3_copyFrom_29 ?_
  refine r_alen (x := (0, .inl fun _ => 0)) (n := 90) (K := 25) (t0 := 0) S X10 (Nat.le_of_ble_eq_true rfl) rfl (fun _ => ⟨_, rfl⟩) rfl (by decide) dX3_copyFrom_32 (fun v21 z22 => ?_)
  have r23 := R_eq z22
  refine r_copy (K2 := 25) (n := 90) (K := 25) S X10 (Nat.le_of_ble_eq_true rfl) rfl (Nat.le_of_ble_eq_true rfl) rfl (fun _ _ _ => rfl) (fun _ _ _ => rfl) hl.1 kw13 kw10 kw11 kw12 (by omega) (by omega) (by omega) ⟨Nat.le_of_ble_eq_true rfl, by decide⟩ dX3_copyFrom_33 (fun t25 H lc C26 X24 => ?_)
  have I27 := Inv_cp (K := 25) (K2 := 25) I13 C26 rfl rfl (fun _ _ h => h)
  have F28 : Fr [(30, 4), (30, 5), (30, 6), (30, 7), (30, 8), (30, 9), (30, 10)] [31, 32, 33, 34] τ t25 := Fr_cp F14 C26 (by decide)
  refine r_aload_n S dX3_copyFrom_36 rfl (lv_at hl 1 rfl) ?_
  refine r_get (K := 23) (v := .ref (G.2.2.2.1 60)) S X24 (Nat.le_of_ble_eq_true rfl) rfl lk3_18_3 (fun _ => ⟨_, rfl, rfl⟩) dX3_copyFrom_37 ?_
  refine r_iconst S dX3_copyFrom_40 (by decide) (fun v29 z30 => ?_)
  have r31 := R_eq z30
  refine r_aload_n S dX3_copyFrom_41 rfl (lv_at hl 0 rfl) ?_
  refine r_get (K := 23) (v := .ref (G.2.2.2.1 33)) S X24 (Nat.le_of_ble_eq_true rfl) rfl lk3_18_3 (fun _ => ⟨_, rfl, rfl⟩) dX3_copyFrom_42 ?_
  refine r_iconst S dX3_copyFrom_45 (by decide) (fun v32 z33 => ?_)
  have r34 := R_eq z33
  refine r_aload_n S dX3_copyFrom_46 rfl (lv_at hl 0 rfl) ?_
  refine r_get (K := 23) (v := .ref (G.2.2.2.1 33)) S X24 (Nat.le_of_ble_eq_true rfl) rfl lk3_18_3 (fun _ => ⟨_, rfl, rfl⟩) dX3_copyFrom_47 ?_
  refine r_alen (x := (0, .inl fun _ => 0)) (n := 10) (K := 26) (t0 := 0) S X24 (Nat.le_of_ble_eq_true rfl) rfl (fun _ => ⟨_, rfl⟩) rfl (by decide) dX3_copyFrom_50 (fun v35 z36 => ?_)
  have r37 := R_eq z36
  refine r_copy (K2 := 26) (n := 10) (K := 26) S X24 (Nat.le_of_ble_eq_true rfl) rfl (Nat.le_of_ble_eq_true rfl) rfl (fun _ _ _ => rfl) (fun _ _ _ => rfl) hl.1 kw13 kw10 kw11 kw12 (by omega) (by omega) (by omega) ⟨Nat.le_of_ble_eq_true rfl, by decide⟩ dX3_copyFrom_51 (fun t39 H lc C40 X38 => ?_)
  have I41 := Inv_cp (K := 26) (K2 := 26) I27 C40 rfl rfl (fun _ _ h => h)
  have F42 : Fr [(30, 4), (30, 5), (30, 6), (30, 7), (30, 8), (30, 9), (30, 10)] [31, 32, 33, 34] τ t39 := Fr_cp F28 C40 (by decide)
  refine r_aload_n S dX3_copyFrom_54 rfl (lv_at hl 1 rfl) ?_
  refine r_get (K := 23) (v := .ref (G.2.2.2.1 61)) S X38 (Nat.le_of_ble_eq_true rfl) rfl lk3_21_3 (fun _ => ⟨_, rfl, rfl⟩) dX3_copyFrom_55 ?_
  refine r_iconst S dX3_copyFrom_58 (by decide) (fun v43 z44 => ?_)
  have r45 := R_eq z44
  refine r_aload_n S dX3_copyFrom_59 rfl (lv_at hl 0 rfl) ?_
  refine r_get (K := 23) (v := .ref (G.2.2.2.1 34)) S X38 (Nat.le_of_ble_eq_true rfl) rfl lk3_21_3 (fun _ => ⟨_, rfl, rfl⟩) dX3_copyFrom_60 ?_
  refine r_iconst S dX3_copyFrom_63 (by decide) (fun v46 z47 => ?_)
  have r48 := R_eq z47
  refine r_aload_n S dX3_copyFrom_64 rfl (lv_at hl 0 rfl) ?_
  refine r_get (K := 23) (v := .ref (G.2.2.2.1 34)) S X38 (Nat.le_of_ble_eq_true rfl) rfl lk3_21_3 (fun _ => ⟨_, rfl, rfl⟩) dX3_copyFrom_65 ?_
  refine r_alen (x := (0, .inl fun _ => 0)) (n := 10) (K := 27) (t0 := 0) S X38 (Nat.le_of_ble_eq_true rfl) rfl (fun _ => ⟨_, rfl⟩) rfl (by decide) dX3_copyFrom_68 (fun v49 z50 => ?_)
  have r51 := R_eq z50
  refine r_copy (K2 := 27) (n := 10) (K := 27) S X38 (Nat.le_of_ble_eq_true rfl) rfl (Nat.le_of_ble_eq_true rfl) rfl (fun _ _ _ => rfl) (fun _ _ _ => rfl) hl.1 kw13 kw10 kw11 kw12 (by omega) (by omega) (by omega) ⟨Nat.le_of_ble_eq_true rfl, by decide⟩ dX3_copyFrom_69 (fun t53 H lc C54 X52 => ?_)
  have I55 := Inv_cp (K := 27) (K2 := 27) I41 C54 rfl rfl (fun _ _ h => h)
  have F56 : Fr [(30, 4), (30, 5), (30, 6), (30, 7), (30, 8), (30, 9), (30, 10)] [31, 32, 33, 34] τ t53 := Fr_cp F42 C54 (by decide)
  refine r_aload_n S dX3_copyFrom_72 rfl (lv_at hl 0 rfl) ?_
  refine r_aload_n S dX3_copyFrom_73 rfl (lv_at hl 1 rfl) ?_
  refine r_getn (K := 23) S X52 (Nat.le_of_ble_eq_true rfl) rfl lk3_45_3 (fun _ => ⟨_, rfl, rfl⟩) dX3_copyFrom_74 (fun v57 z58 => ?_)
  have r59 : R (0) (1023) v57 := rd I55 rfl z58
  refine r_put (K := 23) (ty := .int) S X52 (Nat.le_of_ble_eq_true rfl) rfl lk3_45_3 (fun _ => ⟨_, rfl, Nat.le_of_ble_eq_true rfl, rfl⟩) (fun _ _ _ h => by cases h; exact ⟨rfl, rfl⟩) rfl rfl dX3_copyFrom_77 (fun t60 H lc M61 X62 => ?_)
  have I63 := Inv_mu I55 M61 (show Rg (kd 30) 4 v57 from (R_of (lo := 0) (hi := 1023) r59 rfl))
  have F64 : Fr [(30, 4), (30, 5), (30, 6), (30, 7), (30, 8), (30, 9), (30, 10)] [31, 32, 33, 34] τ t60 := Fr_mu F56 M61 (by decide)
  refine r_aload_n S dX3_copyFrom_80 rfl (lv_at hl 0 rfl) ?_
  refine r_aload_n S dX3_copyFrom_81 rfl (lv_at hl 1 rfl) ?_
  refine r_getn (K := 23) S X62 (Nat.le_of_ble_eq_true rfl) rfl lk3_48_3 (fun _ => ⟨_, rfl, rfl⟩) dX3_copyFrom_82 (fun v65 z66 => ?_)
  have r67 : R (0) (1) v65 := rd I63 rfl z66
  refine r_put (K := 23) (ty := .int) S X62 (Nat.le_of_ble_eq_true rfl) rfl lk3_48_3 (fun _ => ⟨_, rfl, Nat.le_of_ble_eq_true rfl, rfl⟩) (fun _ _ _ h => by cases h; exact ⟨rfl, rfl⟩) rfl rfl dX3_copyFrom_85 (fun t68 H lc M69 X70 => ?_)
  have I71 := Inv_mu I63 M69 (show Rg (kd 30) 5 v65 from (R_of (lo := 0) (hi := 1) r67 rfl))
  have F72 : Fr [(30, 4), (30, 5), (30, 6), (30, 7), (30, 8), (30, 9), (30, 10)] [31, 32, 33, 34] τ t68 := Fr_mu F64 M69 (by decide)
  refine r_aload_n S dX3_copyFrom_88 rfl (lv_at hl 0 rfl) ?_
  refine r_aload_n S dX3_copyFrom_89 rfl (lv_at hl 1 rfl) ?_
  refine r_getn (K := 23) S X70 (Nat.le_of_ble_eq_true rfl) rfl lk3_51_3 (fun _ => ⟨_, rfl, rfl⟩) dX3_copyFrom_90 (fun v73 z74 => ?_)
  have r75 : R (0) (1023) v73 := rd I71 rfl z74
  refine r_put (K := 23) (ty := .int) S X70 (Nat.le_of_ble_eq_true rfl) rfl lk3_51_3 (fun _ => ⟨_, rfl, Nat.le_of_ble_eq_true rfl, rfl⟩) (fun _ _ _ h => by cases h; exact ⟨rfl, rfl⟩) rfl rfl dX3_copyFrom_93 (fun t76 H lc M77 X78 => ?_)
  have I79 := Inv_mu I71 M77 (show Rg (kd 30) 6 v73 from (R_of (lo := 0) (hi := 1023) r75 rfl))
  have F80 : Fr [(30, 4), (30, 5), (30, 6), (30, 7), (30, 8), (30, 9), (30, 10)] [31, 32, 33, 34] τ t76 := Fr_mu F72 M77 (by decide)
  refine r_aload_n S dX3_copyFrom_96 rfl (lv_at hl 0 rfl) ?_
  refine r_aload_n S dX3_copyFrom_97 rfl (lv_at hl 1 rfl) ?_
  refine r_getn (K := 23) S X78 (Nat.le_of_ble_eq_true rfl) rfl lk3_54_3 (fun _ => ⟨_, rfl, rfl⟩) dX3_copyFrom_98 (fun v81 z82 => ?_)
  have r83 : R (0) (1023) v81 := rd I79 rfl z82
  refine r_put (K := 23) (ty := .int) S X78 (Nat.le_of_ble_eq_true rfl) rfl lk3_54_3 (fun _ => ⟨_, rfl, Nat.le_of_ble_eq_true rfl, rfl⟩) (fun _ _ _ h => by cases h; exact ⟨rfl, rfl⟩) rfl rfl dX3_copyFrom_101 (fun t84 H lc M85 X86 => ?_)
  have I87 := Inv_mu I79 M85 (show Rg (kd 30) 7 v81 from (R_of (lo := 0) (hi := 1023) r83 rfl))
  have F88 : Fr [(30, 4), (30, 5), (30, 6), (30, 7), (30, 8), (30, 9), (30, 10)] [31, 32, 33, 34] τ t84 := Fr_mu F80 M85 (by decide)
  refine r_aload_n S dX3_copyFrom_104 rfl (lv_at hl 0 rfl) ?_
  refine r_aload_n S dX3_copyFrom_105 rfl (lv_at hl 1 rfl) ?_
  refine r_getn (K := 23) S X86 (Nat.le_of_ble_eq_true rfl) rfl lk3_24_3 (fun _ => ⟨_, rfl, rfl⟩) dX3_copyFrom_106 (fun v89 z90 => ?_)
  have r91 : R (-1) (8) v89 := rd I87 rfl z90
  refine r_put (K := 23) (ty := .int) S X86 (Nat.le_of_ble_eq_true rfl) rfl lk3_24_3 (fun _ => ⟨_, rfl, Nat.le_of_ble_eq_true rfl, rfl⟩) (fun _ _ _ h => by cases h; exact ⟨rfl, rfl⟩) rfl rfl dX3_copyFrom_109 (fun t92 H lc M93 X94 => ?_)
  have I95 := Inv_mu I87 M93 (show Rg (kd 30) 8 v89 from (R_of (lo := -1) (hi := 8) r91 rfl))
  have F96 : Fr [(30, 4), (30, 5), (30, 6), (30, 7), (30, 8), (30, 9), (30, 10)] [31, 32, 33, 34] τ t92 := Fr_mu F88 M93 (by decide)
  refine r_aload_n S dX3_copyFrom_112 rfl (lv_at hl 0 rfl) ?_
  refine r_aload_n S dX3_copyFrom_113 rfl (lv_at hl 1 rfl) ?_
  refine r_getn (K := 23) S X94 (Nat.le_of_ble_eq_true rfl) rfl lk3_60_3 (fun _ => ⟨_, rfl, rfl⟩) dX3_copyFrom_114 (fun v97 z98 => ?_)
  have r100 := R_any v97
  refine r_put (K := 23) (ty := .int) S X94 (Nat.le_of_ble_eq_true rfl) rfl lk3_60_3 (fun _ => ⟨_, rfl, Nat.le_of_ble_eq_true rfl, rfl⟩) (fun _ _ _ h => by cases h; exact ⟨rfl, rfl⟩) rfl rfl dX3_copyFrom_117 (fun t101 H lc M102 X103 => ?_)
  have I104 := Inv_mu I95 M102 (R_any v97)
  have F105 : Fr [(30, 4), (30, 5), (30, 6), (30, 7), (30, 8), (30, 9), (30, 10)] [31, 32, 33, 34] τ t101 := Fr_mu F96 M102 (by decide)
  refine r_aload_n S dX3_copyFrom_120 rfl (lv_at hl 0 rfl) ?_
  refine r_aload_n S dX3_copyFrom_121 rfl (lv_at hl 1 rfl) ?_
  refine r_getn (K := 23) S X103 (Nat.le_of_ble_eq_true rfl) rfl lk3_63_3 (fun _ => ⟨_, rfl, rfl⟩) dX3_copyFrom_122 (fun v106 z107 => ?_)
  have r109 := R_any v106
  refine r_put (K := 23) (ty := .int) S X103 (Nat.le_of_ble_eq_true rfl) rfl lk3_63_3 (fun _ => ⟨_, rfl, Nat.le_of_ble_eq_true rfl, rfl⟩) (fun _ _ _ h => by cases h; exact ⟨rfl, rfl⟩) rfl rfl dX3_copyFrom_125 (fun t110 H lc M111 X112 => ?_)
  have I113 := Inv_mu I104 M111 (R_any v106)
  have F114 : Fr [(30, 4), (30, 5), (30, 6), (30, 7), (30, 8), (30, 9), (30, 10)] [31, 32, 33, 34] τ t110 := Fr_mu F105 M111 (by decide)
  exact r_vret S hr hlk X112 ⟨I113, F114, (((M111.2 30 8 (Or.inr (by decide))).trans ((M102.2 30 8 (Or.inr (by decide))).trans M93.1)).trans (((M85.2 57 8 (Or.inl (by decide))).trans ((M77.2 57 8 (Or.inl (by decide))).trans ((M69.2 57 8 (Or.inl (by decide))).trans ((M61.2 57 8 (Or.inl (by decide))).trans ((C54.1 57 (by decide) 8).trans ((C40.1 57 (by decide) 8).trans ((C26.1 57 (by decide) 8).trans ((C12.1 57 (by decide) 8).trans rfl)))))))).symm.trans z90).symm)⟩ dX3_copyFrom_128
def po_scopy_62_30 (τ : Tau)     (u : Tau) : Prop := Inv u ∧ Fr [(62, 4), (62, 5), (62, 6), (62, 7), (62, 8), (62, 9), (62, 10)] [63, 64, 65, 66] τ u ∧ u 62 8 = τ 30 8
set_option maxHeartbeats 4000000 in
set_option maxRecDepth 100000 in
theorem c_scopy_62_30 (l : Launch) (G : Gx) (τ : Tau) (hI : Inv τ) : Cv l G yX3_copyFrom cX3_copyFrom 2 1 60 [.ref (G.2.2.2.1 62), .ref (G.2.2.2.1 30)] τ (po_scopy_62_30 τ    ) := by
  unfold Cv
  refine C_of (own := RX3) (by decide) rfl (Nat.le_of_ble_eq_true rfl) ?_
  intro p e s m below meth c ls S hr hlk X hl
  have hl : lv_has ls 2 [(0, .ref (G.2.2.2.1 62)), (1, .ref (G.2.2.2.1 30))] := hl
  refine r_aload_n S dX3_copyFrom_0 rfl (lv_at hl 1 rfl) ?_
  refine r_get (K := 23) (v := .ref (G.2.2.2.1 31)) S X (Nat.le_of_ble_eq_true rfl) rfl lk3_9_3 (fun _ => ⟨_, rfl, rfl⟩) dX3_copyFrom_1 ?_
  refine r_iconst S dX3_copyFrom_4 (by decide) (fun v1 z2 => ?_)
  have r3 := R_eq z2
  refine r_aload_n S dX3_copyFrom_5 rfl (lv_at hl 0 rfl) ?_
  refine r_get (K := 23) (v := .ref (G.2.2.2.1 63)) S X (Nat.le_of_ble_eq_true rfl) rfl lk3_9_3 (fun _ => ⟨_, rfl, rfl⟩) dX3_copyFrom_6 ?_
  refine r_iconst S dX3_copyFrom_9 (by decide) (fun v4 z5 => ?_)
  have r6 := R_eq z5
  refine r_aload_n S dX3_copyFrom_10 rfl (lv_at hl 0 rfl) ?_
  refine r_get (K := 23) (v := .ref (G.2.2.2.1 63)) S X (Nat.le_of_ble_eq_true rfl) rfl lk3_9_3 (fun _ => ⟨_, rfl, rfl⟩) dX3_copyFrom_11 ?_
  refine r_alen (x := (0, .inl fun _ => 0)) (n := 90) (K := 24) (t0 := 0) S X (Nat.le_of_ble_eq_true rfl) rfl (fun _ => ⟨_, rfl⟩) rfl (by decide) dX3_copyFrom_14 (fun v7 z8 => ?_)
  have r9 := R_eq z8
  refine r_copy (K2 := 24) (n := 90) (K := 24) S X (Nat.le_of_ble_eq_true rfl) rfl (Nat.le_of_ble_eq_true rfl) rfl (fun _ _ _ => rfl) (fun _ _ _ => rfl) hl.1 kw13 kw10 kw11 kw12 (by omega) (by omega) (by omega) ⟨Nat.le_of_ble_eq_true rfl, by decide⟩ dX3_copyFrom_15 (fun t11 H lc C12 X10 => ?_)
  have I13 := Inv_cp (K := 24) (K2 := 24) hI C12 rfl rfl (fun _ _ h => h)
  have F14 : Fr [(62, 4), (62, 5), (62, 6), (62, 7), (62, 8), (62, 9), (62, 10)] [63, 64, 65, 66] τ t11 := Fr_cp Fr_rfl C12 (by decide)
  refine r_aload_n S dX3_copyFrom_18 rfl (lv_at hl 1 rfl) ?_
  refine r_get (K := 23) (v := .ref (G.2.2.2.1 32)) S X10 (Nat.le_of_ble_eq_true rfl) rfl lk3_15_3 (fun _ => ⟨_, rfl, rfl⟩) dX3_copyFrom_19 ?_
  refine r_iconst S dX3_copyFrom_22 (by decide) (fun v15 z16 => ?_)
  have r17 := R_eq z16
  refine r_aload_n S dX3_copyFrom_23 rfl (lv_at hl 0 rfl) ?_
  refine r_get (K := 23) (v := .ref (G.2.2.2.1 64)) S X10 (Nat.le_of_ble_eq_true rfl) rfl lk3_15_3 (fun _ => ⟨_, rfl, rfl⟩) dX3_copyFrom_24 ?_
  refine r_iconst S dX3_copyFrom_27 (by decide) (fun v18 z19 => ?_)
  have r20 := R_eq z19
  refine r_aload_n S dX3_copyFrom_28 rfl (lv_at hl 0 rfl) ?_
  refine r_get (K := 23) (v := .ref (G.2.2.2.1 64)) S X10 (Nat.le_of_ble_eq_true rfl) rfl lk3_15_3 (fun _ => ⟨_, rfl, rfl⟩) dX3_copyFrom_29 ?_
  refine r_alen (x := (0, .inl fun _ => 0)) (n := 90) (K := 25) (t0 := 0) S X10 (Nat.le_of_ble_eq_true rfl) rfl (fun _ => ⟨_, rfl⟩) rfl (by decide) dX3_copyFrom_32 (fun v21 z22 => ?_)
  have r23 := R_eq z22
  refine r_copy (K2 := 25) (n := 90) (K := 25) S X10 (Nat.le_of_ble_eq_true rfl) rfl (Nat.le_of_ble_eq_true rfl) rfl (fun _ _ _ => rfl) (fun _ _ _ => rfl) hl.1 kw13 kw10 kw11 kw12 (by omega) (by omega) (by omega) ⟨Nat.le_of_ble_eq_true rfl, by decide⟩ dX3_copyFrom_33 (fun t25 H lc C26 X24 => ?_)
  have I27 := Inv_cp (K := 25) (K2 := 25) I13 C26 rfl rfl (fun _ _ h => h)
  have F28 : Fr [(62, 4), (62, 5), (62, 6), (62, 7), (62, 8), (62, 9), (62, 10)] [63, 64, 65, 66] τ t25 := Fr_cp F14 C26 (by decide)
  refine r_aload_n S dX3_copyFrom_36 rfl (lv_at hl 1 rfl) ?_
  refine r_get (K := 23) (v := .ref (G.2.2.2.1 33)) S X24 (Nat.le_of_ble_eq_true rfl) rfl lk3_18_3 (fun _ => ⟨_, rfl, rfl⟩) dX3_copyFrom_37 ?_
  refine r_iconst S dX3_copyFrom_40 (by decide) (fun v29 z30 => ?_)
  have r31 := R_eq z30
  refine r_aload_n S dX3_copyFrom_41 rfl (lv_at hl 0 rfl) ?_
  refine r_get (K := 23) (v := .ref (G.2.2.2.1 65)) S X24 (Nat.le_of_ble_eq_true rfl) rfl lk3_18_3 (fun _ => ⟨_, rfl, rfl⟩) dX3_copyFrom_42 ?_
  refine r_iconst S dX3_copyFrom_45 (by decide) (fun v32 z33 => ?_)
  have r34 := R_eq z33
  refine r_aload_n S dX3_copyFrom_46 rfl (lv_at hl 0 rfl) ?_
  refine r_get (K := 23) (v := .ref (G.2.2.2.1 65)) S X24 (Nat.le_of_ble_eq_true rfl) rfl lk3_18_3 (fun _ => ⟨_, rfl, rfl⟩) dX3_copyFrom_47 ?_
  refine r_alen (x := (0, .inl fun _ => 0)) (n := 10) (K := 26) (t0 := 0) S X24 (Nat.le_of_ble_eq_true rfl) rfl (fun _ => ⟨_, rfl⟩) rfl (by decide) dX3_copyFrom_50 (fun v35 z36 => ?_)
  have r37 := R_eq z36
  refine r_copy (K2 := 26) (n := 10) (K := 26) S X24 (Nat.le_of_ble_eq_true rfl) rfl (Nat.le_of_ble_eq_true rfl) rfl (fun _ _ _ => rfl) (fun _ _ _ => rfl) hl.1 kw13 kw10 kw11 kw12 (by omega) (by omega) (by omega) ⟨Nat.le_of_ble_eq_true rfl, by decide⟩ dX3_copyFrom_51 (fun t39 H lc C40 X38 => ?_)
  have I41 := Inv_cp (K := 26) (K2 := 26) I27 C40 rfl rfl (fun _ _ h => h)
  have F42 : Fr [(62, 4), (62, 5), (62, 6), (62, 7), (62, 8), (62, 9), (62, 10)] [63, 64, 65, 66] τ t39 := Fr_cp F28 C40 (by decide)
  refine r_aload_n S dX3_copyFrom_54 rfl (lv_at hl 1 rfl) ?_
  refine r_get (K := 23) (v := .ref (G.2.2.2.1 34)) S X38 (Nat.le_of_ble_eq_true rfl) rfl lk3_21_3 (fun _ => ⟨_, rfl, rfl⟩) dX3_copyFrom_55 ?_
  refine r_iconst S dX3_copyFrom_58 (by decide) (fun v43 z44 => ?_)
  have r45 := R_eq z44
  refine r_aload_n S dX3_copyFrom_59 rfl (lv_at hl 0 rfl) ?_
  refine r_get (K := 23) (v := .ref (G.2.2.2.1 66)) S X38 (Nat.le_of_ble_eq_true rfl) rfl lk3_21_3 (fun _ => ⟨_, rfl, rfl⟩) dX3_copyFrom_60 ?_
  refine r_iconst S dX3_copyFrom_63 (by decide) (fun v46 z47 => ?_)
  have r48 := R_eq z47
  refine r_aload_n S dX3_copyFrom_64 rfl (lv_at hl 0 rfl) ?_
  refine r_get (K := 23) (v := .ref (G.2.2.2.1 66)) S X38 (Nat.le_of_ble_eq_true rfl) rfl lk3_21_3 (fun _ => ⟨_, rfl, rfl⟩) dX3_copyFrom_65 ?_
  refine r_alen (x := (0, .inl fun _ => 0)) (n := 10) (K := 27) (t0 := 0) S X38 (Nat.le_of_ble_eq_true rfl) rfl (fun _ => ⟨_, rfl⟩) rfl (by decide) dX3_copyFrom_68 (fun v49 z50 => ?_)
  have r51 := R_eq z50
  refine r_copy (K2 := 27) (n := 10) (K := 27) S X38 (Nat.le_of_ble_eq_true rfl) rfl (Nat.le_of_ble_eq_true rfl) rfl (fun _ _ _ => rfl) (fun _ _ _ => rfl) hl.1 kw13 kw10 kw11 kw12 (by omega) (by omega) (by omega) ⟨Nat.le_of_ble_eq_true rfl, by decide⟩ dX3_copyFrom_69 (fun t53 H lc C54 X52 => ?_)
  have I55 := Inv_cp (K := 27) (K2 := 27) I41 C54 rfl rfl (fun _ _ h => h)
  have F56 : Fr [(62, 4), (62, 5), (62, 6), (62, 7), (62, 8), (62, 9), (62, 10)] [63, 64, 65, 66] τ t53 := Fr_cp F42 C54 (by decide)
  refine r_aload_n S dX3_copyFrom_72 rfl (lv_at hl 0 rfl) ?_
  refine r_aload_n S dX3_copyFrom_73 rfl (lv_at hl 1 rfl) ?_
  refine r_getn (K := 23) S X52 (Nat.le_of_ble_eq_true rfl) rfl lk3_45_3 (fun _ => ⟨_, rfl, rfl⟩) dX3_copyFrom_74 (fun v57 z58 => ?_)
  have r59 : R (0) (1023) v57 := rd I55 rfl z58
  refine r_put (K := 23) (ty := .int) S X52 (Nat.le_of_ble_eq_true rfl) rfl lk3_45_3 (fun _ => ⟨_, rfl, Nat.le_of_ble_eq_true rfl, rfl⟩) (fun _ _ _ h => by cases h; exact ⟨rfl, rfl⟩) rfl rfl dX3_copyFrom_77 (fun t60 H lc M61 X62 => ?_)
  have I63 := Inv_mu I55 M61 (show Rg (kd 62) 4 v57 from (R_of (lo := 0) (hi := 1023) r59 rfl))
  have F64 : Fr [(62, 4), (62, 5), (62, 6), (62, 7), (62, 8), (62, 9), (62, 10)] [63, 64, 65, 66] τ t60 := Fr_mu F56 M61 (by decide)
  refine r_aload_n S dX3_copyFrom_80 rfl (lv_at hl 0 rfl) ?_
  refine r_aload_n S dX3_copyFrom_81 rfl (lv_at hl 1 rfl) ?_
  refine r_getn (K := 23) S X62 (Nat.le_of_ble_eq_true rfl) rfl lk3_48_3 (fun _ => ⟨_, rfl, rfl⟩) dX3_copyFrom_82 (fun v65 z66 => ?_)
  have r67 : R (0) (1) v65 := rd I63 rfl z66
  refine r_put (K := 23) (ty := .int) S X62 (Nat.le_of_ble_eq_true rfl) rfl lk3_48_3 (fun _ => ⟨_, rfl, Nat.le_of_ble_eq_true rfl, rfl⟩) (fun _ _ _ h => by cases h; exact ⟨rfl, rfl⟩) rfl rfl dX3_copyFrom_85 (fun t68 H lc M69 X70 => ?_)
  have I71 := Inv_mu I63 M69 (show Rg (kd 62) 5 v65 from (R_of (lo := 0) (hi := 1) r67 rfl))
  have F72 : Fr [(62, 4), (62, 5), (62, 6), (62, 7), (62, 8), (62, 9), (62, 10)] [63, 64, 65, 66] τ t68 := Fr_mu F64 M69 (by decide)
  refine r_aload_n S dX3_copyFrom_88 rfl (lv_at hl 0 rfl) ?_
  refine r_aload_n S dX3_copyFrom_89 rfl (lv_at hl 1 rfl) ?_
  refine r_getn (K := 23) S X70 (Nat.le_of_ble_eq_true rfl) rfl lk3_51_3 (fun _ => ⟨_, rfl, rfl⟩) dX3_copyFrom_90 (fun v73 z74 => ?_)
  have r75 : R (0) (1023) v73 := rd I71 rfl z74
  refine r_put (K := 23) (ty := .int) S X70 (Nat.le_of_ble_eq_true rfl) rfl lk3_51_3 (fun _ => ⟨_, rfl, Nat.le_of_ble_eq_true rfl, rfl⟩) (fun _ _ _ h => by cases h; exact ⟨rfl, rfl⟩) rfl rfl dX3_copyFrom_93 (fun t76 H lc M77 X78 => ?_)
  have I79 := Inv_mu I71 M77 (show Rg (kd 62) 6 v73 from (R_of (lo := 0) (hi := 1023) r75 rfl))
  have F80 : Fr [(62, 4), (62, 5), (62, 6), (62, 7), (62, 8), (62, 9), (62, 10)] [63, 64, 65, 66] τ t76 := Fr_mu F72 M77 (by decide)
  refine r_aload_n S dX3_copyFrom_96 rfl (lv_at hl 0 rfl) ?_
  refine r_aload_n S dX3_copyFrom_97 rfl (lv_at hl 1 rfl) ?_
  refine r_getn (K := 23) S X78 (Nat.le_of_ble_eq_true rfl) rfl lk3_54_3 (fun _ => ⟨_, rfl, rfl⟩) dX3_copyFrom_98 (fun v81 z82 => ?_)
  have r83 : R (0) (1023) v81 := rd I79 rfl z82
  refine r_put (K := 23) (ty := .int) S X78 (Nat.le_of_ble_eq_true rfl) rfl lk3_54_3 (fun _ => ⟨_, rfl, Nat.le_of_ble_eq_true rfl, rfl⟩) (fun _ _ _ h => by cases h; exact ⟨rfl, rfl⟩) rfl rfl dX3_copyFrom_101 (fun t84 H lc M85 X86 => ?_)
  have I87 := Inv_mu I79 M85 (show Rg (kd 62) 7 v81 from (R_of (lo := 0) (hi := 1023) r83 rfl))
  have F88 : Fr [(62, 4), (62, 5), (62, 6), (62, 7), (62, 8), (62, 9), (62, 10)] [63, 64, 65, 66] τ t84 := Fr_mu F80 M85 (by decide)
  refine r_aload_n S dX3_copyFrom_104 rfl (lv_at hl 0 rfl) ?_
  refine r_aload_n S dX3_copyFrom_105 rfl (lv_at hl 1 rfl) ?_
  refine r_getn (K := 23) S X86 (Nat.le_of_ble_eq_true rfl) rfl lk3_24_3 (fun _ => ⟨_, rfl, rfl⟩) dX3_copyFrom_106 (fun v89 z90 => ?_)
  have r91 : R (-1) (8) v89 := rd I87 rfl z90
  refine r_put (K := 23) (ty := .int) S X86 (Nat.le_of_ble_eq_true rfl) rfl lk3_24_3 (fun _ => ⟨_, rfl, Nat.le_of_ble_eq_true rfl, rfl⟩) (fun _ _ _ h => by cases h; exact ⟨rfl, rfl⟩) rfl rfl dX3_copyFrom_109 (fun t92 H lc M93 X94 => ?_)
  have I95 := Inv_mu I87 M93 (show Rg (kd 62) 8 v89 from (R_of (lo := -1) (hi := 8) r91 rfl))
  have F96 : Fr [(62, 4), (62, 5), (62, 6), (62, 7), (62, 8), (62, 9), (62, 10)] [63, 64, 65, 66] τ t92 := Fr_mu F88 M93 (by decide)
  refine r_aload_n S dX3_copyFrom_112 rfl (lv_at hl 0 rfl) ?_
  refine r_aload_n S dX3_copyFrom_113 rfl (lv_at hl 1 rfl) ?_
  refine r_getn (K := 23) S X94 (Nat.le_of_ble_eq_true rfl) rfl lk3_60_3 (fun _ => ⟨_, rfl, rfl⟩) dX3_copyFrom_114 (fun v97 z98 => ?_)
  have r100 := R_any v97
  refine r_put (K := 23) (ty := .int) S X94 (Nat.le_of_ble_eq_true rfl) rfl lk3_60_3 (fun _ => ⟨_, rfl, Nat.le_of_ble_eq_true rfl, rfl⟩) (fun _ _ _ h => by cases h; exact ⟨rfl, rfl⟩) rfl rfl dX3_copyFrom_117 (fun t101 H lc M102 X103 => ?_)
  have I104 := Inv_mu I95 M102 (R_any v97)
  have F105 : Fr [(62, 4), (62, 5), (62, 6), (62, 7), (62, 8), (62, 9), (62, 10)] [63, 64, 65, 66] τ t101 := Fr_mu F96 M102 (by decide)
  refine r_aload_n S dX3_copyFrom_120 rfl (lv_at hl 0 rfl) ?_
  refine r_aload_n S dX3_copyFrom_121 rfl (lv_at hl 1 rfl) ?_
  refine r_getn (K := 23) S X103 (Nat.le_of_ble_eq_true rfl) rfl lk3_63_3 (fun _ => ⟨_, rfl, rfl⟩) dX3_copyFrom_122 (fun v106 z107 => ?_)
  have r109 := R_any v106
  refine r_put (K := 23) (ty := .int) S X103 (Nat.le_of_ble_eq_true rfl) rfl lk3_63_3 (fun _ => ⟨_, rfl, Nat.le_of_ble_eq_true rfl, rfl⟩) (fun _ _ _ h => by cases h; exact ⟨rfl, rfl⟩) rfl rfl dX3_copyFrom_125 (fun t110 H lc M111 X112 => ?_)
  have I113 := Inv_mu I104 M111 (R_any v106)
  have F114 : Fr [(62, 4), (62, 5), (62, 6), (62, 7), (62, 8), (62, 9), (62, 10)] [63, 64, 65, 66] τ t110 := Fr_mu F105 M111 (by decide)
  exact r_vret S hr hlk X112 ⟨I113, F114, (((M111.2 62 8 (Or.inr (by decide))).trans ((M102.2 62 8 (Or.inr (by decide))).trans M93.1)).trans (((M85.2 30 8 (Or.inl (by decide))).trans ((M77.2 30 8 (Or.inl (by decide))).trans ((M69.2 30 8 (Or.inl (by decide))).trans ((M61.2 30 8 (Or.inl (by decide))).trans ((C54.1 30 (by decide) 8).trans ((C40.1 30 (by decide) 8).trans ((C26.1 30 (by decide) 8).trans ((C12.1 30 (by decide) 8).trans rfl)))))))).symm.trans z90).symm)⟩ dX3_copyFrom_128
def po_scopy_30_62 (τ : Tau)     (u : Tau) : Prop := Inv u ∧ Fr [(30, 4), (30, 5), (30, 6), (30, 7), (30, 8), (30, 9), (30, 10)] [31, 32, 33, 34] τ u ∧ u 30 8 = τ 62 8
set_option maxHeartbeats 4000000 in
set_option maxRecDepth 100000 in
theorem c_scopy_30_62 (l : Launch) (G : Gx) (τ : Tau) (hI : Inv τ) : Cv l G yX3_copyFrom cX3_copyFrom 2 1 60 [.ref (G.2.2.2.1 30), .ref (G.2.2.2.1 62)] τ (po_scopy_30_62 τ    ) := by
  unfold Cv
  refine C_of (own := RX3) (by decide) rfl (Nat.le_of_ble_eq_true rfl) ?_
  intro p e s m below meth c ls S hr hlk X hl
  have hl : lv_has ls 2 [(0, .ref (G.2.2.2.1 30)), (1, .ref (G.2.2.2.1 62))] := hl
  refine r_aload_n S dX3_copyFrom_0 rfl (lv_at hl 1 rfl) ?_
  refine r_get (K := 23) (v := .ref (G.2.2.2.1 63)) S X (Nat.le_of_ble_eq_true rfl) rfl lk3_9_3 (fun _ => ⟨_, rfl, rfl⟩) dX3_copyFrom_1 ?_
  refine r_iconst S dX3_copyFrom_4 (by decide) (fun v1 z2 => ?_)
  have r3 := R_eq z2
  refine r_aload_n S dX3_copyFrom_5 rfl (lv_at hl 0 rfl) ?_
  refine r_get (K := 23) (v := .ref (G.2.2.2.1 31)) S X (Nat.le_of_ble_eq_true rfl) rfl lk3_9_3 (fun _ => ⟨_, rfl, rfl⟩) dX3_copyFrom_6 ?_
  refine r_iconst S dX3_copyFrom_9 (by decide) (fun v4 z5 => ?_)
  have r6 := R_eq z5
  refine r_aload_n S dX3_copyFrom_10 rfl (lv_at hl 0 rfl) ?_
  refine r_get (K := 23) (v := .ref (G.2.2.2.1 31)) S X (Nat.le_of_ble_eq_true rfl) rfl lk3_9_3 (fun _ => ⟨_, rfl, rfl⟩) dX3_copyFrom_11 ?_
  refine r_alen (x := (0, .inl fun _ => 0)) (n := 90) (K := 24) (t0 := 0) S X (Nat.le_of_ble_eq_true rfl) rfl (fun _ => ⟨_, rfl⟩) rfl (by decide) dX3_copyFrom_14 (fun v7 z8 => ?_)
  have r9 := R_eq z8
  refine r_copy (K2 := 24) (n := 90) (K := 24) S X (Nat.le_of_ble_eq_true rfl) rfl (Nat.le_of_ble_eq_true rfl) rfl (fun _ _ _ => rfl) (fun _ _ _ => rfl) hl.1 kw13 kw10 kw11 kw12 (by omega) (by omega) (by omega) ⟨Nat.le_of_ble_eq_true rfl, by decide⟩ dX3_copyFrom_15 (fun t11 H lc C12 X10 => ?_)
  have I13 := Inv_cp (K := 24) (K2 := 24) hI C12 rfl rfl (fun _ _ h => h)
  have F14 : Fr [(30, 4), (30, 5), (30, 6), (30, 7), (30, 8), (30, 9), (30, 10)] [31, 32, 33, 34] τ t11 := Fr_cp Fr_rfl C12 (by decide)
  refine r_aload_n S dX3_copyFrom_18 rfl (lv_at hl 1 rfl) ?_
  refine r_get (K := 23) (v := .ref (G.2.2.2.1 64)) S X10 (Nat.le_of_ble_eq_true rfl) rfl lk3_15_3 (fun _ => ⟨_, rfl, rfl⟩) dX3_copyFrom_19 ?_
  refine r_iconst S dX3_copyFrom_22 (by decide) (fun v15 z16 => ?_)
  have r17 := R_eq z16
  refine r_aload_n S dX3_copyFrom_23 rfl (lv_at hl 0 rfl) ?_
  refine r_get (K := 23) (v := .ref (G.2.2.2.1 32)) S X10 (Nat.le_of_ble_eq_true rfl) rfl lk3_15_3 (fun _ => ⟨_, rfl, rfl⟩) dX3_copyFrom_24 ?_
  refine r_iconst S dX3_copyFrom_27 (by decide) (fun v18 z19 => ?_)
  have r20 := R_eq z19
  refine r_aload_n S dX3_copyFrom_28 rfl (lv_at hl 0 rfl) ?_
  refine r_get (K := 23) (v := .ref (G.2.2.2.1 32)) S X10 (Nat.le_of_ble_eq_true rfl) rfl lk3_15_3 (fun _ => ⟨_, rfl, rfl⟩) dX3_copyFrom_29 ?_
  refine r_alen (x := (0, .inl fun _ => 0)) (n := 90) (K := 25) (t0 := 0) S X10 (Nat.le_of_ble_eq_true rfl) rfl (fun _ => ⟨_, rfl⟩) rfl (by decide) dX3_copyFrom_32 (fun v21 z22 => ?_)
  have r23 := R_eq z22
  refine r_copy (K2 := 25) (n := 90) (K := 25) S X10 (Nat.le_of_ble_eq_true rfl) rfl (Nat.le_of_ble_eq_true rfl) rfl (fun _ _ _ => rfl) (fun _ _ _ => rfl) hl.1 kw13 kw10 kw11 kw12 (by omega) (by omega) (by omega) ⟨Nat.le_of_ble_eq_true rfl, by decide⟩ dX3_copyFrom_33 (fun t25 H lc C26 X24 => ?_)
  have I27 := Inv_cp (K := 25) (K2 := 25) I13 C26 rfl rfl (fun _ _ h => h)
  have F28 : Fr [(30, 4), (30, 5), (30, 6), (30, 7), (30, 8), (30, 9), (30, 10)] [31, 32, 33, 34] τ t25 := Fr_cp F14 C26 (by decide)
  refine r_aload_n S dX3_copyFrom_36 rfl (lv_at hl 1 rfl) ?_
  refine r_get (K := 23) (v := .ref (G.2.2.2.1 65)) S X24 (Nat.le_of_ble_eq_true rfl) rfl lk3_18_3 (fun _ => ⟨_, rfl, rfl⟩) dX3_copyFrom_37 ?_
  refine r_iconst S dX3_copyFrom_40 (by decide) (fun v29 z30 => ?_)
  have r31 := R_eq z30
  refine r_aload_n S dX3_copyFrom_41 rfl (lv_at hl 0 rfl) ?_
  refine r_get (K := 23) (v := .ref (G.2.2.2.1 33)) S X24 (Nat.le_of_ble_eq_true rfl) rfl lk3_18_3 (fun _ => ⟨_, rfl, rfl⟩) dX3_copyFrom_42 ?_
  refine r_iconst S dX3_copyFrom_45 (by decide) (fun v32 z33 => ?_)
  have r34 := R_eq z33
  refine r_aload_n S dX3_copyFrom_46 rfl (lv_at hl 0 rfl) ?_
  refine r_get (K := 23) (v := .ref (G.2.2.2.1 33)) S X24 (Nat.le_of_ble_eq_true rfl) rfl lk3_18_3 (fun _ => ⟨_, rfl, rfl⟩) dX3_copyFrom_47 ?_
  refine r_alen (x := (0, .inl fun _ => 0)) (n := 10) (K := 26) (t0 := 0) S X24 (Nat.le_of_ble_eq_true rfl) rfl (fun _ => ⟨_, rfl⟩) rfl (by decide) dX3_copyFrom_50 (fun v35 z36 => ?_)
  have r37 := R_eq z36
  refine r_copy (K2 := 26) (n := 10) (K := 26) S X24 (Nat.le_of_ble_eq_true rfl) rfl (Nat.le_of_ble_eq_true rfl) rfl (fun _ _ _ => rfl) (fun _ _ _ => rfl) hl.1 kw13 kw10 kw11 kw12 (by omega) (by omega) (by omega) ⟨Nat.le_of_ble_eq_true rfl, by decide⟩ dX3_copyFrom_51 (fun t39 H lc C40 X38 => ?_)
  have I41 := Inv_cp (K := 26) (K2 := 26) I27 C40 rfl rfl (fun _ _ h => h)
  have F42 : Fr [(30, 4), (30, 5), (30, 6), (30, 7), (30, 8), (30, 9), (30, 10)] [31, 32, 33, 34] τ t39 := Fr_cp F28 C40 (by decide)
  refine r_aload_n S dX3_copyFrom_54 rfl (lv_at hl 1 rfl) ?_
  refine r_get (K := 23) (v := .ref (G.2.2.2.1 66)) S X38 (Nat.le_of_ble_eq_true rfl) rfl lk3_21_3 (fun _ => ⟨_, rfl, rfl⟩) dX3_copyFrom_55 ?_
  refine r_iconst S dX3_copyFrom_58 (by decide) (fun v43 z44 => ?_)
  have r45 := R_eq z44
  refine r_aload_n S dX3_copyFrom_59 rfl (lv_at hl 0 rfl) ?_
  refine r_get (K := 23) (v := .ref (G.2.2.2.1 34)) S X38 (Nat.le_of_ble_eq_true rfl) rfl lk3_21_3 (fun _ => ⟨_, rfl, rfl⟩) dX3_copyFrom_60 ?_
  refine r_iconst S dX3_copyFrom_63 (by decide) (fun v46 z47 => ?_)
  have r48 := R_eq z47
  refine r_aload_n S dX3_copyFrom_64 rfl (lv_at hl 0 rfl) ?_
  refine r_get (K := 23) (v := .ref (G.2.2.2.1 34)) S X38 (Nat.le_of_ble_eq_true rfl) rfl lk3_21_3 (fun _ => ⟨_, rfl, rfl⟩) dX3_copyFrom_65 ?_
  refine r_alen (x := (0, .inl fun _ => 0)) (n := 10) (K := 27) (t0 := 0) S X38 (Nat.le_of_ble_eq_true rfl) rfl (fun _ => ⟨_, rfl⟩) rfl (by decide) dX3_copyFrom_68 (fun v49 z50 => ?_)
  have r51 := R_eq z50
  refine r_copy (K2 := 27) (n := 10) (K := 27) S X38 (Nat.le_of_ble_eq_true rfl) rfl (Nat.le_of_ble_eq_true rfl) rfl (fun _ _ _ => rfl) (fun _ _ _ => rfl) hl.1 kw13 kw10 kw11 kw12 (by omega) (by omega) (by omega) ⟨Nat.le_of_ble_eq_true rfl, by decide⟩ dX3_copyFrom_69 (fun t53 H lc C54 X52 => ?_)
  have I55 := Inv_cp (K := 27) (K2 := 27) I41 C54 rfl rfl (fun _ _ h => h)
  have F56 : Fr [(30, 4), (30, 5), (30, 6), (30, 7), (30, 8), (30, 9), (30, 10)] [31, 32, 33, 34] τ t53 := Fr_cp F42 C54 (by decide)
  refine r_aload_n S dX3_copyFrom_72 rfl (lv_at hl 0 rfl) ?_
  refine r_aload_n S dX3_copyFrom_73 rfl (lv_at hl 1 rfl) ?_
  refine r_getn (K := 23) S X52 (Nat.le_of_ble_eq_true rfl) rfl lk3_45_3 (fun _ => ⟨_, rfl, rfl⟩) dX3_copyFrom_74 (fun v57 z58 => ?_)
  have r59 : R (0) (1023) v57 := rd I55 rfl z58
  refine r_put (K := 23) (ty := .int) S X52 (Nat.le_of_ble_eq_true rfl) rfl lk3_45_3 (fun _ => ⟨_, rfl, Nat.le_of_ble_eq_true rfl, rfl⟩) (fun _ _ _ h => by cases h; exact ⟨rfl, rfl⟩) rfl rfl dX3_copyFrom_77 (fun t60 H lc M61 X62 => ?_)
  have I63 := Inv_mu I55 M61 (show Rg (kd 30) 4 v57 from (R_of (lo := 0) (hi := 1023) r59 rfl))
  have F64 : Fr [(30, 4), (30, 5), (30, 6), (30, 7), (30, 8), (30, 9), (30, 10)] [31, 32, 33, 34] τ t60 := Fr_mu F56 M61 (by decide)
  refine r_aload_n S dX3_copyFrom_80 rfl (lv_at hl 0 rfl) ?_
  refine r_aload_n S dX3_copyFrom_81 rfl (lv_at hl 1 rfl) ?_
  refine r_getn (K := 23) S X62 (Nat.le_of_ble_eq_true rfl) rfl lk3_48_3 (fun _ => ⟨_, rfl, rfl⟩) dX3_copyFrom_82 (fun v65 z66 => ?_)
  have r67 : R (0) (1) v65 := rd I63 rfl z66
  refine r_put (K := 23) (ty := .int) S X62 (Nat.le_of_ble_eq_true rfl) rfl lk3_48_3 (fun _ => ⟨_, rfl, Nat.le_of_ble_eq_true rfl, rfl⟩) (fun _ _ _ h => by cases h; exact ⟨rfl, rfl⟩) rfl rfl dX3_copyFrom_85 (fun t68 H lc M69 X70 => ?_)
  have I71 := Inv_mu I63 M69 (show Rg (kd 30) 5 v65 from (R_of (lo := 0) (hi := 1) r67 rfl))
  have F72 : Fr [(30, 4), (30, 5), (30, 6), (30, 7), (30, 8), (30, 9), (30, 10)] [31, 32, 33, 34] τ t68 := Fr_mu F64 M69 (by decide)
  refine r_aload_n S dX3_copyFrom_88 rfl (lv_at hl 0 rfl) ?_
  refine r_aload_n S dX3_copyFrom_89 rfl (lv_at hl 1 rfl) ?_
  refine r_getn (K := 23) S X70 (Nat.le_of_ble_eq_true rfl) rfl lk3_51_3 (fun _ => ⟨_, rfl, rfl⟩) dX3_copyFrom_90 (fun v73 z74 => ?_)
  have r75 : R (0) (1023) v73 := rd I71 rfl z74
  refine r_put (K := 23) (ty := .int) S X70 (Nat.le_of_ble_eq_true rfl) rfl lk3_51_3 (fun _ => ⟨_, rfl, Nat.le_of_ble_eq_true rfl, rfl⟩) (fun _ _ _ h => by cases h; exact ⟨rfl, rfl⟩) rfl rfl dX3_copyFrom_93 (fun t76 H lc M77 X78 => ?_)
  have I79 := Inv_mu I71 M77 (show Rg (kd 30) 6 v73 from (R_of (lo := 0) (hi := 1023) r75 rfl))
  have F80 : Fr [(30, 4), (30, 5), (30, 6), (30, 7), (30, 8), (30, 9), (30, 10)] [31, 32, 33, 34] τ t76 := Fr_mu F72 M77 (by decide)
  refine r_aload_n S dX3_copyFrom_96 rfl (lv_at hl 0 rfl) ?_
  refine r_aload_n S dX3_copyFrom_97 rfl (lv_at hl 1 rfl) ?_
  refine r_getn (K := 23) S X78 (Nat.le_of_ble_eq_true rfl) rfl lk3_54_3 (fun _ => ⟨_, rfl, rfl⟩) dX3_copyFrom_98 (fun v81 z82 => ?_)
  have r83 : R (0) (1023) v81 := rd I79 rfl z82
  refine r_put (K := 23) (ty := .int) S X78 (Nat.le_of_ble_eq_true rfl) rfl lk3_54_3 (fun _ => ⟨_, rfl, Nat.le_of_ble_eq_true rfl, rfl⟩) (fun _ _ _ h => by cases h; exact ⟨rfl, rfl⟩) rfl rfl dX3_copyFrom_101 (fun t84 H lc M85 X86 => ?_)
  have I87 := Inv_mu I79 M85 (show Rg (kd 30) 7 v81 from (R_of (lo := 0) (hi := 1023) r83 rfl))
  have F88 : Fr [(30, 4), (30, 5), (30, 6), (30, 7), (30, 8), (30, 9), (30, 10)] [31, 32, 33, 34] τ t84 := Fr_mu F80 M85 (by decide)
  refine r_aload_n S dX3_copyFrom_104 rfl (lv_at hl 0 rfl) ?_
  refine r_aload_n S dX3_copyFrom_105 rfl (lv_at hl 1 rfl) ?_
  refine r_getn (K := 23) S X86 (Nat.le_of_ble_eq_true rfl) rfl lk3_24_3 (fun _ => ⟨_, rfl, rfl⟩) dX3_copyFrom_106 (fun v89 z90 => ?_)
  have r91 : R (-1) (8) v89 := rd I87 rfl z90
  refine r_put (K := 23) (ty := .int) S X86 (Nat.le_of_ble_eq_true rfl) rfl lk3_24_3 (fun _ => ⟨_, rfl, Nat.le_of_ble_eq_true rfl, rfl⟩) (fun _ _ _ h => by cases h; exact ⟨rfl, rfl⟩) rfl rfl dX3_copyFrom_109 (fun t92 H lc M93 X94 => ?_)
  have I95 := Inv_mu I87 M93 (show Rg (kd 30) 8 v89 from (R_of (lo := -1) (hi := 8) r91 rfl))
  have F96 : Fr [(30, 4), (30, 5), (30, 6), (30, 7), (30, 8), (30, 9), (30, 10)] [31, 32, 33, 34] τ t92 := Fr_mu F88 M93 (by decide)
  refine r_aload_n S dX3_copyFrom_112 rfl (lv_at hl 0 rfl) ?_
  refine r_aload_n S dX3_copyFrom_113 rfl (lv_at hl 1 rfl) ?_
  refine r_getn (K := 23) S X94 (Nat.le_of_ble_eq_true rfl) rfl lk3_60_3 (fun _ => ⟨_, rfl, rfl⟩) dX3_copyFrom_114 (fun v97 z98 => ?_)
  have r100 := R_any v97
  refine r_put (K := 23) (ty := .int) S X94 (Nat.le_of_ble_eq_true rfl) rfl lk3_60_3 (fun _ => ⟨_, rfl, Nat.le_of_ble_eq_true rfl, rfl⟩) (fun _ _ _ h => by cases h; exact ⟨rfl, rfl⟩) rfl rfl dX3_copyFrom_117 (fun t101 H lc M102 X103 => ?_)
  have I104 := Inv_mu I95 M102 (R_any v97)
  have F105 : Fr [(30, 4), (30, 5), (30, 6), (30, 7), (30, 8), (30, 9), (30, 10)] [31, 32, 33, 34] τ t101 := Fr_mu F96 M102 (by decide)
  refine r_aload_n S dX3_copyFrom_120 rfl (lv_at hl 0 rfl) ?_
  refine r_aload_n S dX3_copyFrom_121 rfl (lv_at hl 1 rfl) ?_
  refine r_getn (K := 23) S X103 (Nat.le_of_ble_eq_true rfl) rfl lk3_63_3 (fun _ => ⟨_, rfl, rfl⟩) dX3_copyFrom_122 (fun v106 z107 => ?_)
  have r109 := R_any v106
  refine r_put (K := 23) (ty := .int) S X103 (Nat.le_of_ble_eq_true rfl) rfl lk3_63_3 (fun _ => ⟨_, rfl, Nat.le_of_ble_eq_true rfl, rfl⟩) (fun _ _ _ h => by cases h; exact ⟨rfl, rfl⟩) rfl rfl dX3_copyFrom_125 (fun t110 H lc M111 X112 => ?_)
  have I113 := Inv_mu I104 M111 (R_any v106)
  have F114 : Fr [(30, 4), (30, 5), (30, 6), (30, 7), (30, 8), (30, 9), (30, 10)] [31, 32, 33, 34] τ t110 := Fr_mu F105 M111 (by decide)
  exact r_vret S hr hlk X112 ⟨I113, F114, (((M111.2 30 8 (Or.inr (by decide))).trans ((M102.2 30 8 (Or.inr (by decide))).trans M93.1)).trans (((M85.2 62 8 (Or.inl (by decide))).trans ((M77.2 62 8 (Or.inl (by decide))).trans ((M69.2 62 8 (Or.inl (by decide))).trans ((M61.2 62 8 (Or.inl (by decide))).trans ((C54.1 62 (by decide) 8).trans ((C40.1 62 (by decide) 8).trans ((C26.1 62 (by decide) 8).trans ((C12.1 62 (by decide) 8).trans rfl)))))))).symm.trans z90).symm)⟩ dX3_copyFrom_128
def po_scopy_67_30 (τ : Tau)     (u : Tau) : Prop := Inv u ∧ Fr [(67, 4), (67, 5), (67, 6), (67, 7), (67, 8), (67, 9), (67, 10)] [68, 69, 70, 71] τ u ∧ u 67 8 = τ 30 8
set_option maxHeartbeats 4000000 in
set_option maxRecDepth 100000 in
theorem c_scopy_67_30 (l : Launch) (G : Gx) (τ : Tau) (hI : Inv τ) : Cv l G yX3_copyFrom cX3_copyFrom 2 1 60 [.ref (G.2.2.2.1 67), .ref (G.2.2.2.1 30)] τ (po_scopy_67_30 τ    ) := by
  unfold Cv
  refine C_of (own := RX3) (by decide) rfl (Nat.le_of_ble_eq_true rfl) ?_
  intro p e s m below meth c ls S hr hlk X hl
  have hl : lv_has ls 2 [(0, .ref (G.2.2.2.1 67)), (1, .ref (G.2.2.2.1 30))] := hl
  refine r_aload_n S dX3_copyFrom_0 rfl (lv_at hl 1 rfl) ?_
  refine r_get (K := 23) (v := .ref (G.2.2.2.1 31)) S X (Nat.le_of_ble_eq_true rfl) rfl lk3_9_3 (fun _ => ⟨_, rfl, rfl⟩) dX3_copyFrom_1 ?_
  refine r_iconst S dX3_copyFrom_4 (by decide) (fun v1 z2 => ?_)
  have r3 := R_eq z2
  refine r_aload_n S dX3_copyFrom_5 rfl (lv_at hl 0 rfl) ?_
  refine r_get (K := 23) (v := .ref (G.2.2.2.1 68)) S X (Nat.le_of_ble_eq_true rfl) rfl lk3_9_3 (fun _ => ⟨_, rfl, rfl⟩) dX3_copyFrom_6 ?_
  refine r_iconst S dX3_copyFrom_9 (by decide) (fun v4 z5 => ?_)
  have r6 := R_eq z5
  refine r_aload_n S dX3_copyFrom_10 rfl (lv_at hl 0 rfl) ?_
  refine r_get (K := 23) (v := .ref (G.2.2.2.1 68)) S X (Nat.le_of_ble_eq_true rfl) rfl lk3_9_3 (fun _ => ⟨_, rfl, rfl⟩) dX3_copyFrom_11 ?_
  refine r_alen (x := (0, .inl fun _ => 0)) (n := 90) (K := 24) (t0 := 0) S X (Nat.le_of_ble_eq_true rfl) rfl (fun _ => ⟨_, rfl⟩) rfl (by decide) dX3_copyFrom_14 (fun v7 z8 => ?_)
  have r9 := R_eq z8
  refine r_copy (K2 := 24) (n := 90) (K := 24) S X (Nat.le_of_ble_eq_true rfl) rfl (Nat.le_of_ble_eq_true rfl) rfl (fun _ _ _ => rfl) (fun _ _ _ => rfl) hl.1 kw13 kw10 kw11 kw12 (by omega) (by omega) (by omega) ⟨Nat.le_of_ble_eq_true rfl, by decide⟩ dX3_copyFrom_15 (fun t11 H lc C12 X10 => ?_)
  have I13 := Inv_cp (K := 24) (K2 := 24) hI C12 rfl rfl (fun _ _ h => h)
  have F14 : Fr [(67, 4), (67, 5), (67, 6), (67, 7), (67, 8), (67, 9), (67, 10)] [68, 69, 70, 71] τ t11 := Fr_cp Fr_rfl C12 (by decide)
  refine r_aload_n S dX3_copyFrom_18 rfl (lv_at hl 1 rfl) ?_
  refine r_get (K := 23) (v := .ref (G.2.2.2.1 32)) S X10 (Nat.le_of_ble_eq_true rfl) rfl lk3_15_3 (fun _ => ⟨_, rfl, rfl⟩) dX3_copyFrom_19 ?_
  refine r_iconst S dX3_copyFrom_22 (by decide) (fun v15 z16 => ?_)
  have r17 := R_eq z16
  refine r_aload_n S dX3_copyFrom_23 rfl (lv_at hl 0 rfl) ?_
  refine r_get (K := 23) (v := .ref (G.2.2.2.1 69)) S X10 (Nat.le_of_ble_eq_true rfl) rfl lk3_15_3 (fun _ => ⟨_, rfl, rfl⟩) dX3_copyFrom_24 ?_
  refine r_iconst S dX3_copyFrom_27 (by decide) (fun v18 z19 => ?_)
  have r20 := R_eq z19
  refine r_aload_n S dX3_copyFrom_28 rfl (lv_at hl 0 rfl) ?_
  refine r_get (K := 23) (v := .ref (G.2.2.2.1 69)) S X10 (Nat.le_of_ble_eq_true rfl) rfl lk3_15_3 (fun _ => ⟨_, rfl, rfl⟩) dX3_copyFrom_29 ?_
  refine r_alen (x := (0, .inl fun _ => 0)) (n := 90) (K := 25) (t0 := 0) S X10 (Nat.le_of_ble_eq_true rfl) rfl (fun _ => ⟨_, rfl⟩) rfl (by decide) dX3_copyFrom_32 (fun v21 z22 => ?_)
  have r23 := R_eq z22
  refine r_copy (K2 := 25) (n := 90) (K := 25) S X10 (Nat.le_of_ble_eq_true rfl) rfl (Nat.le_of_ble_eq_true rfl) rfl (fun _ _ _ => rfl) (fun _ _ _ => rfl) hl.1 kw13 kw10 kw11 kw12 (by omega) (by omega) (by omega) ⟨Nat.le_of_ble_eq_true rfl, by decide⟩ dX3_copyFrom_33 (fun t25 H lc C26 X24 => ?_)
  have I27 := Inv_cp (K := 25) (K2 := 25) I13 C26 rfl rfl (fun _ _ h => h)
  have F28 : Fr [(67, 4), (67, 5), (67, 6), (67, 7), (67, 8), (67, 9), (67, 10)] [68, 69, 70, 71] τ t25 := Fr_cp F14 C26 (by decide)
  refine r_aload_n S dX3_copyFrom_36 rfl (lv_at hl 1 rfl) ?_
  refine r_get (K := 23) (v := .ref (G.2.2.2.1 33)) S X24 (Nat.le_of_ble_eq_true rfl) rfl lk3_18_3 (fun _ => ⟨_, rfl, rfl⟩) dX3_copyFrom_37 ?_
  refine r_iconst S dX3_copyFrom_40 (by decide) (fun v29 z30 => ?_)
  have r31 := R_eq z30
  refine r_aload_n S dX3_copyFrom_41 rfl (lv_at hl 0 rfl) ?_
  refine r_get (K := 23) (v := .ref (G.2.2.2.1 70)) S X24 (Nat.le_of_ble_eq_true rfl) rfl lk3_18_3 (fun _ => ⟨_, rfl, rfl⟩) dX3_copyFrom_42 ?_
  refine r_iconst S dX3_copyFrom_45 (by decide) (fun v32 z33 => ?_)
  have r34 := R_eq z33
  refine r_aload_n S dX3_copyFrom_46 rfl (lv_at hl 0 rfl) ?_
  refine r_get (K := 23) (v := .ref (G.2.2.2.1 70)) S X24 (Nat.le_of_ble_eq_true rfl) rfl lk3_18_3 (fun _ => ⟨_, rfl, rfl⟩) dX3_copyFrom_47 ?_
  refine r_alen (x := (0, .inl fun _ => 0)) (n := 10) (K := 26) (t0 := 0) S X24 (Nat.le_of_ble_eq_true rfl) rfl (fun _ => ⟨_, rfl⟩) rfl (by decide) dX3_copyFrom_50 (fun v35 z36 => ?_)
  have r37 := R_eq z36
  refine r_copy (K2 := 26) (n := 10) (K := 26) S X24 (Nat.le_of_ble_eq_true rfl) rfl (Nat.le_of_ble_eq_true rfl) rfl (fun _ _ _ => rfl) (fun _ _ _ => rfl) hl.1 kw13 kw10 kw11 kw12 (by omega) (by omega) (by omega) ⟨Nat.le_of_ble_eq_true rfl, by decide⟩ dX3_copyFrom_51 (fun t39 H lc C40 X38 => ?_)
  have I41 := Inv_cp (K := 26) (K2 := 26) I27 C40 rfl rfl (fun _ _ h => h)
  have F42 : Fr [(67, 4), (67, 5), (67, 6), (67, 7), (67, 8), (67, 9), (67, 10)] [68, 69, 70, 71] τ t39 := Fr_cp F28 C40 (by decide)
  refine r_aload_n S dX3_copyFrom_54 rfl (lv_at hl 1 rfl) ?_
  refine r_get (K := 23) (v := .ref (G.2.2.2.1 34)) S X38 (Nat.le_of_ble_eq_true rfl) rfl lk3_21_3 (fun _ => ⟨_, rfl, rfl⟩) dX3_copyFrom_55 ?_
  refine r_iconst S dX3_copyFrom_58 (by decide) (fun v43 z44 => ?_)
  have r45 := R_eq z44
  refine r_aload_n S dX3_copyFrom_59 rfl (lv_at hl 0 rfl) ?_
  refine r_get (K := 23) (v := .ref (G.2.2.2.1 71)) S X38 (Nat.le_of_ble_eq_true rfl) rfl lk3_21_3 (fun _ => ⟨_, rfl, rfl⟩) dX3_copyFrom_60 ?_
  refine r_iconst S dX3_copyFrom_63 (by decide) (fun v46 z47 => ?_)
  have r48 := R_eq z47
  refine r_aload_n S dX3_copyFrom_64 rfl (lv_at hl 0 rfl) ?_
  refine r_get (K := 23) (v := .ref (G.2.2.2.1 71)) S X38 (Nat.le_of_ble_eq_true rfl) rfl lk3_21_3 (fun _ => ⟨_, rfl, rfl⟩) dX3_copyFrom_65 ?_
  refine r_alen (x := (0, .inl fun _ => 0)) (n := 10) (K := 27) (t0 := 0) S X38 (Nat.le_of_ble_eq_true rfl) rfl (fun _ => ⟨_, rfl⟩) rfl (by decide) dX3_copyFrom_68 (fun v49 z50 => ?_)
  have r51 := R_eq z50
  refine r_copy (K2 := 27) (n := 10) (K := 27) S X38 (Nat.le_of_ble_eq_true rfl) rfl (Nat.le_of_ble_eq_true rfl) rfl (fun _ _ _ => rfl) (fun _ _ _ => rfl) hl.1 kw13 kw10 kw11 kw12 (by omega) (by omega) (by omega) ⟨Nat.le_of_ble_eq_true rfl, by decide⟩ dX3_copyFrom_69 (fun t53 H lc C54 X52 => ?_)
  have I55 := Inv_cp (K := 27) (K2 := 27) I41 C54 rfl rfl (fun _ _ h => h)
  have F56 : Fr [(67, 4), (67, 5), (67, 6), (67, 7), (67, 8), (67, 9), (67, 10)] [68, 69, 70, 71] τ t53 := Fr_cp F42 C54 (by decide)
  refine r_aload_n S dX3_copyFrom_72 rfl (lv_at hl 0 rfl) ?_
  refine r_aload_n S dX3_copyFrom_73 rfl (lv_at hl 1 rfl) ?_
  refine r_getn (K := 23) S X52 (Nat.le_of_ble_eq_true rfl) rfl lk3_45_3 (fun _ => ⟨_, rfl, rfl⟩) dX3_copyFrom_74 (fun v57 z58 => ?_)
  have r59 : R (0) (1023) v57 := rd I55 rfl z58
  refine r_put (K := 23) (ty := .int) S X52 (Nat.le_of_ble_eq_true rfl) rfl lk3_45_3 (fun _ => ⟨_, rfl, Nat.le_of_ble_eq_true rfl, rfl⟩) (fun _ _ _ h => by cases h; exact ⟨rfl, rfl⟩) rfl rfl dX3_copyFrom_77 (fun t60 H lc M61 X62 => ?_)
  have I63 := Inv_mu I55 M61 (show Rg (kd 67) 4 v57 from (R_of (lo := 0) (hi := 1023) r59 rfl))
  have F64 : Fr [(67, 4), (67, 5), (67, 6), (67, 7), (67, 8), (67, 9), (67, 10)] [68, 69, 70, 71] τ t60 := Fr_mu F56 M61 (by decide)
  refine r_aload_n S dX3_copyFrom_80 rfl (lv_at hl 0 rfl) ?_
  refine r_aload_n S dX3_copyFrom_81 rfl (lv_at hl 1 rfl) ?_
  refine r_getn (K := 23) S X62 (Nat.le_of_ble_eq_true rfl) rfl lk3_48_3 (fun _ => ⟨_, rfl, rfl⟩) dX3_copyFrom_82 (fun v65 z66 => ?_)
  have r67 : R (0) (1) v65 := rd I63 rfl z66
  refine r_put (K := 23) (ty := .int) S X62 (Nat.le_of_ble_eq_true rfl) rfl lk3_48_3 (fun _ => ⟨_, rfl, Nat.le_of_ble_eq_true rfl, rfl⟩) (fun _ _ _ h => by cases h; exact ⟨rfl, rfl⟩) rfl rfl dX3_copyFrom_85 (fun t68 H lc M69 X70 => ?_)
  have I71 := Inv_mu I63 M69 (show Rg (kd 67) 5 v65 from (R_of (lo := 0) (hi := 1) r67 rfl))
  have F72 : Fr [(67, 4), (67, 5), (67, 6), (67, 7), (67, 8), (67, 9), (67, 10)] [68, 69, 70, 71] τ t68 := Fr_mu F64 M69 (by decide)
  refine r_aload_n S dX3_copyFrom_88 rfl (lv_at hl 0 rfl) ?_
  refine r_aload_n S dX3_copyFrom_89 rfl (lv_at hl 1 rfl) ?_
  refine r_getn (K := 23) S X70 (Nat.le_of_ble_eq_true rfl) rfl lk3_51_3 (fun _ => ⟨_, rfl, rfl⟩) dX3_copyFrom_90 (fun v73 z74 => ?_)
  have r75 : R (0) (1023) v73 := rd I71 rfl z74
  refine r_put (K := 23) (ty := .int) S X70 (Nat.le_of_ble_eq_true rfl) rfl lk3_51_3 (fun _ => ⟨_, rfl, Nat.le_of_ble_eq_true rfl, rfl⟩) (fun _ _ _ h => by cases h; exact ⟨rfl, rfl⟩) rfl rfl dX3_copyFrom_93 (fun t76 H lc M77 X78 => ?_)
  have I79 := Inv_mu I71 M77 (show Rg (kd 67) 6 v73 from (R_of (lo := 0) (hi := 1023) r75 rfl))
  have F80 : Fr [(67, 4), (67, 5), (67, 6), (67, 7), (67, 8), (67, 9), (67, 10)] [68, 69, 70, 71] τ t76 := Fr_mu F72 M77 (by decide)
  refine r_aload_n S dX3_copyFrom_96 rfl (lv_at hl 0 rfl) ?_
  refine r_aload_n S dX3_copyFrom_97 rfl (lv_at hl 1 rfl) ?_
  refine r_getn (K := 23) S X78 (Nat.le_of_ble_eq_true rfl) rfl lk3_54_3 (fun _ => ⟨_, rfl, rfl⟩) dX3_copyFrom_98 (fun v81 z82 => ?_)
  have r83 : R (0) (1023) v81 := rd I79 rfl z82
  refine r_put (K := 23) (ty := .int) S X78 (Nat.le_of_ble_eq_true rfl) rfl lk3_54_3 (fun _ => ⟨_, rfl, Nat.le_of_ble_eq_true rfl, rfl⟩) (fun _ _ _ h => by cases h; exact ⟨rfl, rfl⟩) rfl rfl dX3_copyFrom_101 (fun t84 H lc M85 X86 => ?_)
  have I87 := Inv_mu I79 M85 (show Rg (kd 67) 7 v81 from (R_of (lo := 0) (hi := 1023) r83 rfl))
  have F88 : Fr [(67, 4), (67, 5), (67, 6), (67, 7), (67, 8), (67, 9), (67, 10)] [68, 69, 70, 71] τ t84 := Fr_mu F80 M85 (by decide)
  refine r_aload_n S dX3_copyFrom_104 rfl (lv_at hl 0 rfl) ?_
  refine r_aload_n S dX3_copyFrom_105 rfl (lv_at hl 1 rfl) ?_
  refine r_getn (K := 23) S X86 (Nat.le_of_ble_eq_true rfl) rfl lk3_24_3 (fun _ => ⟨_, rfl, rfl⟩) dX3_copyFrom_106 (fun v89 z90 => ?_)
  have r91 : R (-1) (8) v89 := rd I87 rfl z90
  refine r_put (K := 23) (ty := .int) S X86 (Nat.le_of_ble_eq_true rfl) rfl lk3_24_3 (fun _ => ⟨_, rfl, Nat.le_of_ble_eq_true rfl, rfl⟩) (fun _ _ _ h => by cases h; exact ⟨rfl, rfl⟩) rfl rfl dX3_copyFrom_109 (fun t92 H lc M93 X94 => ?_)
  have I95 := Inv_mu I87 M93 (show Rg (kd 67) 8 v89 from (R_of (lo := -1) (hi := 8) r91 rfl))
  have F96 : Fr [(67, 4), (67, 5), (67, 6), (67, 7), (67, 8), (67, 9), (67, 10)] [68, 69, 70, 71] τ t92 := Fr_mu F88 M93 (by decide)
  refine r_aload_n S dX3_copyFrom_112 rfl (lv_at hl 0 rfl) ?_
  refine r_aload_n S dX3_copyFrom_113 rfl (lv_at hl 1 rfl) ?_
  refine r_getn (K := 23) S X94 (Nat.le_of_ble_eq_true rfl) rfl lk3_60_3 (fun _ => ⟨_, rfl, rfl⟩) dX3_copyFrom_114 (fun v97 z98 => ?_)
  have r100 := R_any v97
  refine r_put (K := 23) (ty := .int) S X94 (Nat.le_of_ble_eq_true rfl) rfl lk3_60_3 (fun _ => ⟨_, rfl, Nat.le_of_ble_eq_true rfl, rfl⟩) (fun _ _ _ h => by cases h; exact ⟨rfl, rfl⟩) rfl rfl dX3_copyFrom_117 (fun t101 H lc M102 X103 => ?_)
  have I104 := Inv_mu I95 M102 (R_any v97)
  have F105 : Fr [(67, 4), (67, 5), (67, 6), (67, 7), (67, 8), (67, 9), (67, 10)] [68, 69, 70, 71] τ t101 := Fr_mu F96 M102 (by decide)
  refine r_aload_n S dX3_copyFrom_120 rfl (lv_at hl 0 rfl) ?_
  refine r_aload_n S dX3_copyFrom_121 rfl (lv_at hl 1 rfl) ?_
  refine r_getn (K := 23) S X103 (Nat.le_of_ble_eq_true rfl) rfl lk3_63_3 (fun _ => ⟨_, rfl, rfl⟩) dX3_copyFrom_122 (fun v106 z107 => ?_)
  have r109 := R_any v106
  refine r_put (K := 23) (ty := .int) S X103 (Nat.le_of_ble_eq_true rfl) rfl lk3_63_3 (fun _ => ⟨_, rfl, Nat.le_of_ble_eq_true rfl, rfl⟩) (fun _ _ _ h => by cases h; exact ⟨rfl, rfl⟩) rfl rfl dX3_copyFrom_125 (fun t110 H lc M111 X112 => ?_)
  have I113 := Inv_mu I104 M111 (R_any v106)
  have F114 : Fr [(67, 4), (67, 5), (67, 6), (67, 7), (67, 8), (67, 9), (67, 10)] [68, 69, 70, 71] τ t110 := Fr_mu F105 M111 (by decide)
  exact r_vret S hr hlk X112 ⟨I113, F114, (((M111.2 67 8 (Or.inr (by decide))).trans ((M102.2 67 8 (Or.inr (by decide))).trans M93.1)).trans (((M85.2 30 8 (Or.inl (by decide))).trans ((M77.2 30 8 (Or.inl (by decide))).trans ((M69.2 30 8 (Or.inl (by decide))).trans ((M61.2 30 8 (Or.inl (by decide))).trans ((C54.1 30 (by decide) 8).trans ((C40.1 30 (by decide) 8).trans ((C26.1 30 (by decide) 8).trans ((C12.1 30 (by decide) 8).trans rfl)))))))).symm.trans z90).symm)⟩ dX3_copyFrom_128
def po_scopy_30_67 (τ : Tau)     (u : Tau) : Prop := Inv u ∧ Fr [(30, 4), (30, 5), (30, 6), (30, 7), (30, 8), (30, 9), (30, 10)] [31, 32, 33, 34] τ u ∧ u 30 8 = τ 67 8
set_option maxHeartbeats 4000000 in
set_option maxRecDepth 100000 in
theorem c_scopy_30_67 (l : Launch) (G : Gx) (τ : Tau) (hI : Inv τ) : Cv l G yX3_copyFrom cX3_copyFrom 2 1 60 [.ref (G.2.2.2.1 30), .ref (G.2.2.2.1 67)] τ (po_scopy_30_67 τ    ) := by
  unfold Cv
  refine C_of (own := RX3) (by decide) rfl (Nat.le_of_ble_eq_true rfl) ?_
  intro p e s m below meth c ls S hr hlk X hl
  have hl : lv_has ls 2 [(0, .ref (G.2.2.2.1 30)), (1, .ref (G.2.2.2.1 67))] := hl
  refine r_aload_n S dX3_copyFrom_0 rfl (lv_at hl 1 rfl) ?_
  refine r_get (K := 23) (v := .ref (G.2.2.2.1 68)) S X (Nat.le_of_ble_eq_true rfl) rfl lk3_9_3 (fun _ => ⟨_, rfl, rfl⟩) dX3_copyFrom_1 ?_
  refine r_iconst S dX3_copyFrom_4 (by decide) (fun v1 z2 => ?_)
  have r3 := R_eq z2
  refine r_aload_n S dX3_copyFrom_5 rfl (lv_at hl 0 rfl) ?_
  refine r_get (K := 23) (v := .ref (G.2.2.2.1 31)) S X (Nat.le_of_ble_eq_true rfl) rfl lk3_9_3 (fun _ => ⟨_, rfl, rfl⟩) dX3_copyFrom_6 ?_
  refine r_iconst S dX3_copyFrom_9 (by decide) (fun v4 z5 => ?_)
  have r6 := R_eq z5
  refine r_aload_n S dX3_copyFrom_10 rfl (lv_at hl 0 rfl) ?_
  refine r_get (K := 23) (v := .ref (G.2.2.2.1 31)) S X (Nat.le_of_ble_eq_true rfl) rfl lk3_9_3 (fun _ => ⟨_, rfl, rfl⟩) dX3_copyFrom_11 ?_
  refine r_alen (x := (0, .inl fun _ => 0)) (n := 90) (K := 24) (t0 := 0) S X (Nat.le_of_ble_eq_true rfl) rfl (fun _ => ⟨_, rfl⟩) rfl (by decide) dX3_copyFrom_14 (fun v7 z8 => ?_)
  have r9 := R_eq z8
  refine r_copy (K2 := 24) (n := 90) (K := 24) S X (Nat.le_of_ble_eq_true rfl) rfl (Nat.le_of_ble_eq_true rfl) rfl (fun _ _ _ => rfl) (fun _ _ _ => rfl) hl.1 kw13 kw10 kw11 kw12 (by omega) (by omega) (by omega) ⟨Nat.le_of_ble_eq_true rfl, by decide⟩ dX3_copyFrom_15 (fun t11 H lc C12 X10 => ?_)
  have I13 := Inv_cp (K := 24) (K2 := 24) hI C12 rfl rfl (fun _ _ h => h)
  have F14 : Fr [(30, 4), (30, 5), (30, 6), (30, 7), (30, 8), (30, 9), (30, 10)] [31, 32, 33, 34] τ t11 := Fr_cp Fr_rfl C12 (by decide)
  refine r_aload_n S dX3_copyFrom_18 rfl (lv_at hl 1 rfl) ?_
  refine r_get (K := 23) (v := .ref (G.2.2.2.1 69)) S X10 (Nat.le_of_ble_eq_true rfl) rfl lk3_15_3 (fun _ => ⟨_, rfl, rfl⟩) dX3_copyFrom_19 ?_
  refine r_iconst S dX3_copyFrom_22 (by decide) (fun v15 z16 => ?_)
  have r17 := R_eq z16
  refine r_aload_n S dX3_copyFrom_23 rfl (lv_at hl 0 rfl) ?_
  refine r_get (K := 23) (v := .ref (G.2.2.2.1 32)) S X10 (Nat.le_of_ble_eq_true rfl) rfl lk3_15_3 (fun _ => ⟨_, rfl, rfl⟩) dX3_copyFrom_24 ?_
  refine r_iconst S dX3_copyFrom_27 (by decide) (fun v18 z19 => ?_)
  have r20 := R_eq z19
  refine r_aload_n S dX3_copyFrom_28 rfl (lv_at hl 0 rfl) ?_
  refine r_get (K := 23) (v := .ref (G.2.2.2.1 32)) S X10 (Nat.le_of_ble_eq_true rfl) rfl lk3_15_3 (fun _ => ⟨_, rfl, rfl⟩) dX3_copyFrom_29 ?_
  refine r_alen (x := (0, .inl fun _ => 0)) (n := 90) (K := 25) (t0 := 0) S X10 (Nat.le_of_ble_eq_true rfl) rfl (fun _ => ⟨_, rfl⟩) rfl (by decide) dX3_copyFrom_32 (fun v21 z22 => ?_)
  have r23 := R_eq z22
  refine r_copy (K2 := 25) (n := 90) (K := 25) S X10 (Nat.le_of_ble_eq_true rfl) rfl (Nat.le_of_ble_eq_true rfl) rfl (fun _ _ _ => rfl) (fun _ _ _ => rfl) hl.1 kw13 kw10 kw11 kw12 (by omega) (by omega) (by omega) ⟨Nat.le_of_ble_eq_true rfl, by decide⟩ dX3_copyFrom_33 (fun t25 H lc C26 X24 => ?_)
  have I27 := Inv_cp (K := 25) (K2 := 25) I13 C26 rfl rfl (fun _ _ h => h)
  have F28 : Fr [(30, 4), (30, 5), (30, 6), (30, 7), (30, 8), (30, 9), (30, 10)] [31, 32, 33, 34] τ t25 := Fr_cp F14 C26 (by decide)
  refine r_aload_n S dX3_copyFrom_36 rfl (lv_at hl 1 rfl) ?_
  refine r_get (K := 23) (v := .ref (G.2.2.2.1 70)) S X24 (Nat.le_of_ble_eq_true rfl) rfl lk3_18_3 (fun _ => ⟨_, rfl, rfl⟩) dX3_copyFrom_37 ?_
  refine r_iconst S dX3_copyFrom_40 (by decide) (fun v29 z30 => ?_)
  have r31 := R_eq z30
  refine r_aload_n S dX3_copyFrom_41 rfl (lv_at hl 0 rfl) ?_
  refine r_get (K := 23) (v := .ref (G.2.2.2.1 33)) S X24 (Nat.le_of_ble_eq_true rfl) rfl lk3_18_3 (fun _ => ⟨_, rfl, rfl⟩) dX3_copyFrom_42 ?_
  refine r_iconst S dX3_copyFrom_45 (by decide) (fun v32 z33 => ?_)
  have r34 := R_eq z33
  refine r_aload_n S dX3_copyFrom_46 rfl (lv_at hl 0 rfl) ?_
  refine r_get (K := 23) (v := .ref (G.2.2.2.1 33)) S X24 (Nat.le_of_ble_eq_true rfl) rfl lk3_18_3 (fun _ => ⟨_, rfl, rfl⟩) dX3_copyFrom_47 ?_
  refine r_alen (x := (0, .inl fun _ => 0)) (n := 10) (K := 26) (t0 := 0) S X24 (Nat.le_of_ble_eq_true rfl) rfl (fun _ => ⟨_, rfl⟩) rfl (by decide) dX3_copyFrom_50 (fun v35 z36 => ?_)
  have r37 := R_eq z36
  refine r_copy (K2 := 26) (n := 10) (K := 26) S X24 (Nat.le_of_ble_eq_true rfl) rfl (Nat.le_of_ble_eq_true rfl) rfl (fun _ _ _ => rfl) (fun _ _ _ => rfl) hl.1 kw13 kw10 kw11 kw12 (by omega) (by omega) (by omega) ⟨Nat.le_of_ble_eq_true rfl, by decide⟩ dX3_copyFrom_51 (fun t39 H lc C40 X38 => ?_)
  have I41 := Inv_cp (K := 26) (K2 := 26) I27 C40 rfl rfl (fun _ _ h => h)
  have F42 : Fr [(30, 4), (30, 5), (30, 6), (30, 7), (30, 8), (30, 9), (30, 10)] [31, 32, 33, 34] τ t39 := Fr_cp F28 C40 (by decide)
  refine r_aload_n S dX3_copyFrom_54 rfl (lv_at hl 1 rfl) ?_
  refine r_get (K := 23) (v := .ref (G.2.2.2.1 71)) S X38 (Nat.le_of_ble_eq_true rfl) rfl lk3_21_3 (fun _ => ⟨_, rfl, rfl⟩) dX3_copyFrom_55 ?_
  refine r_iconst S dX3_copyFrom_58 (by decide) (fun v43 z44 => ?_)
  have r45 := R_eq z44
  refine r_aload_n S dX3_copyFrom_59 rfl (lv_at hl 0 rfl) ?_
  refine r_get (K := 23) (v := .ref (G.2.2.2.1 34)) S X38 (Nat.le_of_ble_eq_true rfl) rfl lk3_21_3 (fun _ => ⟨_, rfl, rfl⟩) dX3_copyFrom_60 ?_
  refine r_iconst S dX3_copyFrom_63 (by decide) (fun v46 z47 => ?_)
  have r48 := R_eq z47
  refine r_aload_n S dX3_copyFrom_64 rfl (lv_at hl 0 rfl) ?_
  refine r_get (K := 23) (v := .ref (G.2.2.2.1 34)) S X38 (Nat.le_of_ble_eq_true rfl) rfl lk3_21_3 (fun _ => ⟨_, rfl, rfl⟩) dX3_copyFrom_65 ?_
  refine r_alen (x := (0, .inl fun _ => 0)) (n := 10) (K := 27) (t0 := 0) S X38 (Nat.le_of_ble_eq_true rfl) rfl (fun _ => ⟨_, rfl⟩) rfl (by decide) dX3_copyFrom_68 (fun v49 z50 => ?_)
  have r51 := R_eq z50
  refine r_copy (K2 := 27) (n := 10) (K := 27) S X38 (Nat.le_of_ble_eq_true rfl) rfl (Nat.le_of_ble_eq_true rfl) rfl (fun _ _ _ => rfl) (fun _ _ _ => rfl) hl.1 kw13 kw10 kw11 kw12 (by omega) (by omega) (by omega) ⟨Nat.le_of_ble_eq_true rfl, by decide⟩ dX3_copyFrom_69 (fun t53 H lc C54 X52 => ?_)
  have I55 := Inv_cp (K := 27) (K2 := 27) I41 C54 rfl rfl (fun _ _ h => h)
  have F56 : Fr [(30, 4), (30, 5), (30, 6), (30, 7), (30, 8), (30, 9), (30, 10)] [31, 32, 33, 34] τ t53 := Fr_cp F42 C54 (by decide)
  refine r_aload_n S dX3_copyFrom_72 rfl (lv_at hl 0 rfl) ?_
  refine r_aload_n S dX3_copyFrom_73 rfl (lv_at hl 1 rfl) ?_
  refine r_getn (K := 23) S X52 (Nat.le_of_ble_eq_true rfl) rfl lk3_45_3 (fun _ => ⟨_, rfl, rfl⟩) dX3_copyFrom_74 (fun v57 z58 => ?_)
  have r59 : R (0) (1023) v57 := rd I55 rfl z58
  refine r_put (K := 23) (ty := .int) S X52 (Nat.le_of_ble_eq_true rfl) rfl lk3_45_3 (fun _ => ⟨_, rfl, Nat.le_of_ble_eq_true rfl, rfl⟩) (fun _ _ _ h => by cases h; exact ⟨rfl, rfl⟩) rfl rfl dX3_copyFrom_77 (fun t60 H lc M61 X62 => ?_)
  have I63 := Inv_mu I55 M61 (show Rg (kd 30) 4 v57 from (R_of (lo := 0) (hi := 1023) r59 rfl))
  have F64 : Fr [(30, 4), (30, 5), (30, 6), (30, 7), (30, 8), (30, 9), (30, 10)] [31, 32, 33, 34] τ t60 := Fr_mu F56 M61 (by decide)
  refine r_aload_n S dX3_copyFrom_80 rfl (lv_at hl 0 rfl) ?_
  refine r_aload_n S dX3_copyFrom_81 rfl (lv_at hl 1 rfl) ?_
  refine r_getn (K := 23) S X62 (Nat.le_of_ble_eq_true rfl) rfl lk3_48_3 (fun _ => ⟨_, rfl, rfl⟩) dX3_copyFrom_82 (fun v65 z66 => ?_)
  have r67 : R (0) (1) v65 := rd I63 rfl z66
  refine r_put (K := 23) (ty := .int) S X62 (Nat.le_of_ble_eq_true rfl) rfl lk3_48_3 (fun _ => ⟨_, rfl, Nat.le_of_ble_eq_true rfl, rfl⟩) (fun _ _ _ h => by cases h; exact ⟨rfl, rfl⟩) rfl rfl dX3_copyFrom_85 (fun t68 H lc M69 X70 => ?_)
  have I71 := Inv_mu I63 M69 (show Rg (kd 30) 5 v65 from (R_of (lo := 0) (hi := 1) r67 rfl))
  have F72 : Fr [(30, 4), (30, 5), (30, 6), (30, 7), (30, 8), (30, 9), (30, 10)] [31, 32, 33, 34] τ t68 := Fr_mu F64 M69 (by decide)
  refine r_aload_n S dX3_copyFrom_88 rfl (lv_at hl 0 rfl) ?_
  refine r_aload_n S dX3_copyFrom_89 rfl (lv_at hl 1 rfl) ?_
  refine r_getn (K := 23) S X70 (Nat.le_of_ble_eq_true rfl) rfl lk3_51_3 (fun _ => ⟨_, rfl, rfl⟩) dX3_copyFrom_90 (fun v73 z74 => ?_)
  have r75 : R (0) (1023) v73 := rd I71 rfl z74
  refine r_put (K := 23) (ty := .int) S X70 (Nat.le_of_ble_eq_true rfl) rfl lk3_51_3 (fun _ => ⟨_, rfl, Nat.le_of_ble_eq_true rfl, rfl⟩) (fun _ _ _ h => by cases h; exact ⟨rfl, rfl⟩) rfl rfl dX3_copyFrom_93 (fun t76 H lc M77 X78 => ?_)
  have I79 := Inv_mu I71 M77 (show Rg (kd 30) 6 v73 from (R_of (lo := 0) (hi := 1023) r75 rfl))
  have F80 : Fr [(30, 4), (30, 5), (30, 6), (30, 7), (30, 8), (30, 9), (30, 10)] [31, 32, 33, 34] τ t76 := Fr_mu F72 M77 (by decide)
  refine r_aload_n S dX3_copyFrom_96 rfl (lv_at hl 0 rfl) ?_
  refine r_aload_n S dX3_copyFrom_97 rfl (lv_at hl 1 rfl) ?_
  refine r_getn (K := 23) S X78 (Nat.le_of_ble_eq_true rfl) rfl lk3_54_3 (fun _ => ⟨_, rfl, rfl⟩) dX3_copyFrom_98 (fun v81 z82 => ?_)
  have r83 : R (0) (1023) v81 := rd I79 rfl z82
  refine r_put (K := 23) (ty := .int) S X78 (Nat.le_of_ble_eq_true rfl) rfl lk3_54_3 (fun _ => ⟨_, rfl, Nat.le_of_ble_eq_true rfl, rfl⟩) (fun _ _ _ h => by cases h; exact ⟨rfl, rfl⟩) rfl rfl dX3_copyFrom_101 (fun t84 H lc M85 X86 => ?_)
  have I87 := Inv_mu I79 M85 (show Rg (kd 30) 7 v81 from (R_of (lo := 0) (hi := 1023) r83 rfl))
  have F88 : Fr [(30, 4), (30, 5), (30, 6), (30, 7), (30, 8), (30, 9), (30, 10)] [31, 32, 33, 34] τ t84 := Fr_mu F80 M85 (by decide)
  refine r_aload_n S dX3_copyFrom_104 rfl (lv_at hl 0 rfl) ?_
  refine r_aload_n S dX3_copyFrom_105 rfl (lv_at hl 1 rfl) ?_
  refine r_getn (K := 23) S X86 (Nat.le_of_ble_eq_true rfl) rfl lk3_24_3 (fun _ => ⟨_, rfl, rfl⟩) dX3_copyFrom_106 (fun v89 z90 => ?_)
  have r91 : R (-1) (8) v89 := rd I87 rfl z90
  refine r_put (K := 23) (ty := .int) S X86 (Nat.le_of_ble_eq_true rfl) rfl lk3_24_3 (fun _ => ⟨_, rfl, Nat.le_of_ble_eq_true rfl, rfl⟩) (fun _ _ _ h => by cases h; exact ⟨rfl, rfl⟩) rfl rfl dX3_copyFrom_109 (fun t92 H lc M93 X94 => ?_)
  have I95 := Inv_mu I87 M93 (show Rg (kd 30) 8 v89 from (R_of (lo := -1) (hi := 8) r91 rfl))
  have F96 : Fr [(30, 4), (30, 5), (30, 6), (30, 7), (30, 8), (30, 9), (30, 10)] [31, 32, 33, 34] τ t92 := Fr_mu F88 M93 (by decide)
  refine r_aload_n S dX3_copyFrom_112 rfl (lv_at hl 0 rfl) ?_
  refine r_aload_n S dX3_copyFrom_113 rfl (lv_at hl 1 rfl) ?_
  refine r_getn (K := 23) S X94 (Nat.le_of_ble_eq_true rfl) rfl lk3_60_3 (fun _ => ⟨_, rfl, rfl⟩) dX3_copyFrom_114 (fun v97 z98 => ?_)
  have r100 := R_any v97
  refine r_put (K := 23) (ty := .int) S X94 (Nat.le_of_ble_eq_true rfl) rfl lk3_60_3 (fun _ => ⟨_, rfl, Nat.le_of_ble_eq_true rfl, rfl⟩) (fun _ _ _ h => by cases h; exact ⟨rfl, rfl⟩) rfl rfl dX3_copyFrom_117 (fun t101 H lc M102 X103 => ?_)
  have I104 := Inv_mu I95 M102 (R_any v97)
  have F105 : Fr [(30, 4), (30, 5), (30, 6), (30, 7), (30, 8), (30, 9), (30, 10)] [31, 32, 33, 34] τ t101 := Fr_mu F96 M102 (by decide)
  refine r_aload_n S dX3_copyFrom_120 rfl (lv_at hl 0 rfl) ?_
  refine r_aload_n S dX3_copyFrom_121 rfl (lv_at hl 1 rfl) ?_
  refine r_getn (K := 23) S X103 (Nat.le_of_ble_eq_true rfl) rfl lk3_63_3 (fun _ => ⟨_, rfl, rfl⟩) dX3_copyFrom_122 (fun v106 z107 => ?_)
  have r109 := R_any v106
  refine r_put (K := 23) (ty := .int) S X103 (Nat.le_of_ble_eq_true rfl) rfl lk3_63_3 (fun _ => ⟨_, rfl, Nat.le_of_ble_eq_true rfl, rfl⟩) (fun _ _ _ h => by cases h; exact ⟨rfl, rfl⟩) rfl rfl dX3_copyFrom_125 (fun t110 H lc M111 X112 => ?_)
  have I113 := Inv_mu I104 M111 (R_any v106)
  have F114 : Fr [(30, 4), (30, 5), (30, 6), (30, 7), (30, 8), (30, 9), (30, 10)] [31, 32, 33, 34] τ t110 := Fr_mu F105 M111 (by decide)
  exact r_vret S hr hlk X112 ⟨I113, F114, (((M111.2 30 8 (Or.inr (by decide))).trans ((M102.2 30 8 (Or.inr (by decide))).trans M93.1)).trans (((M85.2 67 8 (Or.inl (by decide))).trans ((M77.2 67 8 (Or.inl (by decide))).trans ((M69.2 67 8 (Or.inl (by decide))).trans ((M61.2 67 8 (Or.inl (by decide))).trans ((C54.1 67 (by decide) 8).trans ((C40.1 67 (by decide) 8).trans ((C26.1 67 (by decide) 8).trans ((C12.1 67 (by decide) 8).trans rfl)))))))).symm.trans z90).symm)⟩ dX3_copyFrom_128
def po_scopy_72_30 (τ : Tau)     (u : Tau) : Prop := Inv u ∧ Fr [(72, 4), (72, 5), (72, 6), (72, 7), (72, 8), (72, 9), (72, 10)] [73, 74, 75, 76] τ u ∧ u 72 8 = τ 30 8
set_option maxHeartbeats 4000000 in
set_option maxRecDepth 100000 in
theorem c_scopy_72_30 (l : Launch) (G : Gx) (τ : Tau) (hI : Inv τ) : Cv l G yX3_copyFrom cX3_copyFrom 2 1 60 [.ref (G.2.2.2.1 72), .ref (G.2.2.2.1 30)] τ (po_scopy_72_30 τ    ) := by
  unfold Cv
  refine C_of (own := RX3) (by decide) rfl (Nat.le_of_ble_eq_true rfl) ?_
  intro p e s m below meth c ls S hr hlk X hl
  have hl : lv_has ls 2 [(0, .ref (G.2.2.2.1 72)), (1, .ref (G.2.2.2.1 30))] := hl
  refine r_aload_n S dX3_copyFrom_0 rfl (lv_at hl 1 rfl) ?_
  refine r_get (K := 23) (v := .ref (G.2.2.2.1 31)) S X (Nat.le_of_ble_eq_true rfl) rfl lk3_9_3 (fun _ => ⟨_, rfl, rfl⟩) dX3_copyFrom_1 ?_
  refine r_iconst S dX3_copyFrom_4 (by decide) (fun v1 z2 => ?_)
  have r3 := R_eq z2
  refine r_aload_n S dX3_copyFrom_5 rfl (lv_at hl 0 rfl) ?_
  refine r_get (K := 23) (v := .ref (G.2.2.2.1 73)) S X (Nat.le_of_ble_eq_true rfl) rfl lk3_9_3 (fun _ => ⟨_, rfl, rfl⟩) dX3_copyFrom_6 ?_
  refine r_iconst S dX3_copyFrom_9 (by decide) (fun v4 z5 => ?_)
  have r6 := R_eq z5
  refine r_aload_n S dX3_copyFrom_10 rfl (lv_at hl 0 rfl) ?_
  refine r_get (K := 23) (v := .ref (G.2.2.2.1 73)) S X (Nat.le_of_ble_eq_true rfl) rfl lk3_9_3 (fun _ => ⟨_, rfl, rfl⟩) dX3_copyFrom_11 ?_
  refine r_alen (x := (0, .inl fun _ => 0)) (n := 90) (K := 24) (t0 := 0) S X (Nat.le_of_ble_eq_true rfl) rfl (fun _ => ⟨_, rfl⟩) rfl (by decide) dX3_copyFrom_14 (fun v7 z8 => ?_)
  have r9 := R_eq z8
  refine r_copy (K2 := 24) (n := 90) (K := 24) S X (Nat.le_of_ble_eq_true rfl) rfl (Nat.le_of_ble_eq_true rfl) rfl (fun _ _ _ => rfl) (fun _ _ _ => rfl) hl.1 kw13 kw10 kw11 kw12 (by omega) (by omega) (by omega) ⟨Nat.le_of_ble_eq_true rfl, by decide⟩ dX3_copyFrom_15 (fun t11 H lc C12 X10 => ?_)
  have I13 := Inv_cp (K := 24) (K2 := 24) hI C12 rfl rfl (fun _ _ h => h)
  have F14 : Fr [(72, 4), (72, 5), (72, 6), (72, 7), (72, 8), (72, 9), (72, 10)] [73, 74, 75, 76] τ t11 := Fr_cp Fr_rfl C12 (by decide)
  refine r_aload_n S dX3_copyFrom_18 rfl (lv_at hl 1 rfl) ?_
  refine r_get (K := 23) (v := .ref (G.2.2.2.1 32)) S X10 (Nat.le_of_ble_eq_true rfl) rfl lk3_15_3 (fun _ => ⟨_, rfl, rfl⟩) dX3_copyFrom_19 ?_
  refine r_iconst S dX3_copyFrom_22 (by decide) (fun v15 z16 => ?_)
  have r17 := R_eq z16
  refine r_aload_n S dX3_copyFrom_23 rfl (lv_at hl 0 rfl) ?_
  refine r_get (K := 23) (v := .ref (G.2.2.2.1 74)) S X10 (Nat.le_of_ble_eq_true rfl) rfl lk3_15_3 (fun _ => ⟨_, rfl, rfl⟩) dX3_copyFrom_24 ?_
  refine r_iconst S dX3_copyFrom_27 (by decide) (fun v18 z19 => ?_)
  have r20 := R_eq z19
  refine r_aload_n S dX3_copyFrom_28 rfl (lv_at hl 0 rfl) ?_
  refine r_get (K := 23) (v := .ref (G.2.2.2.1 74)) S X10 (Nat.le_of_ble_eq_true rfl) rfl lk3_15_3 (fun _ => ⟨_, rfl, rfl⟩) dX3_copyFrom_29 ?_
  refine r_alen (x := (0, .inl fun _ => 0)) (n := 90) (K := 25) (t0 := 0) S X10 (Nat.le_of_ble_eq_true rfl) rfl (fun _ => ⟨_, rfl⟩) rfl (by decide) dX3_copyFrom_32 (fun v21 z22 => ?_)
  have r23 := R_eq z22
  refine r_copy (K2 := 25) (n := 90) (K := 25) S X10 (Nat.le_of_ble_eq_true rfl) rfl (Nat.le_of_ble_eq_true rfl) rfl (fun _ _ _ => rfl) (fun _ _ _ => rfl) hl.1 kw13 kw10 kw11 kw12 (by omega) (by omega) (by omega) ⟨Nat.le_of_ble_eq_true rfl, by decide⟩ dX3_copyFrom_33 (fun t25 H lc C26 X24 => ?_)
  have I27 := Inv_cp (K := 25) (K2 := 25) I13 C26 rfl rfl (fun _ _ h => h)
  have F28 : Fr [(72, 4), (72, 5), (72, 6), (72, 7), (72, 8), (72, 9), (72, 10)] [73, 74, 75, 76] τ t25 := Fr_cp F14 C26 (by decide)
  refine r_aload_n S dX3_copyFrom_36 rfl (lv_at hl 1 rfl) ?_
  refine r_get (K := 23) (v := .ref (G.2.2.2.1 33)) S X24 (Nat.le_of_ble_eq_true rfl) rfl lk3_18_3 (fun _ => ⟨_, rfl, rfl⟩) dX3_copyFrom_37 ?_
  refine r_iconst S dX3_copyFrom_40 (by decide) (fun v29 z30 => ?_)
  have r31 := R_eq z30
  refine r_aload_n S dX3_copyFrom_41 rfl (lv_at hl 0 rfl) ?_
  refine r_get (K := 23) (v := .ref (G.2.2.2.1 75)) S X24 (Nat.le_of_ble_eq_true rfl) rfl lk3_18_3 (fun _ => ⟨_, rfl, rfl⟩) dX3_copyFrom_42 ?_
  refine r_iconst S dX3_copyFrom_45 (by decide) (fun v32 z33 => ?_)
  have r34 := R_eq z33
  refine r_aload_n S dX3_copyFrom_46 rfl (lv_at hl 0 rfl) ?_
  refine r_get (K := 23) (v := .ref (G.2.2.2.1 75)) S X24 (Nat.le_of_ble_eq_true rfl) rfl lk3_18_3 (fun _ => ⟨_, rfl, rfl⟩) dX3_copyFrom_47 ?_
  refine r_alen (x := (0, .inl fun _ => 0)) (n := 10) (K := 26) (t0 := 0) S X24 (Nat.le_of_ble_eq_true rfl) rfl (fun _ => ⟨_, rfl⟩) rfl (by decide) dX3_copyFrom_50 (fun v35 z36 => ?_)
  have r37 := R_eq z36
  refine r_copy (K2 := 26) (n := 10) (K := 26) S X24 (Nat.le_of_ble_eq_true rfl) rfl (Nat.le_of_ble_eq_true rfl) rfl (fun _ _ _ => rfl) (fun _ _ _ => rfl) hl.1 kw13 kw10 kw11 kw12 (by omega) (by omega) (by omega) ⟨Nat.le_of_ble_eq_true rfl, by decide⟩ dX3_copyFrom_51 (fun t39 H lc C40 X38 => ?_)
  have I41 := Inv_cp (K := 26) (K2 := 26) I27 C40 rfl rfl (fun _ _ h => h)
  have F42 : Fr [(72, 4), (72, 5), (72, 6), (72, 7), (72, 8), (72, 9), (72, 10)] [73, 74, 75, 76] τ t39 := Fr_cp F28 C40 (by decide)
  refine r_aload_n S dX3_copyFrom_54 rfl (lv_at hl 1 rfl) ?_
  refine r_get (K := 23) (v := .ref (G.2.2.2.1 34)) S X38 (Nat.le_of_ble_eq_true rfl) rfl lk3_21_3 (fun _ => ⟨_, rfl, rfl⟩) dX3_copyFrom_55 ?_
  refine r_iconst S dX3_copyFrom_58 (by decide) (fun v43 z44 => ?_)
  have r45 := R_eq z44
  refine r_aload_n S dX3_copyFrom_59 rfl (lv_at hl 0 rfl) ?_
  refine r_get (K := 23) (v := .ref (G.2.2.2.1 76)) S X38 (Nat.le_of_ble_eq_true rfl) rfl lk3_21_3 (fun _ => ⟨_, rfl, rfl⟩) dX3_copyFrom_60 ?_
  refine r_iconst S dX3_copyFrom_63 (by decide) (fun v46 z47 => ?_)
  have r48 := R_eq z47
  refine r_aload_n S dX3_copyFrom_64 rfl (lv_at hl 0 rfl) ?_
  refine r_get (K := 23) (v := .ref (G.2.2.2.1 76)) S X38 (Nat.le_of_ble_eq_true rfl) rfl lk3_21_3 (fun _ => ⟨_, rfl, rfl⟩) dX3_copyFrom_65 ?_
  refine r_alen (x := (0, .inl fun _ => 0)) (n := 10) (K := 27) (t0 := 0) S X38 (Nat.le_of_ble_eq_true rfl) rfl (fun _ => ⟨_, rfl⟩) rfl (by decide) dX3_copyFrom_68 (fun v49 z50 => ?_)
  have r51 := R_eq z50
  refine r_copy (K2 := 27) (n := 10) (K := 27) S X38 (Nat.le_of_ble_eq_true rfl) rfl (Nat.le_of_ble_eq_true rfl) rfl (fun _ _ _ => rfl) (fun _ _ _ => rfl) hl.1 kw13 kw10 kw11 kw12 (by omega) (by omega) (by omega) ⟨Nat.le_of_ble_eq_true rfl, by decide⟩ dX3_copyFrom_69 (fun t53 H lc C54 X52 => ?_)
  have I55 := Inv_cp (K := 27) (K2 := 27) I41 C54 rfl rfl (fun _ _ h => h)
  have F56 : Fr [(72, 4), (72, 5), (72, 6), (72, 7), (72, 8), (72, 9), (72, 10)] [73, 74, 75, 76] τ t53 := Fr_cp F42 C54 (by decide)
  refine r_aload_n S dX3_copyFrom_72 rfl (lv_at hl 0 rfl) ?_
  refine r_aload_n S dX3_copyFrom_73 rfl (lv_at hl 1 rfl) ?_
  refine r_getn (K := 23) S X52 (Nat.le_of_ble_eq_true rfl) rfl lk3_45_3 (fun _ => ⟨_, rfl, rfl⟩) dX3_copyFrom_74 (fun v57 z58 => ?_)
  have r59 : R (0) (1023) v57 := rd I55 rfl z58
  refine r_put (K := 23) (ty := .int) S X52 (Nat.le_of_ble_eq_true rfl) rfl lk3_45_3 (fun _ => ⟨_, rfl, Nat.le_of_ble_eq_true rfl, rfl⟩) (fun _ _ _ h => by cases h; exact ⟨rfl, rfl⟩) rfl rfl dX3_copyFrom_77 (fun t60 H lc M61 X62 => ?_)
  have I63 := Inv_mu I55 M61 (show Rg (kd 72) 4 v57 from (R_of (lo := 0) (hi := 1023) r59 rfl))
  have F64 : Fr [(72, 4), (72, 5), (72, 6), (72, 7), (72, 8), (72, 9), (72, 10)] [73, 74, 75, 76] τ t60 := Fr_mu F56 M61 (by decide)
  refine r_aload_n S dX3_copyFrom_80 rfl (lv_at hl 0 rfl) ?_
  refine r_aload_n S dX3_copyFrom_81 rfl (lv_at hl 1 rfl) ?_
  refine r_getn (K := 23) S X62 (Nat.le_of_ble_eq_true rfl) rfl lk3_48_3 (fun _ => ⟨_, rfl, rfl⟩) dX3_copyFrom_82 (fun v65 z66 => ?_)
  have r67 : R (0) (1) v65 := rd I63 rfl z66
  refine r_put (K := 23) (ty := .int) S X62 (Nat.le_of_ble_eq_true rfl) rfl lk3_48_3 (fun _ => ⟨_, rfl, Nat.le_of_ble_eq_true rfl, rfl⟩) (fun _ _ _ h => by cases h; exact ⟨rfl, rfl⟩) rfl rfl dX3_copyFrom_85 (fun t68 H lc M69 X70 => ?_)
  have I71 := Inv_mu I63 M69 (show Rg (kd 72) 5 v65 from (R_of (lo := 0) (hi := 1) r67 rfl))
  have F72 : Fr [(72, 4), (72, 5), (72, 6), (72, 7), (72, 8), (72, 9), (72, 10)] [73, 74, 75, 76] τ t68 := Fr_mu F64 M69 (by decide)
  refine r_aload_n S dX3_copyFrom_88 rfl (lv_at hl 0 rfl) ?_
  refine r_aload_n S dX3_copyFrom_89 rfl (lv_at hl 1 rfl) ?_
  refine r_getn (K := 23) S X70 (Nat.le_of_ble_eq_true rfl) rfl lk3_51_3 (fun _ => ⟨_, rfl, rfl⟩) dX3_copyFrom_90 (fun v73 z74 => ?_)
  have r75 : R (0) (1023) v73 := rd I71 rfl z74
  refine r_put (K := 23) (ty := .int) S X70 (Nat.le_of_ble_eq_true rfl) rfl lk3_51_3 (fun _ => ⟨_, rfl, Nat.le_of_ble_eq_true rfl, rfl⟩) (fun _ _ _ h => by cases h; exact ⟨rfl, rfl⟩) rfl rfl dX3_copyFrom_93 (fun t76 H lc M77 X78 => ?_)
  have I79 := Inv_mu I71 M77 (show Rg (kd 72) 6 v73 from (R_of (lo := 0) (hi := 1023) r75 rfl))
  have F80 : Fr [(72, 4), (72, 5), (72, 6), (72, 7), (72, 8), (72, 9), (72, 10)] [73, 74, 75, 76] τ t76 := Fr_mu F72 M77 (by decide)
  refine r_aload_n S dX3_copyFrom_96 rfl (lv_at hl 0 rfl) ?_
  refine r_aload_n S dX3_copyFrom_97 rfl (lv_at hl 1 rfl) ?_
  refine r_getn (K := 23) S X78 (Nat.le_of_ble_eq_true rfl) rfl lk3_54_3 (fun _ => ⟨_, rfl, rfl⟩) dX3_copyFrom_98 (fun v81 z82 => ?_)
  have r83 : R (0) (1023) v81 := rd I79 rfl z82
  refine r_put (K := 23) (ty := .int) S X78 (Nat.le_of_ble_eq_true rfl) rfl lk3_54_3 (fun _ => ⟨_, rfl, Nat.le_of_ble_eq_true rfl, rfl⟩) (fun _ _ _ h => by cases h; exact ⟨rfl, rfl⟩) rfl rfl dX3_copyFrom_101 (fun t84 H lc M85 X86 => ?_)
  have I87 := Inv_mu I79 M85 (show Rg (kd 72) 7 v81 from (R_of (lo := 0) (hi := 1023) r83 rfl))
  have F88 : Fr [(72, 4), (72, 5), (72, 6), (72, 7), (72, 8), (72, 9), (72, 10)] [73, 74, 75, 76] τ t84 := Fr_mu F80 M85 (by decide)
  refine r_aload_n S dX3_copyFrom_104 rfl (lv_at hl 0 rfl) ?_
  refine r_aload_n S dX3_copyFrom_105 rfl (lv_at hl 1 rfl) ?_
  refine r_getn (K := 23) S X86 (Nat.le_of_ble_eq_true rfl) rfl lk3_24_3 (fun _ => ⟨_, rfl, rfl⟩) dX3_copyFrom_106 (fun v89 z90 => ?_)
  have r91 : R (-1) (8) v89 := rd I87 rfl z90
  refine r_put (K := 23) (ty := .int) S X86 (Nat.le_of_ble_eq_true rfl) rfl lk3_24_3 (fun _ => ⟨_, rfl, Nat.le_of_ble_eq_true rfl, rfl⟩) (fun _ _ _ h => by cases h; exact ⟨rfl, rfl⟩) rfl rfl dX3_copyFrom_109 (fun t92 H lc M93 X94 => ?_)
  have I95 := Inv_mu I87 M93 (show Rg (kd 72) 8 v89 from (R_of (lo := -1) (hi := 8) r91 rfl))
  have F96 : Fr [(72, 4), (72, 5), (72, 6), (72, 7), (72, 8), (72, 9), (72, 10)] [73, 74, 75, 76] τ t92 := Fr_mu F88 M93 (by decide)
  refine r_aload_n S dX3_copyFrom_112 rfl (lv_at hl 0 rfl) ?_
  refine r_aload_n S dX3_copyFrom_113 rfl (lv_at hl 1 rfl) ?_
  refine r_getn (K := 23) S X94 (Nat.le_of_ble_eq_true rfl) rfl lk3_60_3 (fun _ => ⟨_, rfl, rfl⟩) dX3_copyFrom_114 (fun v97 z98 => ?_)
  have r100 := R_any v97
  refine r_put (K := 23) (ty := .int) S X94 (Nat.le_of_ble_eq_true rfl) rfl lk3_60_3 (fun _ => ⟨_, rfl, Nat.le_of_ble_eq_true rfl, rfl⟩) (fun _ _ _ h => by cases h; exact ⟨rfl, rfl⟩) rfl rfl dX3_copyFrom_117 (fun t101 H lc M102 X103 => ?_)
  have I104 := Inv_mu I95 M102 (R_any v97)
  have F105 : Fr [(72, 4), (72, 5), (72, 6), (72, 7), (72, 8), (72, 9), (72, 10)] [73, 74, 75, 76] τ t101 := Fr_mu F96 M102 (by decide)
  refine r_aload_n S dX3_copyFrom_120 rfl (lv_at hl 0 rfl) ?_
  refine r_aload_n S dX3_copyFrom_121 rfl (lv_at hl 1 rfl) ?_
  refine r_getn (K := 23) S X103 (Nat.le_of_ble_eq_true rfl) rfl lk3_63_3 (fun _ => ⟨_, rfl, rfl⟩) dX3_copyFrom_122 (fun v106 z107 => ?_)
  have r109 := R_any v106
  refine r_put (K := 23) (ty := .int) S X103 (Nat.le_of_ble_eq_true rfl) rfl lk3_63_3 (fun _ => ⟨_, rfl, Nat.le_of_ble_eq_true rfl, rfl⟩) (fun _ _ _ h => by cases h; exact ⟨rfl, rfl⟩) rfl rfl dX3_copyFrom_125 (fun t110 H lc M111 X112 => ?_)
  have I113 := Inv_mu I104 M111 (R_any v106)
  have F114 : Fr [(72, 4), (72, 5), (72, 6), (72, 7), (72, 8), (72, 9), (72, 10)] [73, 74, 75, 76] τ t110 := Fr_mu F105 M111 (by decide)
  exact r_vret S hr hlk X112 ⟨I113, F114, (((M111.2 72 8 (Or.inr (by decide))).trans ((M102.2 72 8 (Or.inr (by decide))).trans M93.1)).trans (((M85.2 30 8 (Or.inl (by decide))).trans ((M77.2 30 8 (Or.inl (by decide))).trans ((M69.2 30 8 (Or.inl (by decide))).trans ((M61.2 30 8 (Or.inl (by decide))).trans ((C54.1 30 (by decide) 8).trans ((C40.1 30 (by decide) 8).trans ((C26.1 30 (by decide) 8).trans ((C12.1 30 (by decide) 8).trans rfl)))))))).symm.trans z90).symm)⟩ dX3_copyFrom_128
def po_scopy_30_72 (τ : Tau)     (u : Tau) : Prop := Inv u ∧ Fr [(30, 4), (30, 5), (30, 6), (30, 7), (30, 8), (30, 9), (30, 10)] [31, 32, 33, 34] τ u ∧ u 30 8 = τ 72 8
set_option maxHeartbeats 4000000 in
set_option maxRecDepth 100000 in
theorem c_scopy_30_72 (l : Launch) (G : Gx) (τ : Tau) (hI : Inv τ) : Cv l G yX3_copyFrom cX3_copyFrom 2 1 60 [.ref (G.2.2.2.1 30), .ref (G.2.2.2.1 72)] τ (po_scopy_30_72 τ    ) := by
  unfold Cv
  refine C_of (own := RX3) (by decide) rfl (Nat.le_of_ble_eq_true rfl) ?_
  intro p e s m below meth c ls S hr hlk X hl
  have hl : lv_has ls 2 [(0, .ref (G.2.2.2.1 30)), (1, .ref (G.2.2.2.1 72))] := hl
  refine r_aload_n S dX3_copyFrom_0 rfl (lv_at hl 1 rfl) ?_
  refine r_get (K := 23) (v := .ref (G.2.2.2.1 73)) S X (Nat.le_of_ble_eq_true rfl) rfl lk3_9_3 (fun _ => ⟨_, rfl, rfl⟩) dX3_copyFrom_1 ?_
  refine r_iconst S dX3_copyFrom_4 (by decide) (fun v1 z2 => ?_)
  have r3 := R_eq z2
  refine r_aload_n S dX3_copyFrom_5 rfl (lv_at hl 0 rfl) ?_
  refine r_get (K := 23) (v := .ref (G.2.2.2.1 31)) S X (Nat.le_of_ble_eq_true rfl) rfl lk3_9_3 (fun _ => ⟨_, rfl, rfl⟩) dX3_copyFrom_6 ?_
  refine r_iconst S dX3_copyFrom_9 (by decide) (fun v4 z5 => ?_)
  have r6 := R_eq z5
  refine r_aload_n S dX3_copyFrom_10 rfl (lv_at hl 0 rfl) ?_
  refine r_get (K := 23) (v := .ref (G.2.2.2.1 31)) S X (Nat.le_of_ble_eq_true rfl) rfl lk3_9_3 (fun _ => ⟨_, rfl, rfl⟩) dX3_copyFrom_11 ?_
  refine r_alen (x := (0, .inl fun _ => 0)) (n := 90) (K := 24) (t0 := 0) S X (Nat.le_of_ble_eq_true rfl) rfl (fun _ => ⟨_, rfl⟩) rfl (by decide) dX3_copyFrom_14 (fun v7 z8 => ?_)
  have r9 := R_eq z8
  refine r_copy (K2 := 24) (n := 90) (K := 24) S X (Nat.le_of_ble_eq_true rfl) rfl (Nat.le_of_ble_eq_true rfl) rfl (fun _ _ _ => rfl) (fun _ _ _ => rfl) hl.1 kw13 kw10 kw11 kw12 (by omega) (by omega) (by omega) ⟨Nat.le_of_ble_eq_true rfl, by decide⟩ dX3_copyFrom_15 (fun t11 H lc C12 X10 => ?_)
  have I13 := Inv_cp (K := 24) (K2 := 24) hI C12 rfl rfl (fun _ _ h => h)
  have F14 : Fr [(30, 4), (30, 5), (30, 6), (30, 7), (30, 8), (30, 9), (30, 10)] [31, 32, 33, 34] τ t11 := Fr_cp Fr_rfl C12 (by decide)
  refine r_aload_n S dX3_copyFrom_18 rfl (lv_at hl 1 rfl) ?_
  refine r_get (K := 23) (v := .ref (G.2.2.2.1 74)) S X10 (Nat.le_of_ble_eq_true rfl) rfl lk3_15_3 (fun _ => ⟨_, rfl, rfl⟩) dX3_copyFrom_19 ?_
  refine r_iconst S dX3_copyFrom_22 (by decide) (fun v15 z16 => ?_)
  have r17 := R_eq z16
  refine r_aload_n S dX3_copyFrom_23 rfl (lv_at hl 0 rfl) ?_
  refine r_get (K := 23) (v := .ref (G.2.2.2.1 32)) S X10 (Nat.le_of_ble_eq_true rfl) rfl lk3_15_3 (fun _ => ⟨_, rfl, rfl⟩) dX3_copyFrom_24 ?_
  refine r_iconst S dX3_copyFrom_27 (by decide) (fun v18 z19 => ?_)
  have r20 := R_eq z19
  refine r_aload_n S dX3_copyFrom_28 rfl (lv_at hl 0 rfl) ?_
  refine r_get (K := 23) (v := .ref (G.2.2.2.1 32)) S X10 (Nat.le_of_ble_eq_true rfl) rfl lk3_15_3 (fun _ => ⟨_, rfl, rfl⟩) dX3_copyFrom_29 ?_
  refine r_alen (x := (0, .inl fun _ => 0)) (n := 90) (K := 25) (t0 := 0) S X10 (Nat.le_of_ble_eq_true rfl) rfl (fun _ => ⟨_, rfl⟩) rfl (by decide) dX3_copyFrom_32 (fun v21 z22 => ?_)
  have r23 := R_eq z22
  refine r_copy (K2 := 25) (n := 90) (K := 25) S X10 (Nat.le_of_ble_eq_true rfl) rfl (Nat.le_of_ble_eq_true rfl) rfl (fun _ _ _ => rfl) (fun _ _ _ => rfl) hl.1 kw13 kw10 kw11 kw12 (by omega) (by omega) (by omega) ⟨Nat.le_of_ble_eq_true rfl, by decide⟩ dX3_copyFrom_33 (fun t25 H lc C26 X24 => ?_)
  have I27 := Inv_cp (K := 25) (K2 := 25) I13 C26 rfl rfl (fun _ _ h => h)
  have F28 : Fr [(30, 4), (30, 5), (30, 6), (30, 7), (30, 8), (30, 9), (30, 10)] [31, 32, 33, 34] τ t25 := Fr_cp F14 C26 (by decide)
  refine r_aload_n S dX3_copyFrom_36 rfl (lv_at hl 1 rfl) ?_
  refine r_get (K := 23) (v := .ref (G.2.2.2.1 75)) S X24 (Nat.le_of_ble_eq_true rfl) rfl lk3_18_3 (fun _ => ⟨_, rfl, rfl⟩) dX3_copyFrom_37 ?_
  refine r_iconst S dX3_copyFrom_40 (by decide) (fun v29 z30 => ?_)
  have r31 := R_eq z30
  refine r_aload_n S dX3_copyFrom_41 rfl (lv_at hl 0 rfl) ?_
  refine r_get (K := 23) (v := .ref (G.2.2.2.1 33)) S X24 (Nat.le_of_ble_eq_true rfl) rfl lk3_18_3 (fun _ => ⟨_, rfl, rfl⟩) dX3_copyFrom_42 ?_
  refine r_iconst S dX3_copyFrom_45 (by decide) (fun v32 z33 => ?_)
  have r34 := R_eq z33
  refine r_aload_n S dX3_copyFrom_46 rfl (lv_at hl 0 rfl) ?_
  refine r_get (K := 23) (v := .ref (G.2.2.2.1 33)) S X24 (Nat.le_of_ble_eq_true rfl) rfl lk3_18_3 (fun _ => ⟨_, rfl, rfl⟩) dX3_copyFrom_47 ?_
  refine r_alen (x := (0, .inl fun _ => 0)) (n := 10) (K := 26) (t0 := 0) S X24 (Nat.le_of_ble_eq_true rfl) rfl (fun _ => ⟨_, rfl⟩) rfl (by decide) dX3_copyFrom_50 (fun v35 z36 => ?_)
  have r37 := R_eq z36
  refine r_copy (K2 := 26) (n := 10) (K := 26) S X24 (Nat.le_of_ble_eq_true rfl) rfl (Nat.le_of_ble_eq_true rfl) rfl (fun _ _ _ => rfl) (fun _ _ _ => rfl) hl.1 kw13 kw10 kw11 kw12 (by omega) (by omega) (by omega) ⟨Nat.le_of_ble_eq_true rfl, by decide⟩ dX3_copyFrom_51 (fun t39 H lc C40 X38 => ?_)
  have I41 := Inv_cp (K := 26) (K2 := 26) I27 C40 rfl rfl (fun _ _ h => h)
  have F42 : Fr [(30, 4), (30, 5), (30, 6), (30, 7), (30, 8), (30, 9), (30, 10)] [31, 32, 33, 34] τ t39 := Fr_cp F28 C40 (by decide)
  refine r_aload_n S dX3_copyFrom_54 rfl (lv_at hl 1 rfl) ?_
  refine r_get (K := 23) (v := .ref (G.2.2.2.1 76)) S X38 (Nat.le_of_ble_eq_true rfl) rfl lk3_21_3 (fun _ => ⟨_, rfl, rfl⟩) dX3_copyFrom_55 ?_
  refine r_iconst S dX3_copyFrom_58 (by decide) (fun v43 z44 => ?_)
  have r45 := R_eq z44
  refine r_aload_n S dX3_copyFrom_59 rfl (lv_at hl 0 rfl) ?_
  refine r_get (K := 23) (v := .ref (G.2.2.2.1 34)) S X38 (Nat.le_of_ble_eq_true rfl) rfl lk3_21_3 (fun _ => ⟨_, rfl, rfl⟩) dX3_copyFrom_60 ?_
  refine r_iconst S dX3_copyFrom_63 (by decide) (fun v46 z47 => ?_)
  have r48 := R_eq z47
  refine r_aload_n S dX3_copyFrom_64 rfl (lv_at hl 0 rfl) ?_
  refine r_get (K := 23) (v := .ref (G.2.2.2.1 34)) S X38 (Nat.le_of_ble_eq_true rfl) rfl lk3_21_3 (fun _ => ⟨_, rfl, rfl⟩) dX3_copyFrom_65 ?_
  refine r_alen (x := (0, .inl fun _ => 0)) (n := 10) (K := 27) (t0 := 0) S X38 (Nat.le_of_ble_eq_true rfl) rfl (fun _ => ⟨_, rfl⟩) rfl (by decide) dX3_copyFrom_68 (fun v49 z50 => ?_)
  have r51 := R_eq z50
  refine r_copy (K2 := 27) (n := 10) (K := 27) S X38 (Nat.le_of_ble_eq_true rfl) rfl (Nat.le_of_ble_eq_true rfl) rfl (fun _ _ _ => rfl) (fun _ _ _ => rfl) hl.1 kw13 kw10 kw11 kw12 (by omega) (by omega) (by omega) ⟨Nat.le_of_ble_eq_true rfl, by decide⟩ dX3_copyFrom_69 (fun t53 H lc C54 X52 => ?_)
  have I55 := Inv_cp (K := 27) (K2 := 27) I41 C54 rfl rfl (fun _ _ h => h)
  have F56 : Fr [(30, 4), (30, 5), (30, 6), (30, 7), (30, 8), (30, 9), (30, 10)] [31, 32, 33, 34] τ t53 := Fr_cp F42 C54 (by decide)
  refine r_aload_n S dX3_copyFrom_72 rfl (lv_at hl 0 rfl) ?_
  refine r_aload_n S dX3_copyFrom_73 rfl (lv_at hl 1 rfl) ?_
  refine r_getn (K := 23) S X52 (Nat.le_of_ble_eq_true rfl) rfl lk3_45_3 (fun _ => ⟨_, rfl, rfl⟩) dX3_copyFrom_74 (fun v57 z58 => ?_)
  have r59 : R (0) (1023) v57 := rd I55 rfl z58
  refine r_put (K := 23) (ty := .int) S X52 (Nat.le_of_ble_eq_true rfl) rfl lk3_45_3 (fun _ => ⟨_, rfl, Nat.le_of_ble_eq_true rfl, rfl⟩) (fun _ _ _ h => by cases h; exact ⟨rfl, rfl⟩) rfl rfl dX3_copyFrom_77 (fun t60 H lc M61 X62 => ?_)
  have I63 := Inv_mu I55 M61 (show Rg (kd 30) 4 v57 from (R_of (lo := 0) (hi := 1023) r59 rfl))
  have F64 : Fr [(30, 4), (30, 5), (30, 6), (30, 7), (30, 8), (30, 9), (30, 10)] [31, 32, 33, 34] τ t60 := Fr_mu F56 M61 (by decide)
  refine r_aload_n S dX3_copyFrom_80 rfl (lv_at hl 0 rfl) ?_
  refine r_aload_n S dX3_copyFrom_81 rfl (lv_at hl 1 rfl) ?_
  refine r_getn (K := 23) S X62 (Nat.le_of_ble_eq_true rfl) rfl lk3_48_3 (fun _ => ⟨_, rfl, rfl⟩) dX3_copyFrom_82 (fun v65 z66 => ?_)
  have r67 : R (0) (1) v65 := rd I63 rfl z66
  refine r_put (K := 23) (ty := .int) S X62 (Nat.le_of_ble_eq_true rfl) rfl lk3_48_3 (fun _ => ⟨_, rfl, Nat.le_of_ble_eq_true rfl, rfl⟩) (fun _ _ _ h => by cases h; exact ⟨rfl, rfl⟩) rfl rfl dX3_copyFrom_85 (fun t68 H lc M69 X70 => ?_)
  have I71 := Inv_mu I63 M69 (show Rg (kd 30) 5 v65 from (R_of (lo := 0) (hi := 1) r67 rfl))
  have F72 : Fr [(30, 4), (30, 5), (30, 6), (30, 7), (30, 8), (30, 9), (30, 10)] [31, 32, 33, 34] τ t68 := Fr_mu F64 M69 (by decide)
  refine r_aload_n S dX3_copyFrom_88 rfl (lv_at hl 0 rfl) ?_
  refine r_aload_n S dX3_copyFrom_89 rfl (lv_at hl 1 rfl) ?_
  refine r_getn (K := 23) S X70 (Nat.le_of_ble_eq_true rfl) rfl lk3_51_3 (fun _ => ⟨_, rfl, rfl⟩) dX3_copyFrom_90 (fun v73 z74 => ?_)
  have r75 : R (0) (1023) v73 := rd I71 rfl z74
  refine r_put (K := 23) (ty := .int) S X70 (Nat.le_of_ble_eq_true rfl) rfl lk3_51_3 (fun _ => ⟨_, rfl, Nat.le_of_ble_eq_true rfl, rfl⟩) (fun _ _ _ h => by cases h; exact ⟨rfl, rfl⟩) rfl rfl dX3_copyFrom_93 (fun t76 H lc M77 X78 => ?_)
  have I79 := Inv_mu I71 M77 (show Rg (kd 30) 6 v73 from (R_of (lo := 0) (hi := 1023) r75 rfl))
  have F80 : Fr [(30, 4), (30, 5), (30, 6), (30, 7), (30, 8), (30, 9), (30, 10)] [31, 32, 33, 34] τ t76 := Fr_mu F72 M77 (by decide)
  refine r_aload_n S dX3_copyFrom_96 rfl (lv_at hl 0 rfl) ?_
  refine r_aload_n S dX3_copyFrom_97 rfl (lv_at hl 1 rfl) ?_
  refine r_getn (K := 23) S X78 (Nat.le_of_ble_eq_true rfl) rfl lk3_54_3 (fun _ => ⟨_, rfl, rfl⟩) dX3_copyFrom_98 (fun v81 z82 => ?_)
  have r83 : R (0) (1023) v81 := rd I79 rfl z82
  refine r_put (K := 23) (ty := .int) S X78 (Nat.le_of_ble_eq_true rfl) rfl lk3_54_3 (fun _ => ⟨_, rfl, Nat.le_of_ble_eq_true rfl, rfl⟩) (fun _ _ _ h => by cases h; exact ⟨rfl, rfl⟩) rfl rfl dX3_copyFrom_101 (fun t84 H lc M85 X86 => ?_)
  have I87 := Inv_mu I79 M85 (show Rg (kd 30) 7 v81 from (R_of (lo := 0) (hi := 1023) r83 rfl))
  have F88 : Fr [(30, 4), (30, 5), (30, 6), (30, 7), (30, 8), (30, 9), (30, 10)] [31, 32, 33, 34] τ t84 := Fr_mu F80 M85 (by decide)
  refine r_aload_n S dX3_copyFrom_104 rfl (lv_at hl 0 rfl) ?_
  refine r_aload_n S dX3_copyFrom_105 rfl (lv_at hl 1 rfl) ?_
  refine r_getn (K := 23) S X86 (Nat.le_of_ble_eq_true rfl) rfl lk3_24_3 (fun _ => ⟨_, rfl, rfl⟩) dX3_copyFrom_106 (fun v89 z90 => ?_)
  have r91 : R (-1) (8) v89 := rd I87 rfl z90
  refine r_put (K := 23) (ty := .int) S X86 (Nat.le_of_ble_eq_true rfl) rfl lk3_24_3 (fun _ => ⟨_, rfl, Nat.le_of_ble_eq_true rfl, rfl⟩) (fun _ _ _ h => by cases h; exact ⟨rfl, rfl⟩) rfl rfl dX3_copyFrom_109 (fun t92 H lc M93 X94 => ?_)
  have I95 := Inv_mu I87 M93 (show Rg (kd 30) 8 v89 from (R_of (lo := -1) (hi := 8) r91 rfl))
  have F96 : Fr [(30, 4), (30, 5), (30, 6), (30, 7), (30, 8), (30, 9), (30, 10)] [31, 32, 33, 34] τ t92 := Fr_mu F88 M93 (by decide)
  refine r_aload_n S dX3_copyFrom_112 rfl (lv_at hl 0 rfl) ?_
  refine r_aload_n S dX3_copyFrom_113 rfl (lv_at hl 1 rfl) ?_
  refine r_getn (K := 23) S X94 (Nat.le_of_ble_eq_true rfl) rfl lk3_60_3 (fun _ => ⟨_, rfl, rfl⟩) dX3_copyFrom_114 (fun v97 z98 => ?_)
  have r100 := R_any v97
  refine r_put (K := 23) (ty := .int) S X94 (Nat.le_of_ble_eq_true rfl) rfl lk3_60_3 (fun _ => ⟨_, rfl, Nat.le_of_ble_eq_true rfl, rfl⟩) (fun _ _ _ h => by cases h; exact ⟨rfl, rfl⟩) rfl rfl dX3_copyFrom_117 (fun t101 H lc M102 X103 => ?_)
  have I104 := Inv_mu I95 M102 (R_any v97)
  have F105 : Fr [(30, 4), (30, 5), (30, 6), (30, 7), (30, 8), (30, 9), (30, 10)] [31, 32, 33, 34] τ t101 := Fr_mu F96 M102 (by decide)
  refine r_aload_n S dX3_copyFrom_120 rfl (lv_at hl 0 rfl) ?_
  refine r_aload_n S dX3_copyFrom_121 rfl (lv_at hl 1 rfl) ?_
  refine r_getn (K := 23) S X103 (Nat.le_of_ble_eq_true rfl) rfl lk3_63_3 (fun _ => ⟨_, rfl, rfl⟩) dX3_copyFrom_122 (fun v106 z107 => ?_)
  have r109 := R_any v106
  refine r_put (K := 23) (ty := .int) S X103 (Nat.le_of_ble_eq_true rfl) rfl lk3_63_3 (fun _ => ⟨_, rfl, Nat.le_of_ble_eq_true rfl, rfl⟩) (fun _ _ _ h => by cases h; exact ⟨rfl, rfl⟩) rfl rfl dX3_copyFrom_125 (fun t110 H lc M111 X112 => ?_)
  have I113 := Inv_mu I104 M111 (R_any v106)
  have F114 : Fr [(30, 4), (30, 5), (30, 6), (30, 7), (30, 8), (30, 9), (30, 10)] [31, 32, 33, 34] τ t110 := Fr_mu F105 M111 (by decide)
  exact r_vret S hr hlk X112 ⟨I113, F114, (((M111.2 30 8 (Or.inr (by decide))).trans ((M102.2 30 8 (Or.inr (by decide))).trans M93.1)).trans (((M85.2 72 8 (Or.inl (by decide))).trans ((M77.2 72 8 (Or.inl (by decide))).trans ((M69.2 72 8 (Or.inl (by decide))).trans ((M61.2 72 8 (Or.inl (by decide))).trans ((C54.1 72 (by decide) 8).trans ((C40.1 72 (by decide) 8).trans ((C26.1 72 (by decide) 8).trans ((C12.1 72 (by decide) 8).trans rfl)))))))).symm.trans z90).symm)⟩ dX3_copyFrom_128
def po_scopy_77_30 (τ : Tau)     (u : Tau) : Prop := Inv u ∧ Fr [(77, 4), (77, 5), (77, 6), (77, 7), (77, 8), (77, 9), (77, 10)] [78, 79, 80, 81] τ u ∧ u 77 8 = τ 30 8
set_option maxHeartbeats 4000000 in
set_option maxRecDepth 100000 in
theorem c_scopy_77_30 (l : Launch) (G : Gx) (τ : Tau) (hI : Inv τ) : Cv l G yX3_copyFrom cX3_copyFrom 2 1 60 [.ref (G.2.2.2.1 77), .ref (G.2.2.2.1 30)] τ (po_scopy_77_30 τ    ) := by
  unfold Cv
  refine C_of (own := RX3) (by decide) rfl (Nat.le_of_ble_eq_true rfl) ?_
  intro p e s m below meth c ls S hr hlk X hl
  have hl : lv_has ls 2 [(0, .ref (G.2.2.2.1 77)), (1, .ref (G.2.2.2.1 30))] := hl
  refine r_aload_n S dX3_copyFrom_0 rfl (lv_at hl 1 rfl) ?_
  refine r_get (K := 23) (v := .ref (G.2.2.2.1 31)) S X (Nat.le_of_ble_eq_true rfl) rfl lk3_9_3 (fun _ => ⟨_, rfl, rfl⟩) dX3_copyFrom_1 ?_
  refine r_iconst S dX3_copyFrom_4 (by decide) (fun v1 z2 => ?_)
  have r3 := R_eq z2
  refine r_aload_n S dX3_copyFrom_5 rfl (lv_at hl 0 rfl) ?_
  refine r_get (K := 23) (v := .ref (G.2.2.2.1 78)) S X (Nat.le_of_ble_eq_true rfl) rfl lk3_9_3 (fun _ => ⟨_, rfl, rfl⟩) dX3_copyFrom_6 ?_
  refine r_iconst S dX3_copyFrom_9 (by decide) (fun v4 z5 => ?_)
  have r6 := R_eq z5
  refine r_aload_n S dX3_copyFrom_10 rfl (lv_at hl 0 rfl) ?_
  refine r_get (K := 23) (v := .ref (G.2.2.2.1 78)) S X (Nat.le_of_ble_eq_true rfl) rfl lk3_9_3 (fun _ => ⟨_, rfl, rfl⟩) dX3_copyFrom_11 ?_
  refine r_alen (x := (0, .inl fun _ => 0)) (n := 90) (K := 24) (t0 := 0) S X (Nat.le_of_ble_eq_true rfl) rfl (fun _ => ⟨_, rfl⟩) rfl (by decide) dX3_copyFrom_14 (fun v7 z8 => ?_)
  have r9 := R_eq z8
  refine r_copy (K2 := 24) (n := 90) (K := 24) S X (Nat.le_of_ble_eq_true rfl) rfl (Nat.le_of_ble_eq_true rfl) rfl (fun _ _ _ => rfl) (fun _ _ _ => rfl) hl.1 kw13 kw10 kw11 kw12 (by omega) (by omega) (by omega) ⟨Nat.le_of_ble_eq_true rfl, by decide⟩ dX3_copyFrom_15 (fun t11 H lc C12 X10 => ?_)
  have I13 := Inv_cp (K := 24) (K2 := 24) hI C12 rfl rfl (fun _ _ h => h)
  have F14 : Fr [(77, 4), (77, 5), (77, 6), (77, 7), (77, 8), (77, 9), (77, 10)] [78, 79, 80, 81] τ t11 := Fr_cp Fr_rfl C12 (by decide)
  refine r_aload_n S dX3_copyFrom_18 rfl (lv_at hl 1 rfl) ?_
  refine r_get (K := 23) (v := .ref (G.2.2.2.1 32)) S X10 (Nat.le_of_ble_eq_true rfl) rfl lk3_15_3 (fun _ => ⟨_, rfl, rfl⟩) dX3_copyFrom_19 ?_
  refine r_iconst S dX3_copyFrom_22 (by decide) (fun v15 z16 => ?_)
  have r17 := R_eq z16
  refine r_aload_n S dX3_copyFrom_23 rfl (lv_at hl 0 rfl) ?_
  refine r_get (K := 23) (v := .ref (G.2.2.2.1 79)) S X10 (Nat.le_of_ble_eq_true rfl) rfl lk3_15_3 (fun _ => ⟨_, rfl, rfl⟩) dX3_copyFrom_24 ?_
  refine r_iconst S dX3_copyFrom_27 (by decide) (fun v18 z19 => ?_)
  have r20 := R_eq z19
  refine r_aload_n S dX3_copyFrom_28 rfl (lv_at hl 0 rfl) ?_
  refine r_get (K := 23) (v := .ref (G.2.2.2.1 79)) S X10 (Nat.le_of_ble_eq_true rfl) rfl lk3_15_3 (fun _ => ⟨_, rfl, rfl⟩) dX3_copyFrom_29 ?_
  refine r_alen (x := (0, .inl fun _ => 0)) (n := 90) (K := 25) (t0 := 0) S X10 (Nat.le_of_ble_eq_true rfl) rfl (fun _ => ⟨_, rfl⟩) rfl (by decide) dX3_copyFrom_32 (fun v21 z22 => ?_)
  have r23 := R_eq z22
  refine r_copy (K2 := 25) (n := 90) (K := 25) S X10 (Nat.le_of_ble_eq_true rfl) rfl (Nat.le_of_ble_eq_true rfl) rfl (fun _ _ _ => rfl) (fun _ _ _ => rfl) hl.1 kw13 kw10 kw11 kw12 (by omega) (by omega) (by omega) ⟨Nat.le_of_ble_eq_true rfl, by decide⟩ dX3_copyFrom_33 (fun t25 H lc C26 X24 => ?_)
  have I27 := Inv_cp (K := 25) (K2 := 25) I13 C26 rfl rfl (fun _ _ h => h)
  have F28 : Fr [(77, 4), (77, 5), (77, 6), (77, 7), (77, 8), (77, 9), (77, 10)] [78, 79, 80, 81] τ t25 := Fr_cp F14 C26 (by decide)
  refine r_aload_n S dX3_copyFrom_36 rfl (lv_at hl 1 rfl) ?_
  refine r_get (K := 23) (v := .ref (G.2.2.2.1 33)) S X24 (Nat.le_of_ble_eq_true rfl) rfl lk3_18_3 (fun _ => ⟨_, rfl, rfl⟩) dX3_copyFrom_37 ?_
  refine r_iconst S dX3_copyFrom_40 (by decide) (fun v29 z30 => ?_)
  have r31 := R_eq z30
  refine r_aload_n S dX3_copyFrom_41 rfl (lv_at hl 0 rfl) ?_
  refine r_get (K := 23) (v := .ref (G.2.2.2.1 80)) S X24 (Nat.le_of_ble_eq_true rfl) rfl lk3_18_3 (fun _ => ⟨_, rfl, rfl⟩) dX3_copyFrom_42 ?_
  refine r_iconst S dX3_copyFrom_45 (by decide) (fun v32 z33 => ?_)
  have r34 := R_eq z33
  refine r_aload_n S dX3_copyFrom_46 rfl (lv_at hl 0 rfl) ?_
  refine r_get (K := 23) (v := .ref (G.2.2.2.1 80)) S X24 (Nat.le_of_ble_eq_true rfl) rfl lk3_18_3 (fun _ => ⟨_, rfl, rfl⟩) dX3_copyFrom_47 ?_
  refine r_alen (x := (0, .inl fun _ => 0)) (n := 10) (K := 26) (t0 := 0) S X24 (Nat.le_of_ble_eq_true rfl) rfl (fun _ => ⟨_, rfl⟩) rfl (by decide) dX3_copyFrom_50 (fun v35 z36 => ?_)
  have r37 := R_eq z36
  refine r_copy (K2 := 26) (n := 10) (K := 26) S X24 (Nat.le_of_ble_eq_true rfl) rfl (Nat.le_of_ble_eq_true rfl) rfl (fun _ _ _ => rfl) (fun _ _ _ => rfl) hl.1 kw13 kw10 kw11 kw12 (by omega) (by omega) (by omega) ⟨Nat.le_of_ble_eq_true rfl, by decide⟩ dX3_copyFrom_51 (fun t39 H lc C40 X38 => ?_)
  have I41 := Inv_cp (K := 26) (K2 := 26) I27 C40 rfl rfl (fun _ _ h => h)
  have F42 : Fr [(77, 4), (77, 5), (77, 6), (77, 7), (77, 8), (77, 9), (77, 10)] [78, 79, 80, 81] τ t39 := Fr_cp F28 C40 (by decide)
  refine r_aload_n S dX3_copyFrom_54 rfl (lv_at hl 1 rfl) ?_
  refine r_get (K := 23) (v := .ref (G.2.2.2.1 34)) S X38 (Nat.le_of_ble_eq_true rfl) rfl lk3_21_3 (fun _ => ⟨_, rfl, rfl⟩) dX3_copyFrom_55 ?_
  refine r_iconst S dX3_copyFrom_58 (by decide) (fun v43 z44 => ?_)
  have r45 := R_eq z44
  refine r_aload_n S dX3_copyFrom_59 rfl (lv_at hl 0 rfl) ?_
  refine r_get (K := 23) (v := .ref (G.2.2.2.1 81)) S X38 (Nat.le_of_ble_eq_true rfl) rfl lk3_21_3 (fun _ => ⟨_, rfl, rfl⟩) dX3_copyFrom_60 ?_
  refine r_iconst S dX3_copyFrom_63 (by decide) (fun v46 z47 => ?_)
  have r48 := R_eq z47
  refine r_aload_n S dX3_copyFrom_64 rfl (lv_at hl 0 rfl) ?_
  refine r_get (K := 23) (v := .ref (G.2.2.2.1 81)) S X38 (Nat.le_of_ble_eq_true rfl) rfl lk3_21_3 (fun _ => ⟨_, rfl, rfl⟩) dX3_copyFrom_65 ?_
  refine r_alen (x := (0, .inl fun _ => 0)) (n := 10) (K := 27) (t0 := 0) S X38 (Nat.le_of_ble_eq_true rfl) rfl (fun _ => ⟨_, rfl⟩) rfl (by decide) dX3_copyFrom_68 (fun v49 z50 => ?_)
  have r51 := R_eq z50
  refine r_copy (K2 := 27) (n := 10) (K := 27) S X38 (Nat.le_of_ble_eq_true rfl) rfl (Nat.le_of_ble_eq_true rfl) rfl (fun _ _ _ => rfl) (fun _ _ _ => rfl) hl.1 kw13 kw10 kw11 kw12 (by omega) (by omega) (by omega) ⟨Nat.le_of_ble_eq_true rfl, by decide⟩ dX3_copyFrom_69 (fun t53 H lc C54 X52 => ?_)
  have I55 := Inv_cp (K := 27) (K2 := 27) I41 C54 rfl rfl (fun _ _ h => h)
  have F56 : Fr [(77, 4), (77, 5), (77, 6), (77, 7), (77, 8), (77, 9), (77, 10)] [78, 79, 80, 81] τ t53 := Fr_cp F42 C54 (by decide)
  refine r_aload_n S dX3_copyFrom_72 rfl (lv_at hl 0 rfl) ?_
  refine r_aload_n S dX3_copyFrom_73 rfl (lv_at hl 1 rfl) ?_
  refine r_getn (K := 23) S X52 (Nat.le_of_ble_eq_true rfl) rfl lk3_45_3 (fun _ => ⟨_, rfl, rfl⟩) dX3_copyFrom_74 (fun v57 z58 => ?_)
  have r59 : R (0) (1023) v57 := rd I55 rfl z58
  refine r_put (K := 23) (ty := .int) S X52 (Nat.le_of_ble_eq_true rfl) rfl lk3_45_3 (fun _ => ⟨_, rfl, Nat.le_of_ble_eq_true rfl, rfl⟩) (fun _ _ _ h => by cases h; exact ⟨rfl, rfl⟩) rfl rfl dX3_copyFrom_77 (fun t60 H lc M61 X62 => ?_)
  have I63 := Inv_mu I55 M61 (show Rg (kd 77) 4 v57 from (R_of (lo := 0) (hi := 1023) r59 rfl))
  have F64 : Fr [(77, 4), (77, 5), (77, 6), (77, 7), (77, 8), (77, 9), (77, 10)] [78, 79, 80, 81] τ t60 := Fr_mu F56 M61 (by decide)
  refine r_aload_n S dX3_copyFrom_80 rfl (lv_at hl 0 rfl) ?_
  refine r_aload_n S dX3_copyFrom_81 rfl (lv_at hl 1 rfl) ?_
  refine r_getn (K := 23) S X62 (Nat.le_of_ble_eq_true rfl) rfl lk3_48_3 (fun _ => ⟨_, rfl, rfl⟩) dX3_copyFrom_82 (fun v65 z66 => ?_)
  have r67 : R (0) (1) v65 := rd I63 rfl z66
  refine r_put (K := 23) (ty := .int) S X62 (Nat.le_of_ble_eq_true rfl) rfl lk3_48_3 (fun _ => ⟨_, rfl, Nat.le_of_ble_eq_true rfl, rfl⟩) (fun _ _ _ h => by cases h; exact ⟨rfl, rfl⟩) rfl rfl dX3_copyFrom_85 (fun t68 H lc M69 X70 => ?_)
  have I71 := Inv_mu I63 M69 (show Rg (kd 77) 5 v65 from (R_of (lo := 0) (hi := 1) r67 rfl))
  have F72 : Fr [(77, 4), (77, 5), (77, 6), (77, 7), (77, 8), (77, 9), (77, 10)] [78, 79, 80, 81] τ t68 := Fr_mu F64 M69 (by decide)
  refine r_aload_n S dX3_copyFrom_88 rfl (lv_at hl 0 rfl) ?_
  refine r_aload_n S dX3_copyFrom_89 rfl (lv_at hl 1 rfl) ?_
  refine r_getn (K := 23) S X70 (Nat.le_of_ble_eq_true rfl) rfl lk3_51_3 (fun _ => ⟨_, rfl, rfl⟩) dX3_copyFrom_90 (fun v73 z74 => ?_)
  have r75 : R (0) (1023) v73 := rd I71 rfl z74
  refine r_put (K := 23) (ty := .int) S X70 (Nat.le_of_ble_eq_true rfl) rfl lk3_51_3 (fun _ => ⟨_, rfl, Nat.le_of_ble_eq_true rfl, rfl⟩) (fun _ _ _ h => by cases h; exact ⟨rfl, rfl⟩) rfl rfl dX3_copyFrom_93 (fun t76 H lc M77 X78 => ?_)
  have I79 := Inv_mu I71 M77 (show Rg (kd 77) 6 v73 from (R_of (lo := 0) (hi := 1023) r75 rfl))
  have F80 : Fr [(77, 4), (77, 5), (77, 6), (77, 7), (77, 8), (77, 9), (77, 10)] [78, 79, 80, 81] τ t76 := Fr_mu F72 M77 (by decide)
  refine r_aload_n S dX3_copyFrom_96 rfl (lv_at hl 0 rfl) ?_
  refine r_aload_n S dX3_copyFrom_97 rfl (lv_at hl 1 rfl) ?_
  refine r_getn (K := 23) S X78 (Nat.le_of_ble_eq_true rfl) rfl lk3_54_3 (fun _ => ⟨_, rfl, rfl⟩) dX3_copyFrom_98 (fun v81 z82 => ?_)
  have r83 : R (0) (1023) v81 := rd I79 rfl z82
  refine r_put (K := 23) (ty := .int) S X78 (Nat.le_of_ble_eq_true rfl) rfl lk3_54_3 (fun _ => ⟨_, rfl, Nat.le_of_ble_eq_true rfl, rfl⟩) (fun _ _ _ h => by cases h; exact ⟨rfl, rfl⟩) rfl rfl dX3_copyFrom_101 (fun t84 H lc M85 X86 => ?_)
  have I87 := Inv_mu I79 M85 (show Rg (kd 77) 7 v81 from (R_of (lo := 0) (hi := 1023) r83 rfl))
  have F88 : Fr [(77, 4), (77, 5), (77, 6), (77, 7), (77, 8), (77, 9), (77, 10)] [78, 79, 80, 81] τ t84 := Fr_mu F80 M85 (by decide)
  refine r_aload_n S dX3_copyFrom_104 rfl (lv_at hl 0 rfl) ?_
  refine r_aload_n S dX3_copyFrom_105 rfl (lv_at hl 1 rfl) ?_
  refine r_getn (K := 23) S X86 (Nat.le_of_ble_eq_true rfl) rfl lk3_24_3 (fun _ => ⟨_, rfl, rfl⟩) dX3_copyFrom_106 (fun v89 z90 => ?_)
  have r91 : R (-1) (8) v89 := rd I87 rfl z90
  refine r_put (K := 23) (ty := .int) S X86 (Nat.le_of_ble_eq_true rfl) rfl lk3_24_3 (fun _ => ⟨_, rfl, Nat.le_of_ble_eq_true rfl, rfl⟩) (fun _ _ _ h => by cases h; exact ⟨rfl, rfl⟩) rfl rfl dX3_copyFrom_109 (fun t92 H lc M93 X94 => ?_)
  have I95 := Inv_mu I87 M93 (show Rg (kd 77) 8 v89 from (R_of (lo := -1) (hi := 8) r91 rfl))
  have F96 : Fr [(77, 4), (77, 5), (77, 6), (77, 7), (77, 8), (77, 9), (77, 10)] [78, 79, 80, 81] τ t92 := Fr_mu F88 M93 (by decide)
  refine r_aload_n S dX3_copyFrom_112 rfl (lv_at hl 0 rfl) ?_
  refine r_aload_n S dX3_copyFrom_113 rfl (lv_at hl 1 rfl) ?_
  refine r_getn (K := 23) S X94 (Nat.le_of_ble_eq_true rfl) rfl lk3_60_3 (fun _ => ⟨_, rfl, rfl⟩) dX3_copyFrom_114 (fun v97 z98 => ?_)
  have r100 := R_any v97
  refine r_put (K := 23) (ty := .int) S X94 (Nat.le_of_ble_eq_true rfl) rfl lk3_60_3 (fun _ => ⟨_, rfl, Nat.le_of_ble_eq_true rfl, rfl⟩) (fun _ _ _ h => by cases h; exact ⟨rfl, rfl⟩) rfl rfl dX3_copyFrom_117 (fun t101 H lc M102 X103 => ?_)
  have I104 := Inv_mu I95 M102 (R_any v97)
  have F105 : Fr [(77, 4), (77, 5), (77, 6), (77, 7), (77, 8), (77, 9), (77, 10)] [78, 79, 80, 81] τ t101 := Fr_mu F96 M102 (by decide)
  refine r_aload_n S dX3_copyFrom_120 rfl (lv_at hl 0 rfl) ?_
  refine r_aload_n S dX3_copyFrom_121 rfl (lv_at hl 1 rfl) ?_
  refine r_getn (K := 23) S X103 (Nat.le_of_ble_eq_true rfl) rfl lk3_63_3 (fun _ => ⟨_, rfl, rfl⟩) dX3_copyFrom_122 (fun v106 z107 => ?_)
  have r109 := R_any v106
  refine r_put (K := 23) (ty := .int) S X103 (Nat.le_of_ble_eq_true rfl) rfl lk3_63_3 (fun _ => ⟨_, rfl, Nat.le_of_ble_eq_true rfl, rfl⟩) (fun _ _ _ h => by cases h; exact ⟨rfl, rfl⟩) rfl rfl dX3_copyFrom_125 (fun t110 H lc M111 X112 => ?_)
  have I113 := Inv_mu I104 M111 (R_any v106)
  have F114 : Fr [(77, 4), (77, 5), (77, 6), (77, 7), (77, 8), (77, 9), (77, 10)] [78, 79, 80, 81] τ t110 := Fr_mu F105 M111 (by decide)
  exact r_vret S hr hlk X112 ⟨I113, F114, (((M111.2 77 8 (Or.inr (by decide))).trans ((M102.2 77 8 (Or.inr (by decide))).trans M93.1)).trans (((M85.2 30 8 (Or.inl (by decide))).trans ((M77.2 30 8 (Or.inl (by decide))).trans ((M69.2 30 8 (Or.inl (by decide))).trans ((M61.2 30 8 (Or.inl (by decide))).trans ((C54.1 30 (by decide) 8).trans ((C40.1 30 (by decide) 8).trans ((C26.1 30 (by decide) 8).trans ((C12.1 30 (by decide) 8).trans rfl)))))))).symm.trans z90).symm)⟩ dX3_copyFrom_128
def po_scopy_30_77 (τ : Tau)     (u : Tau) : Prop := Inv u ∧ Fr [(30, 4), (30, 5), (30, 6), (30, 7), (30, 8), (30, 9), (30, 10)] [31, 32, 33, 34] τ u ∧ u 30 8 = τ 77 8
set_option maxHeartbeats 4000000 in
set_option maxRecDepth 100000 in
theorem c_scopy_30_77 (l : Launch) (G : Gx) (τ : Tau) (hI : Inv τ) : Cv l G yX3_copyFrom cX3_copyFrom 2 1 60 [.ref (G.2.2.2.1 30), .ref (G.2.2.2.1 77)] τ (po_scopy_30_77 τ    ) := by
  unfold Cv
  refine C_of (own := RX3) (by decide) rfl (Nat.le_of_ble_eq_true rfl) ?_
  intro p e s m below meth c ls S hr hlk X hl
  have hl : lv_has ls 2 [(0, .ref (G.2.2.2.1 30)), (1, .ref (G.2.2.2.1 77))] := hl
  refine r_aload_n S dX3_copyFrom_0 rfl (lv_at hl 1 rfl) ?_
  refine r_get (K := 23) (v := .ref (G.2.2.2.1 78)) S X (Nat.le_of_ble_eq_true rfl) rfl lk3_9_3 (fun _ => ⟨_, rfl, rfl⟩) dX3_copyFrom_1 ?_
  refine r_iconst S dX3_copyFrom_4 (by decide) (fun v1 z2 => ?_)
  have r3 := R_eq z2
  refine r_aload_n S dX3_copyFrom_5 rfl (lv_at hl 0 rfl) ?_
  refine r_get (K := 23) (v := .ref (G.2.2.2.1 31)) S X (Nat.le_of_ble_eq_true rfl) rfl lk3_9_3 (fun _ => ⟨_, rfl, rfl⟩) dX3_copyFrom_6 ?_
  refine r_iconst S dX3_copyFrom_9 (by decide) (fun v4 z5 => ?_)
  have r6 := R_eq z5
  refine r_aload_n S dX3_copyFrom_10 rfl (lv_at hl 0 rfl) ?_
  refine r_get (K := 23) (v := .ref (G.2.2.2.1 31)) S X (Nat.le_of_ble_eq_true rfl) rfl lk3_9_3 (fun _ => ⟨_, rfl, rfl⟩) dX3_copyFrom_11 ?_
  refine r_alen (x := (0, .inl fun _ => 0)) (n := 90) (K := 24) (t0 := 0) S X (Nat.le_of_ble_eq_true rfl) rfl (fun _ => ⟨_, rfl⟩) rfl (by decide) dX3_copyFrom_14 (fun v7 z8 => ?_)
  have r9 := R_eq z8
  refine r_copy (K2 := 24) (n := 90) (K := 24) S X (Nat.le_of_ble_eq_true rfl) rfl (Nat.le_of_ble_eq_true rfl) rfl (fun _ _ _ => rfl) (fun _ _ _ => rfl) hl.1 kw13 kw10 kw11 kw12 (by omega) (by omega) (by omega) ⟨Nat.le_of_ble_eq_true rfl, by decide⟩ dX3_copyFrom_15 (fun t11 H lc C12 X10 => ?_)
  have I13 := Inv_cp (K := 24) (K2 := 24) hI C12 rfl rfl (fun _ _ h => h)
  have F14 : Fr [(30, 4), (30, 5), (30, 6), (30, 7), (30, 8), (30, 9), (30, 10)] [31, 32, 33, 34] τ t11 := Fr_cp Fr_rfl C12 (by decide)
  refine r_aload_n S dX3_copyFrom_18 rfl (lv_at hl 1 rfl) ?_
  refine r_get (K := 23) (v := .ref (G.2.2.2.1 79)) S X10 (Nat.le_of_ble_eq_true rfl) rfl lk3_15_3 (fun _ => ⟨_, rfl, rfl⟩) dX3_copyFrom_19 ?_
  refine r_iconst S dX3_copyFrom_22 (by decide) (fun v15 z16 => ?_)
  have r17 := R_eq z16
  refine r_aload_n S dX3_copyFrom_23 rfl (lv_at hl 0 rfl) ?_
  refine r_get (K := 23) (v := .ref (G.2.2.2.1 32)) S X10 (Nat.le_of_ble_eq_true rfl) rfl lk3_15_3 (fun _ => ⟨_, rfl, rfl⟩) dX3_copyFrom_24 ?_
  refine r_iconst S dX3_copyFrom_27 (by decide) (fun v18 z19 => ?_)
  have r20 := R_eq z19
  refine r_aload_n S dX3_copyFrom_28 rfl (lv_at hl 0 rfl) ?_
  refine r_get (K := 23) (v := .ref (G.2.2.2.1 32)) S X10 (Nat.le_of_ble_eq_true rfl) rfl lk3_15_3 (fun _ => ⟨_, rfl, rfl⟩) dX3_copyFrom_29 ?_
  refine r_alen (x := (0, .inl fun _ => 0)) (n := 90) (K := 25) (t0 := 0) S X10 (Nat.le_of_ble_eq_true rfl) rfl (fun _ => ⟨_, rfl⟩) rfl (by decide) dX3_copyFrom_32 (fun v21 z22 => ?_)
  have r23 := R_eq z22
  refine r_copy (K2 := 25) (n := 90) (K := 25) S X10 (Nat.le_of_ble_eq_true rfl) rfl (Nat.le_of_ble_eq_true rfl) rfl (fun _ _ _ => rfl) (fun _ _ _ => rfl) hl.1 kw13 kw10 kw11 kw12 (by omega) (by omega) (by omega) ⟨Nat.le_of_ble_eq_true rfl, by decide⟩ dX3_copyFrom_33 (fun t25 H lc C26 X24 => ?_)
  have I27 := Inv_cp (K := 25) (K2 := 25) I13 C26 rfl rfl (fun _ _ h => h)
  have F28 : Fr [(30, 4), (30, 5), (30, 6), (30, 7), (30, 8), (30, 9), (30, 10)] [31, 32, 33, 34] τ t25 := Fr_cp F14 C26 (by decide)
  refine r_aload_n S dX3_copyFrom_36 rfl (lv_at hl 1 rfl) ?_
  refine r_get (K := 23) (v := .ref (G.2.2.2.1 80)) S X24 (Nat.le_of_ble_eq_true rfl) rfl lk3_18_3 (fun _ => ⟨_, rfl, rfl⟩) dX3_copyFrom_37 ?_
  refine r_iconst S dX3_copyFrom_40 (by decide) (fun v29 z30 => ?_)
  have r31 := R_eq z30
  refine r_aload_n S dX3_copyFrom_41 rfl (lv_at hl 0 rfl) ?_
  refine r_get (K := 23) (v := .ref (G.2.2.2.1 33)) S X24 (Nat.le_of_ble_eq_true rfl) rfl lk3_18_3 (fun _ => ⟨_, rfl, rfl⟩) dX3_copyFrom_42 ?_
  refine r_iconst S dX3_copyFrom_45 (by decide) (fun v32 z33 => ?_)
  have r34 := R_eq z33
  refine r_aload_n S dX3_copyFrom_46 rfl (lv_at hl 0 rfl) ?_
  refine r_get (K := 23) (v := .ref (G.2.2.2.1 33)) S X24 (Nat.le_of_ble_eq_true rfl) rfl lk3_18_3 (fun _ => ⟨_, rfl, rfl⟩) dX3_copyFrom_47 ?_
  refine r_alen (x := (0, .inl fun _ => 0)) (n := 10) (K := 26) (t0 := 0) S X24 (Nat.le_of_ble_eq_true rfl) rfl (fun _ => ⟨_, rfl⟩) rfl (by decide) dX3_copyFrom_50 (fun v35 z36 => ?_)
  have r37 := R_eq z36
  refine r_copy (K2 := 26) (n := 10) (K := 26) S X24 (Nat.le_of_ble_eq_true rfl) rfl (Nat.le_of_ble_eq_true rfl) rfl (fun _ _ _ => rfl) (fun _ _ _ => rfl) hl.1 kw13 kw10 kw11 kw12 (by omega) (by omega) (by omega) ⟨Nat.le_of_ble_eq_true rfl, by decide⟩ dX3_copyFrom_51 (fun t39 H lc C40 X38 => ?_)
  have I41 := Inv_cp (K := 26) (K2 := 26) I27 C40 rfl rfl (fun _ _ h => h)
  have F42 : Fr [(30, 4), (30, 5), (30, 6), (30, 7), (30, 8), (30, 9), (30, 10)] [31, 32, 33, 34] τ t39 := Fr_cp F28 C40 (by decide)
  refine r_aload_n S dX3_copyFrom_54 rfl (lv_at hl 1 rfl) ?_
  refine r_get (K := 23) (v := .ref (G.2.2.2.1 81)) S X38 (Nat.le_of_ble_eq_true rfl) rfl lk3_21_3 (fun _ => ⟨_, rfl, rfl⟩) dX3_copyFrom_55 ?_
  refine r_iconst S dX3_copyFrom_58 (by decide) (fun v43 z44 => ?_)
  have r45 := R_eq z44
  refine r_aload_n S dX3_copyFrom_59 rfl (lv_at hl 0 rfl) ?_
  refine r_get (K := 23) (v := .ref (G.2.2.2.1 34)) S X38 (Nat.le_of_ble_eq_true rfl) rfl lk3_21_3 (fun _ => ⟨_, rfl, rfl⟩) dX3_copyFrom_60 ?_
  refine r_iconst S dX3_copyFrom_63 (by decide) (fun v46 z47 => ?_)
  have r48 := R_eq z47
  refine r_aload_n S dX3_copyFrom_64 rfl (lv_at hl 0 rfl) ?_
  refine r_get (K := 23) (v := .ref (G.2.2.2.1 34)) S X38 (Nat.le_of_ble_eq_true rfl) rfl lk3_21_3 (fun _ => ⟨_, rfl, rfl⟩) dX3_copyFrom_65 ?_
  refine r_alen (x := (0, .inl fun _ => 0)) (n := 10) (K := 27) (t0 := 0) S X38 (Nat.le_of_ble_eq_true rfl) rfl (fun _ => ⟨_, rfl⟩) rfl (by decide) dX3_copyFrom_68 (fun v49 z50 => ?_)
  have r51 := R_eq z50
  refine r_copy (K2 := 27) (n := 10) (K := 27) S X38 (Nat.le_of_ble_eq_true rfl) rfl (Nat.le_of_ble_eq_true rfl) rfl (fun _ _ _ => rfl) (fun _ _ _ => rfl) hl.1 kw13 kw10 kw11 kw12 (by omega) (by omega) (by omega) ⟨Nat.le_of_ble_eq_true rfl, by decide⟩ dX3_copyFrom_69 (fun t53 H lc C54 X52 => ?_)
  have I55 := Inv_cp (K := 27) (K2 := 27) I41 C54 rfl rfl (fun _ _ h => h)
  have F56 : Fr [(30, 4), (30, 5), (30, 6), (30, 7), (30, 8), (30, 9), (30, 10)] [31, 32, 33, 34] τ t53 := Fr_cp F42 C54 (by decide)
  refine r_aload_n S dX3_copyFrom_72 rfl (lv_at hl 0 rfl) ?_
  refine r_aload_n S dX3_copyFrom_73 rfl (lv_at hl 1 rfl) ?_
  refine r_getn (K := 23) S X52 (Nat.le_of_ble_eq_true rfl) rfl lk3_45_3 (fun _ => ⟨_, rfl, rfl⟩) dX3_copyFrom_74 (fun v57 z58 => ?_)
  have r59 : R (0) (1023) v57 := rd I55 rfl z58
  refine r_put (K := 23) (ty := .int) S X52 (Nat.le_of_ble_eq_true rfl) rfl lk3_45_3 (fun _ => ⟨_, rfl, Nat.le_of_ble_eq_true rfl, rfl⟩) (fun _ _ _ h => by cases h; exact ⟨rfl, rfl⟩) rfl rfl dX3_copyFrom_77 (fun t60 H lc M61 X62 => ?_)
  have I63 := Inv_mu I55 M61 (show Rg (kd 30) 4 v57 from (R_of (lo := 0) (hi := 1023) r59 rfl))
  have F64 : Fr [(30, 4), (30, 5), (30, 6), (30, 7), (30, 8), (30, 9), (30, 10)] [31, 32, 33, 34] τ t60 := Fr_mu F56 M61 (by decide)
  refine r_aload_n S dX3_copyFrom_80 rfl (lv_at hl 0 rfl) ?_
  refine r_aload_n S dX3_copyFrom_81 rfl (lv_at hl 1 rfl) ?_
  refine r_getn (K := 23) S X62 (Nat.le_of_ble_eq_true rfl) rfl lk3_48_3 (fun _ => ⟨_, rfl, rfl⟩) dX3_copyFrom_82 (fun v65 z66 => ?_)
  have r67 : R (0) (1) v65 := rd I63 rfl z66
  refine r_put (K := 23) (ty := .int) S X62 (Nat.le_of_ble_eq_true rfl) rfl lk3_48_3 (fun _ => ⟨_, rfl, Nat.le_of_ble_eq_true rfl, rfl⟩) (fun _ _ _ h => by cases h; exact ⟨rfl, rfl⟩) rfl rfl dX3_copyFrom_85 (fun t68 H lc M69 X70 => ?_)
  have I71 := Inv_mu I63 M69 (show Rg (kd 30) 5 v65 from (R_of (lo := 0) (hi := 1) r67 rfl))
  have F72 : Fr [(30, 4), (30, 5), (30, 6), (30, 7), (30, 8), (30, 9), (30, 10)] [31, 32, 33, 34] τ t68 := Fr_mu F64 M69 (by decide)
  refine r_aload_n S dX3_copyFrom_88 rfl (lv_at hl 0 rfl) ?_
  refine r_aload_n S dX3_copyFrom_89 rfl (lv_at hl 1 rfl) ?_
  refine r_getn (K := 23) S X70 (Nat.le_of_ble_eq_true rfl) rfl lk3_51_3 (fun _ => ⟨_, rfl, rfl⟩) dX3_copyFrom_90 (fun v73 z74 => ?_)
  have r75 : R (0) (1023) v73 := rd I71 rfl z74
  refine r_put (K := 23) (ty := .int) S X70 (Nat.le_of_ble_eq_true rfl) rfl lk3_51_3 (fun _ => ⟨_, rfl, Nat.le_of_ble_eq_true rfl, rfl⟩) (fun _ _ _ h => by cases h; exact ⟨rfl, rfl⟩) rfl rfl dX3_copyFrom_93 (fun t76 H lc M77 X78 => ?_)
  have I79 := Inv_mu I71 M77 (show Rg (kd 30) 6 v73 from (R_of (lo := 0) (hi := 1023) r75 rfl))
  have F80 : Fr [(30, 4), (30, 5), (30, 6), (30, 7), (30, 8), (30, 9), (30, 10)] [31, 32, 33, 34] τ t76 := Fr_mu F72 M77 (by decide)
  refine r_aload_n S dX3_copyFrom_96 rfl (lv_at hl 0 rfl) ?_
  refine r_aload_n S dX3_copyFrom_97 rfl (lv_at hl 1 rfl) ?_
  refine r_getn (K := 23) S X78 (Nat.le_of_ble_eq_true rfl) rfl lk3_54_3 (fun _ => ⟨_, rfl, rfl⟩) dX3_copyFrom_98 (fun v81 z82 => ?_)
  have r83 : R (0) (1023) v81 := rd I79 rfl z82
  refine r_put (K := 23) (ty := .int) S X78 (Nat.le_of_ble_eq_true rfl) rfl lk3_54_3 (fun _ => ⟨_, rfl, Nat.le_of_ble_eq_true rfl, rfl⟩) (fun _ _ _ h => by cases h; exact ⟨rfl, rfl⟩) rfl rfl dX3_copyFrom_101 (fun t84 H lc M85 X86 => ?_)
  have I87 := Inv_mu I79 M85 (show Rg (kd 30) 7 v81 from (R_of (lo := 0) (hi := 1023) r83 rfl))
  have F88 : Fr [(30, 4), (30, 5), (30, 6), (30, 7), (30, 8), (30, 9), (30, 10)] [31, 32, 33, 34] τ t84 := Fr_mu F80 M85 (by decide)
  refine r_aload_n S dX3_copyFrom_104 rfl (lv_at hl 0 rfl) ?_
  refine r_aload_n S dX3_copyFrom_105 rfl (lv_at hl 1 rfl) ?_
  refine r_getn (K := 23) S X86 (Nat.le_of_ble_eq_true rfl) rfl lk3_24_3 (fun _ => ⟨_, rfl, rfl⟩) dX3_copyFrom_106 (fun v89 z90 => ?_)
  have r91 : R (-1) (8) v89 := rd I87 rfl z90
  refine r_put (K := 23) (ty := .int) S X86 (Nat.le_of_ble_eq_true rfl) rfl lk3_24_3 (fun _ => ⟨_, rfl, Nat.le_of_ble_eq_true rfl, rfl⟩) (fun _ _ _ h => by cases h; exact ⟨rfl, rfl⟩) rfl rfl dX3_copyFrom_109 (fun t92 H lc M93 X94 => ?_)
  have I95 := Inv_mu I87 M93 (show Rg (kd 30) 8 v89 from (R_of (lo := -1) (hi := 8) r91 rfl))
  have F96 : Fr [(30, 4), (30, 5), (30, 6), (30, 7), (30, 8), (30, 9), (30, 10)] [31, 32, 33, 34] τ t92 := Fr_mu F88 M93 (by decide)
  refine r_aload_n S dX3_copyFrom_112 rfl (lv_at hl 0 rfl) ?_
  refine r_aload_n S dX3_copyFrom_113 rfl (lv_at hl 1 rfl) ?_
  refine r_getn (K := 23) S X94 (Nat.le_of_ble_eq_true rfl) rfl lk3_60_3 (fun _ => ⟨_, rfl, rfl⟩) dX3_copyFrom_114 (fun v97 z98 => ?_)
  have r100 := R_any v97
  refine r_put (K := 23) (ty := .int) S X94 (Nat.le_of_ble_eq_true rfl) rfl lk3_60_3 (fun _ => ⟨_, rfl, Nat.le_of_ble_eq_true rfl, rfl⟩) (fun _ _ _ h => by cases h; exact ⟨rfl, rfl⟩) rfl rfl dX3_copyFrom_117 (fun t101 H lc M102 X103 => ?_)
  have I104 := Inv_mu I95 M102 (R_any v97)
  have F105 : Fr [(30, 4), (30, 5), (30, 6), (30, 7), (30, 8), (30, 9), (30, 10)] [31, 32, 33, 34] τ t101 := Fr_mu F96 M102 (by decide)
  refine r_aload_n S dX3_copyFrom_120 rfl (lv_at hl 0 rfl) ?_
  refine r_aload_n S dX3_copyFrom_121 rfl (lv_at hl 1 rfl) ?_
  refine r_getn (K := 23) S X103 (Nat.le_of_ble_eq_true rfl) rfl lk3_63_3 (fun _ => ⟨_, rfl, rfl⟩) dX3_copyFrom_122 (fun v106 z107 => ?_)
  have r109 := R_any v106
  refine r_put (K := 23) (ty := .int) S X103 (Nat.le_of_ble_eq_true rfl) rfl lk3_63_3 (fun _ => ⟨_, rfl, Nat.le_of_ble_eq_true rfl, rfl⟩) (fun _ _ _ h => by cases h; exact ⟨rfl, rfl⟩) rfl rfl dX3_copyFrom_125 (fun t110 H lc M111 X112 => ?_)
  have I113 := Inv_mu I104 M111 (R_any v106)
  have F114 : Fr [(30, 4), (30, 5), (30, 6), (30, 7), (30, 8), (30, 9), (30, 10)] [31, 32, 33, 34] τ t110 := Fr_mu F105 M111 (by decide)
  exact r_vret S hr hlk X112 ⟨I113, F114, (((M111.2 30 8 (Or.inr (by decide))).trans ((M102.2 30 8 (Or.inr (by decide))).trans M93.1)).trans (((M85.2 77 8 (Or.inl (by decide))).trans ((M77.2 77 8 (Or.inl (by decide))).trans ((M69.2 77 8 (Or.inl (by decide))).trans ((M61.2 77 8 (Or.inl (by decide))).trans ((C54.1 77 (by decide) 8).trans ((C40.1 77 (by decide) 8).trans ((C26.1 77 (by decide) 8).trans ((C12.1 77 (by decide) 8).trans rfl)))))))).symm.trans z90).symm)⟩ dX3_copyFrom_128
def po_scopy_82_30 (τ : Tau)     (u : Tau) : Prop := Inv u ∧ Fr [(82, 4), (82, 5), (82, 6), (82, 7), (82, 8), (82, 9), (82, 10)] [83, 84, 85, 86] τ u ∧ u 82 8 = τ 30 8
set_option maxHeartbeats 4000000 in
set_option maxRecDepth 100000 in
theorem c_scopy_82_30 (l : Launch) (G : Gx) (τ : Tau) (hI : Inv τ) : Cv l G yX3_copyFrom cX3_copyFrom 2 1 60 [.ref (G.2.2.2.1 82), .ref (G.2.2.2.1 30)] τ (po_scopy_82_30 τ    ) := by
  unfold Cv
  refine C_of (own := RX3) (by decide) rfl (Nat.le_of_ble_eq_true rfl) ?_
  intro p e s m below meth c ls S hr hlk X hl
  have hl : lv_has ls 2 [(0, .ref (G.2.2.2.1 82)), (1, .ref (G.2.2.2.1 30))] := hl
  refine r_aload_n S dX3_copyFrom_0 rfl (lv_at hl 1 rfl) ?_
  refine r_get (K := 23) (v := .ref (G.2.2.2.1 31)) S X (Nat.le_of_ble_eq_true rfl) rfl lk3_9_3 (fun _ => ⟨_, rfl, rfl⟩) dX3_copyFrom_1 ?_
  refine r_iconst S dX3_copyFrom_4 (by decide) (fun v1 z2 => ?_)
  have r3 := R_eq z2
  refine r_aload_n S dX3_copyFrom_5 rfl (lv_at hl 0 rfl) ?_
  refine r_get (K := 23) (v := .ref (G.2.2.2.1 83)) S X (Nat.le_of_ble_eq_true rfl) rfl lk3_9_3 (fun _ => ⟨_, rfl, rfl⟩) dX3_copyFrom_6 ?_
  refine r_iconst S dX3_copyFrom_9 (by decide) (fun v4 z5 => ?_)
  have r6 := R_eq z5
  refine r_aload_n S dX3_copyFrom_10 rfl (lv_at hl 0 rfl) ?_
  refine r_get (K := 23) (v := .ref (G.2.2.2.1 83)) S X (Nat.le_of_ble_eq_true rfl) rfl lk3_9_3 (fun _ => ⟨_, rfl, rfl⟩) dX3_copyFrom_11 ?_
  refine r_alen (x := (0, .inl fun _ => 0)) (n := 90) (K := 24) (t0 := 0) S X (Nat.le_of_ble_eq_true rfl) rfl (fun _ => ⟨_, rfl⟩) rfl (by decide) dX3_copyFrom_14 (fun v7 z8 => ?_)
  have r9 := R_eq z8
  refine r_copy (K2 := 24) (n := 90) (K := 24) S X (Nat.le_of_ble_eq_true rfl) rfl (Nat.le_of_ble_eq_true rfl) rfl (fun _ _ _ => rfl) (fun _ _ _ => rfl) hl.1 kw13 kw10 kw11 kw12 (by omega) (by omega) (by omega) ⟨Nat.le_of_ble_eq_true rfl, by decide⟩ dX3_copyFrom_15 (fun t11 H lc C12 X10 => ?_)
  have I13 := Inv_cp (K := 24) (K2 := 24) hI C12 rfl rfl (fun _ _ h => h)
  have F14 : Fr [(82, 4), (82, 5), (82, 6), (82, 7), (82, 8), (82, 9), (82, 10)] [83, 84, 85, 86] τ t11 := Fr_cp Fr_rfl C12 (by decide)
  refine r_aload_n S dX3_copyFrom_18 rfl (lv_at hl 1 rfl) ?_
  refine r_get (K := 23) (v := .ref (G.2.2.2.1 32)) S X10 (Nat.le_of_ble_eq_true rfl) rfl lk3_15_3 (fun _ => ⟨_, rfl, rfl⟩) dX3_copyFrom_19 ?_
  refine r_iconst S dX3_copyFrom_22 (by decide) (fun v15 z16 => ?_)
  have r17 := R_eq z16
  refine r_aload_n S dX3_copyFrom_23 rfl (lv_at hl 0 rfl) ?_
  refine r_get (K := 23) (v := .ref (G.2.2.2.1 84)) S X10 (Nat.le_of_ble_eq_true rfl) rfl lk3_15_3 (fun _ => ⟨_, rfl, rfl⟩) dX3_copyFrom_24 ?_
  refine r_iconst S dX3_copyFrom_27 (by decide) (fun v18 z19 => ?_)
  have r20 := R_eq z19
  refine r_aload_n S dX3_copyFrom_28 rfl (lv_at hl 0 rfl) ?_
  refine r_get (K := 23) (v := .ref (G.2.2.2.1 84)) S X10 (Nat.le_of_ble_eq_true rfl) rfl lk3_15_3 (fun _ => ⟨_, rfl, rfl⟩) dX3_copyFrom_29 ?_
  refine r_alen (x := (0, .inl fun _ => 0)) (n := 90) (K := 25) (t0 := 0) S X10 (Nat.le_of_ble_eq_true rfl) rfl (fun _ => ⟨_, rfl⟩) rfl (by decide) dX3_copyFrom_32 (fun v21 z22 => ?_)
  have r23 := R_eq z22
  refine r_copy (K2 := 25) (n := 90) (K := 25) S X10 (Nat.le_of_ble_eq_true rfl) rfl (Nat.le_of_ble_eq_true rfl) rfl (fun _ _ _ => rfl) (fun _ _ _ => rfl) hl.1 kw13 kw10 kw11 kw12 (by omega) (by omega) (by omega) ⟨Nat.le_of_ble_eq_true rfl, by decide⟩ dX3_copyFrom_33 (fun t25 H lc C26 X24 => ?_)
  have I27 := Inv_cp (K := 25) (K2 := 25) I13 C26 rfl rfl (fun _ _ h => h)
  have F28 : Fr [(82, 4), (82, 5), (82, 6), (82, 7), (82, 8), (82, 9), (82, 10)] [83, 84, 85, 86] τ t25 := Fr_cp F14 C26 (by decide)
  refine r_aload_n S dX3_copyFrom_36 rfl (lv_at hl 1 rfl) ?_
  refine r_get (K := 23) (v := .ref (G.2.2.2.1 33)) S X24 (Nat.le_of_ble_eq_true rfl) rfl lk3_18_3 (fun _ => ⟨_, rfl, rfl⟩) dX3_copyFrom_37 ?_
  refine r_iconst S dX3_copyFrom_40 (by decide) (fun v29 z30 => ?_)
  have r31 := R_eq z30
  refine r_aload_n S dX3_copyFrom_41 rfl (lv_at hl 0 rfl) ?_
  refine r_get (K := 23) (v := .ref (G.2.2.2.1 85)) S X24 (Nat.le_of_ble_eq_true rfl) rfl lk3_18_3 (fun _ => ⟨_, rfl, rfl⟩) dX3_copyFrom_42 ?_
  refine r_iconst S dX3_copyFrom_45 (by decide) (fun v32 z33 => ?_)
  have r34 := R_eq z33
  refine r_aload_n S dX3_copyFrom_46 rfl (lv_at hl 0 rfl) ?_
  refine r_get (K := 23) (v := .ref (G.2.2.2.1 85)) S X24 (Nat.le_of_ble_eq_true rfl) rfl lk3_18_3 (fun _ => ⟨_, rfl, rfl⟩) dX3_copyFrom_47 ?_
  refine r_alen (x := (0, .inl fun _ => 0)) (n := 10) (K := 26) (t0 := 0) S X24 (Nat.le_of_ble_eq_true rfl) rfl (fun _ => ⟨_, rfl⟩) rfl (by decide) dX3_copyFrom_50 (fun v35 z36 => ?_)
  have r37 := R_eq z36
  refine r_copy (K2 := 26) (n := 10) (K := 26) S X24 (Nat.le_of_ble_eq_true rfl) rfl (Nat.le_of_ble_eq_true rfl) rfl (fun _ _ _ => rfl) (fun _ _ _ => rfl) hl.1 kw13 kw10 kw11 kw12 (by omega) (by omega) (by omega) ⟨Nat.le_of_ble_eq_true rfl, by decide⟩ dX3_copyFrom_51 (fun t39 H lc C40 X38 => ?_)
  have I41 := Inv_cp (K := 26) (K2 := 26) I27 C40 rfl rfl (fun _ _ h => h)
  have F42 : Fr [(82, 4), (82, 5), (82, 6), (82, 7), (82, 8), (82, 9), (82, 10)] [83, 84, 85, 86] τ t39 := Fr_cp F28 C40 (by decide)
  refine r_aload_n S dX3_copyFrom_54 rfl (lv_at hl 1 rfl) ?_
  refine r_get (K := 23) (v := .ref (G.2.2.2.1 34)) S X38 (Nat.le_of_ble_eq_true rfl) rfl lk3_21_3 (fun _ => ⟨_, rfl, rfl⟩) dX3_copyFrom_55 ?_
  refine r_iconst S dX3_copyFrom_58 (by decide) (fun v43 z44 => ?_)
  have r45 := R_eq z44
  refine r_aload_n S dX3_copyFrom_59 rfl (lv_at hl 0 rfl) ?_
  refine r_get (K := 23) (v := .ref (G.2.2.2.1 86)) S X38 (Nat.le_of_ble_eq_true rfl) rfl lk3_21_3 (fun _ => ⟨_, rfl, rfl⟩) dX3_copyFrom_60 ?_
  refine r_iconst S dX3_copyFrom_63 (by decide) (fun v46 z47 => ?_)
  have r48 := R_eq z47
  refine r_aload_n S dX3_copyFrom_64 rfl (lv_at hl 0 rfl) ?_
  refine r_get (K := 23) (v := .ref (G.2.2.2.1 86)) S X38 (Nat.le_of_ble_eq_true rfl) rfl lk3_21_3 (fun _ => ⟨_, rfl, rfl⟩) dX3_copyFrom_65 ?_
  refine r_alen (x := (0, .inl fun _ => 0)) (n := 10) (K := 27) (t0 := 0) S X38 (Nat.le_of_ble_eq_true rfl) rfl (fun _ => ⟨_, rfl⟩) rfl (by decide) dX3_copyFrom_68 (fun v49 z50 => ?_)
  have r51 := R_eq z50
  refine r_copy (K2 := 27) (n := 10) (K := 27) S X38 (Nat.le_of_ble_eq_true rfl) rfl (Nat.le_of_ble_eq_true rfl) rfl (fun _ _ _ => rfl) (fun _ _ _ => rfl) hl.1 kw13 kw10 kw11 kw12 (by omega) (by omega) (by omega) ⟨Nat.le_of_ble_eq_true rfl, by decide⟩ dX3_copyFrom_69 (fun t53 H lc C54 X52 => ?_)
  have I55 := Inv_cp (K := 27) (K2 := 27) I41 C54 rfl rfl (fun _ _ h => h)
  have F56 : Fr [(82, 4), (82, 5), (82, 6), (82, 7), (82, 8), (82, 9), (82, 10)] [83, 84, 85, 86] τ t53 := Fr_cp F42 C54 (by decide)
  refine r_aload_n S dX3_copyFrom_72 rfl (lv_at hl 0 rfl) ?_
  refine r_aload_n S dX3_copyFrom_73 rfl (lv_at hl 1 rfl) ?_
  refine r_getn (K := 23) S X52 (Nat.le_of_ble_eq_true rfl) rfl lk3_45_3 (fun _ => ⟨_, rfl, rfl⟩) dX3_copyFrom_74 (fun v57 z58 => ?_)
  have r59 : R (0) (1023) v57 := rd I55 rfl z58
  refine r_put (K := 23) (ty := .int) S X52 (Nat.le_of_ble_eq_true rfl) rfl lk3_45_3 (fun _ => ⟨_, rfl, Nat.le_of_ble_eq_true rfl, rfl⟩) (fun _ _ _ h => by cases h; exact ⟨rfl, rfl⟩) rfl rfl dX3_copyFrom_77 (fun t60 H lc M61 X62 => ?_)
  have I63 := Inv_mu I55 M61 (show Rg (kd 82) 4 v57 from (R_of (lo := 0) (hi := 1023) r59 rfl))
  have F64 : Fr [(82, 4), (82, 5), (82, 6), (82, 7), (82, 8), (82, 9), (82, 10)] [83, 84, 85, 86] τ t60 := Fr_mu F56 M61 (by decide)
  refine r_aload_n S dX3_copyFrom_80 rfl (lv_at hl 0 rfl) ?_
  refine r_aload_n S dX3_copyFrom_81 rfl (lv_at hl 1 rfl) ?_
  refine r_getn (K := 23) S X62 (Nat.le_of_ble_eq_true rfl) rfl lk3_48_3 (fun _ => ⟨_, rfl, rfl⟩) dX3_copyFrom_82 (fun v65 z66 => ?_)
  have r67 : R (0) (1) v65 := rd I63 rfl z66
  refine r_put (K := 23) (ty := .int) S X62 (Nat.le_of_ble_eq_true rfl) rfl lk3_48_3 (fun _ => ⟨_, rfl, Nat.le_of_ble_eq_true rfl, rfl⟩) (fun _ _ _ h => by cases h; exact ⟨rfl, rfl⟩) rfl rfl dX3_copyFrom_85 (fun t68 H lc M69 X70 => ?_)
  have I71 := Inv_mu I63 M69 (show Rg (kd 82) 5 v65 from (R_of (lo := 0) (hi := 1) r67 rfl))
  have F72 : Fr [(82, 4), (82, 5), (82, 6), (82, 7), (82, 8), (82, 9), (82, 10)] [83, 84, 85, 86] τ t68 := Fr_mu F64 M69 (by decide)
  refine r_aload_n S dX3_copyFrom_88 rfl (lv_at hl 0 rfl) ?_
  refine r_aload_n S dX3_copyFrom_89 rfl (lv_at hl 1 rfl) ?_
  refine r_getn (K := 23) S X70 (Nat.le_of_ble_eq_true rfl) rfl lk3_51_3 (fun _ => ⟨_, rfl, rfl⟩) dX3_copyFrom_90 (fun v73 z74 => ?_)
  have r75 : R (0) (1023) v73 := rd I71 rfl z74
  refine r_put (K := 23) (ty := .int) S X70 (Nat.le_of_ble_eq_true rfl) rfl lk3_51_3 (fun _ => ⟨_, rfl, Nat.le_of_ble_eq_true rfl, rfl⟩) (fun _ _ _ h => by cases h; exact ⟨rfl, rfl⟩) rfl rfl dX3_copyFrom_93 (fun t76 H lc M77 X78 => ?_)
  have I79 := Inv_mu I71 M77 (show Rg (kd 82) 6 v73 from (R_of (lo := 0) (hi := 1023) r75 rfl))
  have F80 : Fr [(82, 4), (82, 5), (82, 6), (82, 7), (82, 8), (82, 9), (82, 10)] [83, 84, 85, 86] τ t76 := Fr_mu F72 M77 (by decide)
  refine r_aload_n S dX3_copyFrom_96 rfl (lv_at hl 0 rfl) ?_
  refine r_aload_n S dX3_copyFrom_97 rfl (lv_at hl 1 rfl) ?_
  refine r_getn (K := 23) S X78 (Nat.le_of_ble_eq_true rfl) rfl lk3_54_3 (fun _ => ⟨_, rfl, rfl⟩) dX3_copyFrom_98 (fun v81 z82 => ?_)
  have r83 : R (0) (1023) v81 := rd I79 rfl z82
  refine r_put (K := 23) (ty := .int) S X78 (Nat.le_of_ble_eq_true rfl) rfl lk3_54_3 (fun _ => ⟨_, rfl, Nat.le_of_ble_eq_true rfl, rfl⟩) (fun _ _ _ h => by cases h; exact ⟨rfl, rfl⟩) rfl rfl dX3_copyFrom_101 (fun t84 H lc M85 X86 => ?_)
  have I87 := Inv_mu I79 M85 (show Rg (kd 82) 7 v81 from (R_of (lo := 0) (hi := 1023) r83 rfl))
  have F88 : Fr [(82, 4), (82, 5), (82, 6), (82, 7), (82, 8), (82, 9), (82, 10)] [83, 84, 85, 86] τ t84 := Fr_mu F80 M85 (by decide)
  refine r_aload_n S dX3_copyFrom_104 rfl (lv_at hl 0 rfl) ?_
  refine r_aload_n S dX3_copyFrom_105 rfl (lv_at hl 1 rfl) ?_
  refine r_getn (K := 23) S X86 (Nat.le_of_ble_eq_true rfl) rfl lk3_24_3 (fun _ => ⟨_, rfl, rfl⟩) dX3_copyFrom_106 (fun v89 z90 => ?_)
  have r91 : R (-1) (8) v89 := rd I87 rfl z90
  refine r_put (K := 23) (ty := .int) S X86 (Nat.le_of_ble_eq_true rfl) rfl lk3_24_3 (fun _ => ⟨_, rfl, Nat.le_of_ble_eq_true rfl, rfl⟩) (fun _ _ _ h => by cases h; exact ⟨rfl, rfl⟩) rfl rfl dX3_copyFrom_109 (fun t92 H lc M93 X94 => ?_)
  have I95 := Inv_mu I87 M93 (show Rg (kd 82) 8 v89 from (R_of (lo := -1) (hi := 8) r91 rfl))
  have F96 : Fr [(82, 4), (82, 5), (82, 6), (82, 7), (82, 8), (82, 9), (82, 10)] [83, 84, 85, 86] τ t92 := Fr_mu F88 M93 (by decide)
  refine r_aload_n S dX3_copyFrom_112 rfl (lv_at hl 0 rfl) ?_
  refine r_aload_n S dX3_copyFrom_113 rfl (lv_at hl 1 rfl) ?_
  refine r_getn (K := 23) S X94 (Nat.le_of_ble_eq_true rfl) rfl lk3_60_3 (fun _ => ⟨_, rfl, rfl⟩) dX3_copyFrom_114 (fun v97 z98 => ?_)
  have r100 := R_any v97
  refine r_put (K := 23) (ty := .int) S X94 (Nat.le_of_ble_eq_true rfl) rfl lk3_60_3 (fun _ => ⟨_, rfl, Nat.le_of_ble_eq_true rfl, rfl⟩) (fun _ _ _ h => by cases h; exact ⟨rfl, rfl⟩) rfl rfl dX3_copyFrom_117 (fun t101 H lc M102 X103 => ?_)
  have I104 := Inv_mu I95 M102 (R_any v97)
  have F105 : Fr [(82, 4), (82, 5), (82, 6), (82, 7), (82, 8), (82, 9), (82, 10)] [83, 84, 85, 86] τ t101 := Fr_mu F96 M102 (by decide)
  refine r_aload_n S dX3_copyFrom_120 rfl (lv_at hl 0 rfl) ?_
  refine r_aload_n S dX3_copyFrom_121 rfl (lv_at hl 1 rfl) ?_
  refine r_getn (K := 23) S X103 (Nat.le_of_ble_eq_true rfl) rfl lk3_63_3 (fun _ => ⟨_, rfl, rfl⟩) dX3_copyFrom_122 (fun v106 z107 => ?_)
  have r109 := R_any v106
  refine r_put (K := 23) (ty := .int) S X103 (Nat.le_of_ble_eq_true rfl) rfl lk3_63_3 (fun _ => ⟨_, rfl, Nat.le_of_ble_eq_true rfl, rfl⟩) (fun _ _ _ h => by cases h; exact ⟨rfl, rfl⟩) rfl rfl dX3_copyFrom_125 (fun t110 H lc M111 X112 => ?_)
  have I113 := Inv_mu I104 M111 (R_any v106)
  have F114 : Fr [(82, 4), (82, 5), (82, 6), (82, 7), (82, 8), (82, 9), (82, 10)] [83, 84, 85, 86] τ t110 := Fr_mu F105 M111 (by decide)
  exact r_vret S hr hlk X112 ⟨I113, F114, (((M111.2 82 8 (Or.inr (by decide))).trans ((M102.2 82 8 (Or.inr (by decide))).trans M93.1)).trans (((M85.2 30 8 (Or.inl (by decide))).trans ((M77.2 30 8 (Or.inl (by decide))).trans ((M69.2 30 8 (Or.inl (by decide))).trans ((M61.2 30 8 (Or.inl (by decide))).trans ((C54.1 30 (by decide) 8).trans ((C40.1 30 (by decide) 8).trans ((C26.1 30 (by decide) 8).trans ((C12.1 30 (by decide) 8).trans rfl)))))))).symm.trans z90).symm)⟩ dX3_copyFrom_128
def po_scopy_30_82 (τ : Tau)     (u : Tau) : Prop := Inv u ∧ Fr [(30, 4), (30, 5), (30, 6), (30, 7), (30, 8), (30, 9), (30, 10)] [31, 32, 33, 34] τ u ∧ u 30 8 = τ 82 8
set_option maxHeartbeats 4000000 in
set_option maxRecDepth 100000 in
theorem c_scopy_30_82 (l : Launch) (G : Gx) (τ : Tau) (hI : Inv τ) : Cv l G yX3_copyFrom cX3_copyFrom 2 1 60 [.ref (G.2.2.2.1 30), .ref (G.2.2.2.1 82)] τ (po_scopy_30_82 τ    ) := by
  unfold Cv
  refine C_of (own := RX3) (by decide) rfl (Nat.le_of_ble_eq_true rfl) ?_
  intro p e s m below meth c ls S hr hlk X hl
  have hl : lv_has ls 2 [(0, .ref (G.2.2.2.1 30)), (1, .ref (G.2.2.2.1 82))] := hl
  refine r_aload_n S dX3_copyFrom_0 rfl (lv_at hl 1 rfl) ?_
  refine r_get (K := 23) (v := .ref (G.2.2.2.1 83)) S X (Nat.le_of_ble_eq_true rfl) rfl lk3_9_3 (fun _ => ⟨_, rfl, rfl⟩) dX3_copyFrom_1 ?_
  refine r_iconst S dX3_copyFrom_4 (by decide) (fun v1 z2 => ?_)
  have r3 := R_eq z2
  refine r_aload_n S dX3_copyFrom_5 rfl (lv_at hl 0 rfl) ?_
  refine r_get (K := 23) (v := .ref (G.2.2.2.1 31)) S X (Nat.le_of_ble_eq_true rfl) rfl lk3_9_3 (fun _ => ⟨_, rfl, rfl⟩) dX3_copyFrom_6 ?_
  refine r_iconst S dX3_copyFrom_9 (by decide) (fun v4 z5 => ?_)
  have r6 := R_eq z5
  refine r_aload_n S dX3_copyFrom_10 rfl (lv_at hl 0 rfl) ?_
  refine r_get (K := 23) (v := .ref (G.2.2.2.1 31)) S X (Nat.le_of_ble_eq_true rfl) rfl lk3_9_3 (fun _ => ⟨_, rfl, rfl⟩) dX3_copyFrom_11 ?_
  refine r_alen (x := (0, .inl fun _ => 0)) (n := 90) (K := 24) (t0 := 0) S X (Nat.le_of_ble_eq_true rfl) rfl (fun _ => ⟨_, rfl⟩) rfl (by decide) dX3_copyFrom_14 (fun v7 z8 => ?_)
  have r9 := R_eq z8
  refine r_copy (K2 := 24) (n := 90) (K := 24) S X (Nat.le_of_ble_eq_true rfl) rfl (Nat.le_of_ble_eq_true rfl) rfl (fun _ _ _ => rfl) (fun _ _ _ => rfl) hl.1 kw13 kw10 kw11 kw12 (by omega) (by omega) (by omega) ⟨Nat.le_of_ble_eq_true rfl, by decide⟩ dX3_copyFrom_15 (fun t11 H lc C12 X10 => ?_)
  have I13 := Inv_cp (K := 24) (K2 := 24) hI C12 rfl rfl (fun _ _ h => h)
  have F14 : Fr [(30, 4), (30, 5), (30, 6), (30, 7), (30, 8), (30, 9), (30, 10)] [31, 32, 33, 34] τ t11 := Fr_cp Fr_rfl C12 (by decide)
  refine r_aload_n S dX3_copyFrom_18 rfl (lv_at hl 1 rfl) ?_
  refine r_get (K := 23) (v := .ref (G.2.2.2.1 84)) S X10 (Nat.le_of_ble_eq_true rfl) rfl lk3_15_3 (fun _ => ⟨_, rfl, rfl⟩) dX3_copyFrom_19 ?_
  refine r_iconst S dX3_copyFrom_22 (by decide) (fun v15 z16 => ?_)
  have r17 := R_eq z16
  refine r_aload_n S dX3_copyFrom_23 rfl (lv_at hl 0 rfl) ?_
  refine r_get (K := 23) (v := .ref (G.2.2.2.1 32)) S X10 (Nat.le_of_ble_eq_true rfl) rfl lk3_15_3 (fun _ => ⟨_, rfl, rfl⟩) dX3_copyFrom_24 ?_
  refine r_iconst S dX3_copyFrom_27 (by decide) (fun v18 z19 => ?_)
  have r20 := R_eq z19
  refine r_aload_n S dX3_copyFrom_28 rfl (lv_at hl 0 rfl) ?_
  refine r_get (K := 23) (v := .ref (G.2.2.2.1 32)) S X10 (Nat.le_of_ble_eq_true rfl) rfl lk3_15_3 (fun _ => ⟨_, rfl, rfl⟩) dX3_copyFrom_29 ?_
  refine r_alen (x := (0, .inl fun _ => 0)) (n := 90) (K := 25) (t0 := 0) S X10 (Nat.le_of_ble_eq_true rfl) rfl (fun _ => ⟨_, rfl⟩) rfl (by decide) dX3_copyFrom_32 (fun v21 z22 => ?_)
  have r23 := R_eq z22
  refine r_copy (K2 := 25) (n := 90) (K := 25) S X10 (Nat.le_of_ble_eq_true rfl) rfl (Nat.le_of_ble_eq_true rfl) rfl (fun _ _ _ => rfl) (fun _ _ _ => rfl) hl.1 kw13 kw10 kw11 kw12 (by omega) (by omega) (by omega) ⟨Nat.le_of_ble_eq_true rfl, by decide⟩ dX3_copyFrom_33 (fun t25 H lc C26 X24 => ?_)
  have I27 := Inv_cp (K := 25) (K2 := 25) I13 C26 rfl rfl (fun _ _ h => h)
  have F28 : Fr [(30, 4), (30, 5), (30, 6), (30, 7), (30, 8), (30, 9), (30, 10)] [31, 32, 33, 34] τ t25 := Fr_cp F14 C26 (by decide)
  refine r_aload_n S dX3_copyFrom_36 rfl (lv_at hl 1 rfl) ?_
  refine r_get (K := 23) (v := .ref (G.2.2.2.1 85)) S X24 (Nat.le_of_ble_eq_true rfl) rfl lk3_18_3 (fun _ => ⟨_, rfl, rfl⟩) dX3_copyFrom_37 ?_
  refine r_iconst S dX3_copyFrom_40 (by decide) (fun v29 z30 => ?_)
  have r31 := R_eq z30
  refine r_aload_n S dX3_copyFrom_41 rfl (lv_at hl 0 rfl) ?_
  refine r_get (K := 23) (v := .ref (G.2.2.2.1 33)) S X24 (Nat.le_of_ble_eq_true rfl) rfl lk3_18_3 (fun _ => ⟨_, rfl, rfl⟩) dX3_copyFrom_42 ?_
  refine r_iconst S dX3_copyFrom_45 (by decide) (fun v32 z33 => ?_)
  have r34 := R_eq z33
  refine r_aload_n S dX3_copyFrom_46 rfl (lv_at hl 0 rfl) ?_
  refine r_get (K := 23) (v := .ref (G.2.2.2.1 33)) S X24 (Nat.le_of_ble_eq_true rfl) rfl lk3_18_3 (fun _ => ⟨_, rfl, rfl⟩) dX3_copyFrom_47 ?_
  refine r_alen (x := (0, .inl fun _ => 0)) (n := 10) (K := 26) (t0 := 0) S X24 (Nat.le_of_ble_eq_true rfl) rfl (fun _ => ⟨_, rfl⟩) rfl (by decide) dX3_copyFrom_50 (fun v35 z36 => ?_)
  have r37 := R_eq z36
  refine r_copy (K2 := 26) (n := 10) (K := 26) S X24 (Nat.le_of_ble_eq_true rfl) rfl (Nat.le_of_ble_eq_true rfl) rfl (fun _ _ _ => rfl) (fun _ _ _ => rfl) hl.1 kw13 kw10 kw11 kw12 (by omega) (by omega) (by omega) ⟨Nat.le_of_ble_eq_true rfl, by decide⟩ dX3_copyFrom_51 (fun t39 H lc C40 X38 => ?_)
  have I41 := Inv_cp (K := 26) (K2 := 26) I27 C40 rfl rfl (fun _ _ h => h)
  have F42 : Fr [(30, 4), (30, 5), (30, 6), (30, 7), (30, 8), (30, 9), (30, 10)] [31, 32, 33, 34] τ t39 := Fr_cp F28 C40 (by decide)
  refine r_aload_n S dX3_copyFrom_54 rfl (lv_at hl 1 rfl) ?_
  refine r_get (K := 23) (v := .ref (G.2.2.2.1 86)) S X38 (Nat.le_of_ble_eq_true rfl) rfl lk3_21_3 (fun _ => ⟨_, rfl, rfl⟩) dX3_copyFrom_55 ?_
  refine r_iconst S dX3_copyFrom_58 (by decide) (fun v43 z44 => ?_)
  have r45 := R_eq z44
  refine r_aload_n S dX3_copyFrom_59 rfl (lv_at hl 0 rfl) ?_
  refine r_get (K := 23) (v := .ref (G.2.2.2.1 34)) S X38 (Nat.le_of_ble_eq_true rfl) rfl lk3_21_3 (fun _ => ⟨_, rfl, rfl⟩) dX3_copyFrom_60 ?_
  refine r_iconst S dX3_copyFrom_63 (by decide) (fun v46 z47 => ?_)
  have r48 := R_eq z47
  refine r_aload_n S dX3_copyFrom_64 rfl (lv_at hl 0 rfl) ?_
  refine r_get (K := 23) (v := .ref (G.2.2.2.1 34)) S X38 (Nat.le_of_ble_eq_true rfl) rfl lk3_21_3 (fun _ => ⟨_, rfl, rfl⟩) dX3_copyFrom_65 ?_
  refine r_alen (x := (0, .inl fun _ => 0)) (n := 10) (K := 27) (t0 := 0) S X38 (Nat.le_of_ble_eq_true rfl) rfl (fun _ => ⟨_, rfl⟩) rfl (by decide) dX3_copyFrom_68 (fun v49 z50 => ?_)
  have r51 := R_eq z50
  refine r_copy (K2 := 27) (n := 10) (K := 27) S X38 (Nat.le_of_ble_eq_true rfl) rfl (Nat.le_of_ble_eq_true rfl) rfl (fun _ _ _ => rfl) (fun _ _ _ => rfl) hl.1 kw13 kw10 kw11 kw12 (by omega) (by omega) (by omega) ⟨Nat.le_of_ble_eq_true rfl, by decide⟩ dX3_copyFrom_69 (fun t53 H lc C54 X52 => ?_)
  have I55 := Inv_cp (K := 27) (K2 := 27) I41 C54 rfl rfl (fun _ _ h => h)
  have F56 : Fr [(30, 4), (30, 5), (30, 6), (30, 7), (30, 8), (30, 9), (30, 10)] [31, 32, 33, 34] τ t53 := Fr_cp F42 C54 (by decide)
  refine r_aload_n S dX3_copyFrom_72 rfl (lv_at hl 0 rfl) ?_
  refine r_aload_n S dX3_copyFrom_73 rfl (lv_at hl 1 rfl) ?_
  refine r_getn (K := 23) S X52 (Nat.le_of_ble_eq_true rfl) rfl lk3_45_3 (fun _ => ⟨_, rfl, rfl⟩) dX3_copyFrom_74 (fun v57 z58 => ?_)
  have r59 : R (0) (1023) v57 := rd I55 rfl z58
  refine r_put (K := 23) (ty := .int) S X52 (Nat.le_of_ble_eq_true rfl) rfl lk3_45_3 (fun _ => ⟨_, rfl, Nat.le_of_ble_eq_true rfl, rfl⟩) (fun _ _ _ h => by cases h; exact ⟨rfl, rfl⟩) rfl rfl dX3_copyFrom_77 (fun t60 H lc M61 X62 => ?_)
  have I63 := Inv_mu I55 M61 (show Rg (kd 30) 4 v57 from (R_of (lo := 0) (hi := 1023) r59 rfl))
  have F64 : Fr [(30, 4), (30, 5), (30, 6), (30, 7), (30, 8), (30, 9), (30, 10)] [31, 32, 33, 34] τ t60 := Fr_mu F56 M61 (by decide)
  refine r_aload_n S dX3_copyFrom_80 rfl (lv_at hl 0 rfl) ?_
  refine r_aload_n S dX3_copyFrom_81 rfl (lv_at hl 1 rfl) ?_
  refine r_getn (K := 23) S X62 (Nat.le_of_ble_eq_true rfl) rfl lk3_48_3 (fun _ => ⟨_, rfl, rfl⟩) dX3_copyFrom_82 (fun v65 z66 => ?_)
  have r67 : R (0) (1) v65 := rd I63 rfl z66
  refine r_put (K := 23) (ty := .int) S X62 (Nat.le_of_ble_eq_true rfl) rfl lk3_48_3 (fun _ => ⟨_, rfl, Nat.le_of_ble_eq_true rfl, rfl⟩) (fun _ _ _ h => by cases h; exact ⟨rfl, rfl⟩) rfl rfl dX3_copyFrom_85 (fun t68 H lc M69 X70 => ?_)
  have I71 := Inv_mu I63 M69 (show Rg (kd 30) 5 v65 from (R_of (lo := 0) (hi := 1) r67 rfl))
  have F72 : Fr [(30, 4), (30, 5), (30, 6), (30, 7), (30, 8), (30, 9), (30, 10)] [31, 32, 33, 34] τ t68 := Fr_mu F64 M69 (by decide)
  refine r_aload_n S dX3_copyFrom_88 rfl (lv_at hl 0 rfl) ?_
  refine r_aload_n S dX3_copyFrom_89 rfl (lv_at hl 1 rfl) ?_
  refine r_getn (K := 23) S X70 (Nat.le_of_ble_eq_true rfl) rfl lk3_51_3 (fun _ => ⟨_, rfl, rfl⟩) dX3_copyFrom_90 (fun v73 z74 => ?_)
  have r75 : R (0) (1023) v73 := rd I71 rfl z74
  refine r_put (K := 23) (ty := .int) S X70 (Nat.le_of_ble_eq_true rfl) rfl lk3_51_3 (fun _ => ⟨_, rfl, Nat.le_of_ble_eq_true rfl, rfl⟩) (fun _ _ _ h => by cases h; exact ⟨rfl, rfl⟩) rfl rfl dX3_copyFrom_93 (fun t76 H lc M77 X78 => ?_)
  have I79 := Inv_mu I71 M77 (show Rg (kd 30) 6 v73 from (R_of (lo := 0) (hi := 1023) r75 rfl))
  have F80 : Fr [(30, 4), (30, 5), (30, 6), (30, 7), (30, 8), (30, 9), (30, 10)] [31, 32, 33, 34] τ t76 := Fr_mu F72 M77 (by decide)
  refine r_aload_n S dX3_copyFrom_96 rfl (lv_at hl 0 rfl) ?_
  refine r_aload_n S dX3_copyFrom_97 rfl (lv_at hl 1 rfl) ?_
  refine r_getn (K := 23) S X78 (Nat.le_of_ble_eq_true rfl) rfl lk3_54_3 (fun _ => ⟨_, rfl, rfl⟩) dX3_copyFrom_98 (fun v81 z82 => ?_)
  have r83 : R (0) (1023) v81 := rd I79 rfl z82
  refine r_put (K := 23) (ty := .int) S X78 (Nat.le_of_ble_eq_true rfl) rfl lk3_54_3 (fun _ => ⟨_, rfl, Nat.le_of_ble_eq_true rfl, rfl⟩) (fun _ _ _ h => by cases h; exact ⟨rfl, rfl⟩) rfl rfl dX3_copyFrom_101 (fun t84 H lc M85 X86 => ?_)
  have I87 := Inv_mu I79 M85 (show Rg (kd 30) 7 v81 from (R_of (lo := 0) (hi := 1023) r83 rfl))
  have F88 : Fr [(30, 4), (30, 5), (30, 6), (30, 7), (30, 8), (30, 9), (30, 10)] [31, 32, 33, 34] τ t84 := Fr_mu F80 M85 (by decide)
  refine r_aload_n S dX3_copyFrom_104 rfl (lv_at hl 0 rfl) ?_
  refine r_aload_n S dX3_copyFrom_105 rfl (lv_at hl 1 rfl) ?_
  refine r_getn (K := 23) S X86 (Nat.le_of_ble_eq_true rfl) rfl lk3_24_3 (fun _ => ⟨_, rfl, rfl⟩) dX3_copyFrom_106 (fun v89 z90 => ?_)
  have r91 : R (-1) (8) v89 := rd I87 rfl z90
  refine r_put (K := 23) (ty := .int) S X86 (Nat.le_of_ble_eq_true rfl) rfl lk3_24_3 (fun _ => ⟨_, rfl, Nat.le_of_ble_eq_true rfl, rfl⟩) (fun _ _ _ h => by cases h; exact ⟨rfl, rfl⟩) rfl rfl dX3_copyFrom_109 (fun t92 H lc M93 X94 => ?_)
  have I95 := Inv_mu I87 M93 (show Rg (kd 30) 8 v89 from (R_of (lo := -1) (hi := 8) r91 rfl))
  have F96 : Fr [(30, 4), (30, 5), (30, 6), (30, 7), (30, 8), (30, 9), (30, 10)] [31, 32, 33, 34] τ t92 := Fr_mu F88 M93 (by decide)
  refine r_aload_n S dX3_copyFrom_112 rfl (lv_at hl 0 rfl) ?_
  refine r_aload_n S dX3_copyFrom_113 rfl (lv_at hl 1 rfl) ?_
  refine r_getn (K := 23) S X94 (Nat.le_of_ble_eq_true rfl) rfl lk3_60_3 (fun _ => ⟨_, rfl, rfl⟩) dX3_copyFrom_114 (fun v97 z98 => ?_)
  have r100 := R_any v97
  refine r_put (K := 23) (ty := .int) S X94 (Nat.le_of_ble_eq_true rfl) rfl lk3_60_3 (fun _ => ⟨_, rfl, Nat.le_of_ble_eq_true rfl, rfl⟩) (fun _ _ _ h => by cases h; exact ⟨rfl, rfl⟩) rfl rfl dX3_copyFrom_117 (fun t101 H lc M102 X103 => ?_)
  have I104 := Inv_mu I95 M102 (R_any v97)
  have F105 : Fr [(30, 4), (30, 5), (30, 6), (30, 7), (30, 8), (30, 9), (30, 10)] [31, 32, 33, 34] τ t101 := Fr_mu F96 M102 (by decide)
  refine r_aload_n S dX3_copyFrom_120 rfl (lv_at hl 0 rfl) ?_
  refine r_aload_n S dX3_copyFrom_121 rfl (lv_at hl 1 rfl) ?_
  refine r_getn (K := 23) S X103 (Nat.le_of_ble_eq_true rfl) rfl lk3_63_3 (fun _ => ⟨_, rfl, rfl⟩) dX3_copyFrom_122 (fun v106 z107 => ?_)
  have r109 := R_any v106
  refine r_put (K := 23) (ty := .int) S X103 (Nat.le_of_ble_eq_true rfl) rfl lk3_63_3 (fun _ => ⟨_, rfl, Nat.le_of_ble_eq_true rfl, rfl⟩) (fun _ _ _ h => by cases h; exact ⟨rfl, rfl⟩) rfl rfl dX3_copyFrom_125 (fun t110 H lc M111 X112 => ?_)
  have I113 := Inv_mu I104 M111 (R_any v106)
  have F114 : Fr [(30, 4), (30, 5), (30, 6), (30, 7), (30, 8), (30, 9), (30, 10)] [31, 32, 33, 34] τ t110 := Fr_mu F105 M111 (by decide)
  exact r_vret S hr hlk X112 ⟨I113, F114, (((M111.2 30 8 (Or.inr (by decide))).trans ((M102.2 30 8 (Or.inr (by decide))).trans M93.1)).trans (((M85.2 82 8 (Or.inl (by decide))).trans ((M77.2 82 8 (Or.inl (by decide))).trans ((M69.2 82 8 (Or.inl (by decide))).trans ((M61.2 82 8 (Or.inl (by decide))).trans ((C54.1 82 (by decide) 8).trans ((C40.1 82 (by decide) 8).trans ((C26.1 82 (by decide) 8).trans ((C12.1 82 (by decide) 8).trans rfl)))))))).symm.trans z90).symm)⟩ dX3_copyFrom_128
def po_scopy_87_30 (τ : Tau)     (u : Tau) : Prop := Inv u ∧ Fr [(87, 4), (87, 5), (87, 6), (87, 7), (87, 8), (87, 9), (87, 10)] [88, 89, 90, 91] τ u ∧ u 87 8 = τ 30 8
set_option maxHeartbeats 4000000 in
set_option maxRecDepth 100000 in
theorem c_scopy_87_30 (l : Launch) (G : Gx) (τ : Tau) (hI : Inv τ) : Cv l G yX3_copyFrom cX3_copyFrom 2 1 60 [.ref (G.2.2.2.1 87), .ref (G.2.2.2.1 30)] τ (po_scopy_87_30 τ    ) := by
  unfold Cv
  refine C_of (own := RX3) (by decide) rfl (Nat.le_of_ble_eq_true rfl) ?_
  intro p e s m below meth c ls S hr hlk X hl
  have hl : lv_has ls 2 [(0, .ref (G.2.2.2.1 87)), (1, .ref (G.2.2.2.1 30))] := hl
  refine r_aload_n S dX3_copyFrom_0 rfl (lv_at hl 1 rfl) ?_
  refine r_get (K := 23) (v := .ref (G.2.2.2.1 31)) S X (Nat.le_of_ble_eq_true rfl) rfl lk3_9_3 (fun _ => ⟨_, rfl, rfl⟩) dX3_copyFrom_1 ?_
  refine r_iconst S dX3_copyFrom_4 (by decide) (fun v1 z2 => ?_)
  have r3 := R_eq z2
  refine r_aload_n S dX3_copyFrom_5 rfl (lv_at hl 0 rfl) ?_
  refine r_get (K := 23) (v := .ref (G.2.2.2.1 88)) S X (Nat.le_of_ble_eq_true rfl) rfl lk3_9_3 (fun _ => ⟨_, rfl, rfl⟩) dX3_copyFrom_6 ?_
  refine r_iconst S dX3_copyFrom_9 (by decide) (fun v4 z5 => ?_)
  have r6 := R_eq z5
  refine r_aload_n S dX3_copyFrom_10 rfl (lv_at hl 0 rfl) ?_
  refine r_get (K := 23) (v := .ref (G.2.2.2.1 88)) S X (Nat.le_of_ble_eq_true rfl) rfl lk3_9_3 (fun _ => ⟨_, rfl, rfl⟩) dX3_copyFrom_11 ?_
  refine r_alen (x := (0, .inl fun _ => 0)) (n := 90) (K := 24) (t0 := 0) S X (Nat.le_of_ble_eq_true rfl) rfl (fun _ => ⟨_, rfl⟩) rfl (by decide) dX3_copyFrom_14 (fun v7 z8 => ?_)
  have r9 := R_eq z8
  refine r_copy (K2 := 24) (n := 90) (K := 24) S X (Nat.le_of_ble_eq_true rfl) rfl (Nat.le_of_ble_eq_true rfl) rfl (fun _ _ _ => rfl) (fun _ _ _ => rfl) hl.1 kw13 kw10 kw11 kw12 (by omega) (by omega) (by omega) ⟨Nat.le_of_ble_eq_true rfl, by decide⟩ dX3_copyFrom_15 (fun t11 H lc C12 X10 => ?_)
  have I13 := Inv_cp (K := 24) (K2 := 24) hI C12 rfl rfl (fun _ _ h => h)
  have F14 : Fr [(87, 4), (87, 5), (87, 6), (87, 7), (87, 8), (87, 9), (87, 10)] [88, 89, 90, 91] τ t11 := Fr_cp Fr_rfl C12 (by decide)
  refine r_aload_n S dX3_copyFrom_18 rfl (lv_at hl 1 rfl) ?_
  refine r_get (K := 23) (v := .ref (G.2.2.2.1 32)) S X10 (Nat.le_of_ble_eq_true rfl) rfl lk3_15_3 (fun _ => ⟨_, rfl, rfl⟩) dX3_copyFrom_19 ?_
  refine r_iconst S dX3_copyFrom_22 (by decide) (fun v15 z16 => ?_)
  have r17 := R_eq z16
  refine r_aload_n S dX3_copyFrom_23 rfl (lv_at hl 0 rfl) ?_
  refine r_get (K := 23) (v := .ref (G.2.2.2.1 89)) S X10 (Nat.le_of_ble_eq_true rfl) rfl lk3_15_3 (fun _ => ⟨_, rfl, rfl⟩) dX3_copyFrom_24 ?_
  refine r_iconst S dX3_copyFrom_27 (by decide) (fun v18 z19 => ?_)
  have r20 := R_eq z19
  refine r_aload_n S dX3_copyFrom_28 rfl (lv_at hl 0 rfl) ?_
  refine r_get (K := 23) (v := .ref (G.2.2.2.1 89)) S X10 (Nat.le_of_ble_eq_true rfl) rfl lk3_15_3 (fun _ => ⟨_, rfl, rfl⟩) dX3_copyFrom_29 ?_
  refine r_alen (x := (0, .inl fun _ => 0)) (n := 90) (K := 25) (t0 := 0) S X10 (Nat.le_of_ble_eq_true rfl) rfl (fun _ => ⟨_, rfl⟩) rfl (by decide) dX3_copyFrom_32 (fun v21 z22 => ?_)
  have r23 := R_eq z22
  refine r_copy (K2 := 25) (n := 90) (K := 25) S X10 (Nat.le_of_ble_eq_true rfl) rfl (Nat.le_of_ble_eq_true rfl) rfl (fun _ _ _ => rfl) (fun _ _ _ => rfl) hl.1 kw13 kw10 kw11 kw12 (by omega) (by omega) (by omega) ⟨Nat.le_of_ble_eq_true rfl, by decide⟩ dX3_copyFrom_33 (fun t25 H lc C26 X24 => ?_)
  have I27 := Inv_cp (K := 25) (K2 := 25) I13 C26 rfl rfl (fun _ _ h => h)
  have F28 : Fr [(87, 4), (87, 5), (87, 6), (87, 7), (87, 8), (87, 9), (87, 10)] [88, 89, 90, 91] τ t25 := Fr_cp F14 C26 (by decide)
  refine r_aload_n S dX3_copyFrom_36 rfl (lv_at hl 1 rfl) ?_
  refine r_get (K := 23) (v := .ref (G.2.2.2.1 33)) S X24 (Nat.le_of_ble_eq_true rfl) rfl lk3_18_3 (fun _ => ⟨_, rfl, rfl⟩) dX3_copyFrom_37 ?_
  refine r_iconst S dX3_copyFrom_40 (by decide) (fun v29 z30 => ?_)
  have r31 := R_eq z30
  refine r_aload_n S dX3_copyFrom_41 rfl (lv_at hl 0 rfl) ?_
  refine r_get (K := 23) (v := .ref (G.2.2.2.1 90)) S X24 (Nat.le_of_ble_eq_true rfl) rfl lk3_18_3 (fun _ => ⟨_, rfl, rfl⟩) dX3_copyFrom_42 ?_
  refine r_iconst S dX3_copyFrom_45 (by decide) (fun v32 z33 => ?_)
  have r34 := R_eq z33
  refine r_aload_n S dX3_copyFrom_46 rfl (lv_at hl 0 rfl) ?_
  refine r_get (K := 23) (v := .ref (G.2.2.2.1 90)) S X24 (Nat.le_of_ble_eq_true rfl) rfl lk3_18_3 (fun _ => ⟨_, rfl, rfl⟩) dX3_copyFrom_47 ?_
  refine r_alen (x := (0, .inl fun _ => 0)) (n := 10) (K := 26) (t0 := 0) S X24 (Nat.le_of_ble_eq_true rfl) rfl (fun _ => ⟨_, rfl⟩) rfl (by decide) dX3_copyFrom_50 (fun v35 z36 => ?_)
  have r37 := R_eq z36
  refine r_copy (K2 := 26) (n := 10) (K := 26) S X24 (Nat.le_of_ble_eq_true rfl) rfl (Nat.le_of_ble_eq_true rfl) rfl (fun _ _ _ => rfl) (fun _ _ _ => rfl) hl.1 kw13 kw10 kw11 kw12 (by omega) (by omega) (by omega) ⟨Nat.le_of_ble_eq_true rfl, by decide⟩ dX3_copyFrom_51 (fun t39 H lc C40 X38 => ?_)
  have I41 := Inv_cp (K := 26) (K2 := 26) I27 C40 rfl rfl (fun _ _ h => h)
  have F42 : Fr [(87, 4), (87, 5), (87, 6), (87, 7), (87, 8), (87, 9), (87, 10)] [88, 89, 90, 91] τ t39 := Fr_cp F28 C40 (by decide)
  refine r_aload_n S dX3_copyFrom_54 rfl (lv_at hl 1 rfl) ?_
  refine r_get (K := 23) (v := .ref (G.2.2.2.1 34)) S X38 (Nat.le_of_ble_eq_true rfl) rfl lk3_21_3 (fun _ => ⟨_, rfl, rfl⟩) dX3_copyFrom_55 ?_
  refine r_iconst S dX3_copyFrom_58 (by decide) (fun v43 z44 => ?_)
  have r45 := R_eq z44
  refine r_aload_n S dX3_copyFrom_59 rfl (lv_at hl 0 rfl) ?_
  refine r_get (K := 23) (v := .ref (G.2.2.2.1 91)) S X38 (Nat.le_of_ble_eq_true rfl) rfl lk3_21_3 (fun _ => ⟨_, rfl, rfl⟩) dX3_copyFrom_60 ?_
  refine r_iconst S dX3_copyFrom_63 (by decide) (fun v46 z47 => ?_)
  have r48 := R_eq z47
  refine r_aload_n S dX3_copyFrom_64 rfl (lv_at hl 0 rfl) ?_
  refine r_get (K := 23) (v := .ref (G.2.2.2.1 91)) S X38 (Nat.le_of_ble_eq_true rfl) rfl lk3_21_3 (fun _ => ⟨_, rfl, rfl⟩) dX3_copyFrom_65 ?_
  refine r_alen (x := (0, .inl fun _ => 0)) (n := 10) (K := 27) (t0 := 0) S X38 (Nat.le_of_ble_eq_true rfl) rfl (fun _ => ⟨_, rfl⟩) rfl (by decide) dX3_copyFrom_68 (fun v49 z50 => ?_)
  have r51 := R_eq z50
  refine r_copy (K2 := 27) (n := 10) (K := 27) S X38 (Nat.le_of_ble_eq_true rfl) rfl (Nat.le_of_ble_eq_true rfl) rfl (fun _ _ _ => rfl) (fun _ _ _ => rfl) hl.1 kw13 kw10 kw11 kw12 (by omega) (by omega) (by omega) ⟨Nat.le_of_ble_eq_true rfl, by decide⟩ dX3_copyFrom_69 (fun t53 H lc C54 X52 => ?_)
  have I55 := Inv_cp (K := 27) (K2 := 27) I41 C54 rfl rfl (fun _ _ h => h)
  have F56 : Fr [(87, 4), (87, 5), (87, 6), (87, 7), (87, 8), (87, 9), (87, 10)] [88, 89, 90, 91] τ t53 := Fr_cp F42 C54 (by decide)
  refine r_aload_n S dX3_copyFrom_72 rfl (lv_at hl 0 rfl) ?_
  refine r_aload_n S dX3_copyFrom_73 rfl (lv_at hl 1 rfl) ?_
  refine r_getn (K := 23) S X52 (Nat.le_of_ble_eq_true rfl) rfl lk3_45_3 (fun _ => ⟨_, rfl, rfl⟩) dX3_copyFrom_74 (fun v57 z58 => ?_)
  have r59 : R (0) (1023) v57 := rd I55 rfl z58
  refine r_put (K := 23) (ty := .int) S X52 (Nat.le_of_ble_eq_true rfl) rfl lk3_45_3 (fun _ => ⟨_, rfl, Nat.le_of_ble_eq_true rfl, rfl⟩) (fun _ _ _ h => by cases h; exact ⟨rfl, rfl⟩) rfl rfl dX3_copyFrom_77 (fun t60 H lc M61 X62 => ?_)
  have I63 := Inv_mu I55 M61 (show Rg (kd 87) 4 v57 from (R_of (lo := 0) (hi := 1023) r59 rfl))
  have F64 : Fr [(87, 4), (87, 5), (87, 6), (87, 7), (87, 8), (87, 9), (87, 10)] [88, 89, 90, 91] τ t60 := Fr_mu F56 M61 (by decide)
  refine r_aload_n S dX3_copyFrom_80 rfl (lv_at hl 0 rfl) ?_
  refine r_aload_n S dX3_copyFrom_81 rfl (lv_at hl 1 rfl) ?_
  refine r_getn (K := 23) S X62 (Nat.le_of_ble_eq_true rfl) rfl lk3_48_3 (fun _ => ⟨_, rfl, rfl⟩) dX3_copyFrom_82 (fun v65 z66 => ?_)
  have r67 : R (0) (1) v65 := rd I63 rfl z66
  refine r_put (K := 23) (ty := .int) S X62 (Nat.le_of_ble_eq_true rfl) rfl lk3_48_3 (fun _ => ⟨_, rfl, Nat.le_of_ble_eq_true rfl, rfl⟩) (fun _ _ _ h => by cases h; exact ⟨rfl, rfl⟩) rfl rfl dX3_copyFrom_85 (fun t68 H lc M69 X70 => ?_)
  have I71 := Inv_mu I63 M69 (show Rg (kd 87) 5 v65 from (R_of (lo := 0) (hi := 1) r67 rfl))
  have F72 : Fr [(87, 4), (87, 5), (87, 6), (87, 7), (87, 8), (87, 9), (87, 10)] [88, 89, 90, 91] τ t68 := Fr_mu F64 M69 (by decide)
  refine r_aload_n S dX3_copyFrom_88 rfl (lv_at hl 0 rfl) ?_
  refine r_aload_n S dX3_copyFrom_89 rfl (lv_at hl 1 rfl) ?_
  refine r_getn (K := 23) S X70 (Nat.le_of_ble_eq_true rfl) rfl lk3_51_3 (fun _ => ⟨_, rfl, rfl⟩) dX3_copyFrom_90 (fun v73 z74 => ?_)
  have r75 : R (0) (1023) v73 := rd I71 rfl z74
  refine r_put (K := 23) (ty := .int) S X70 (Nat.le_of_ble_eq_true rfl) rfl lk3_51_3 (fun _ => ⟨_, rfl, Nat.le_of_ble_eq_true rfl, rfl⟩) (fun _ _ _ h => by cases h; exact ⟨rfl, rfl⟩) rfl rfl dX3_copyFrom_93 (fun t76 H lc M77 X78 => ?_)
  have I79 := Inv_mu I71 M77 (show Rg (kd 87) 6 v73 from (R_of (lo := 0) (hi := 1023) r75 rfl))
  have F80 : Fr [(87, 4), (87, 5), (87, 6), (87, 7), (87, 8), (87, 9), (87, 10)] [88, 89, 90, 91] τ t76 := Fr_mu F72 M77 (by decide)
  refine r_aload_n S dX3_copyFrom_96 rfl (lv_at hl 0 rfl) ?_
  refine r_aload_n S dX3_copyFrom_97 rfl (lv_at hl 1 rfl) ?_
  refine r_getn (K := 23) S X78 (Nat.le_of_ble_eq_true rfl) rfl lk3_54_3 (fun _ => ⟨_, rfl, rfl⟩) dX3_copyFrom_98 (fun v81 z82 => ?_)
  have r83 : R (0) (1023) v81 := rd I79 rfl z82
  refine r_put (K := 23) (ty := .int) S X78 (Nat.le_of_ble_eq_true rfl) rfl lk3_54_3 (fun _ => ⟨_, rfl, Nat.le_of_ble_eq_true rfl, rfl⟩) (fun _ _ _ h => by cases h; exact ⟨rfl, rfl⟩) rfl rfl dX3_copyFrom_101 (fun t84 H lc M85 X86 => ?_)
  have I87 := Inv_mu I79 M85 (show Rg (kd 87) 7 v81 from (R_of (lo := 0) (hi := 1023) r83 rfl))
  have F88 : Fr [(87, 4), (87, 5), (87, 6), (87, 7), (87, 8), (87, 9), (87, 10)] [88, 89, 90, 91] τ t84 := Fr_mu F80 M85 (by decide)
  refine r_aload_n S dX3_copyFrom_104 rfl (lv_at hl 0 rfl) ?_
  refine r_aload_n S dX3_copyFrom_105 rfl (lv_at hl 1 rfl) ?_
  refine r_getn (K := 23) S X86 (Nat.le_of_ble_eq_true rfl) rfl lk3_24_3 (fun _ => ⟨_, rfl, rfl⟩) dX3_copyFrom_106 (fun v89 z90 => ?_)
  have r91 : R (-1) (8) v89 := rd I87 rfl z90
  refine r_put (K := 23) (ty := .int) S X86 (Nat.le_of_ble_eq_true rfl) rfl lk3_24_3 (fun _ => ⟨_, rfl, Nat.le_of_ble_eq_true rfl, rfl⟩) (fun _ _ _ h => by cases h; exact ⟨rfl, rfl⟩) rfl rfl dX3_copyFrom_109 (fun t92 H lc M93 X94 => ?_)
  have I95 := Inv_mu I87 M93 (show Rg (kd 87) 8 v89 from (R_of (lo := -1) (hi := 8) r91 rfl))
  have F96 : Fr [(87, 4), (87, 5), (87, 6), (87, 7), (87, 8), (87, 9), (87, 10)] [88, 89, 90, 91] τ t92 := Fr_mu F88 M93 (by decide)
  refine r_aload_n S dX3_copyFrom_112 rfl (lv_at hl 0 rfl) ?_
  refine r_aload_n S dX3_copyFrom_113 rfl (lv_at hl 1 rfl) ?_
  refine r_getn (K := 23) S X94 (Nat.le_of_ble_eq_true rfl) rfl lk3_60_3 (fun _ => ⟨_, rfl, rfl⟩) dX3_copyFrom_114 (fun v97 z98 => ?_)
  have r100 := R_any v97
  refine r_put (K := 23) (ty := .int) S X94 (Nat.le_of_ble_eq_true rfl) rfl lk3_60_3 (fun _ => ⟨_, rfl, Nat.le_of_ble_eq_true rfl, rfl⟩) (fun _ _ _ h => by cases h; exact ⟨rfl, rfl⟩) rfl rfl dX3_copyFrom_117 (fun t101 H lc M102 X103 => ?_)
  have I104 := Inv_mu I95 M102 (R_any v97)
  have F105 : Fr [(87, 4), (87, 5), (87, 6), (87, 7), (87, 8), (87, 9), (87, 10)] [88, 89, 90, 91] τ t101 := Fr_mu F96 M102 (by decide)
  refine r_aload_n S dX3_copyFrom_120 rfl (lv_at hl 0 rfl) ?_
  refine r_aload_n S dX3_copyFrom_121 rfl (lv_at hl 1 rfl) ?_
  refine r_getn (K := 23) S X103 (Nat.le_of_ble_eq_true rfl) rfl lk3_63_3 (fun _ => ⟨_, rfl, rfl⟩) dX3_copyFrom_122 (fun v106 z107 => ?_)
  have r109 := R_any v106
  refine r_put (K := 23) (ty := .int) S X103 (Nat.le_of_ble_eq_true rfl) rfl lk3_63_3 (fun _ => ⟨_, rfl, Nat.le_of_ble_eq_true rfl, rfl⟩) (fun _ _ _ h => by cases h; exact ⟨rfl, rfl⟩) rfl rfl dX3_copyFrom_125 (fun t110 H lc M111 X112 => ?_)
  have I113 := Inv_mu I104 M111 (R_any v106)
  have F114 : Fr [(87, 4), (87, 5), (87, 6), (87, 7), (87, 8), (87, 9), (87, 10)] [88, 89, 90, 91] τ t110 := Fr_mu F105 M111 (by decide)
  exact r_vret S hr hlk X112 ⟨I113, F114, (((M111.2 87 8 (Or.inr (by decide))).trans ((M102.2 87 8 (Or.inr (by decide))).trans M93.1)).trans (((M85.2 30 8 (Or.inl (by decide))).trans ((M77.2 30 8 (Or.inl (by decide))).trans ((M69.2 30 8 (Or.inl (by decide))).trans ((M61.2 30 8 (Or.inl (by decide))).trans ((C54.1 30 (by decide) 8).trans ((C40.1 30 (by decide) 8).trans ((C26.1 30 (by decide) 8).trans ((C12.1 30 (by decide) 8).trans rfl)))))))).symm.trans z90).symm)⟩ dX3_copyFrom_128
def po_scopy_30_87 (τ : Tau)     (u : Tau) : Prop := Inv u ∧ Fr [(30, 4), (30, 5), (30, 6), (30, 7), (30, 8), (30, 9), (30, 10)] [31, 32, 33, 34] τ u ∧ u 30 8 = τ 87 8
set_option maxHeartbeats 4000000 in
set_option maxRecDepth 100000 in
theorem c_scopy_30_87 (l : Launch) (G : Gx) (τ : Tau) (hI : Inv τ) : Cv l G yX3_copyFrom cX3_copyFrom 2 1 60 [.ref (G.2.2.2.1 30), .ref (G.2.2.2.1 87)] τ (po_scopy_30_87 τ    ) := by
  unfold Cv
  refine C_of (own := RX3) (by decide) rfl (Nat.le_of_ble_eq_true rfl) ?_
  intro p e s m below meth c ls S hr hlk X hl
  have hl : lv_has ls 2 [(0, .ref (G.2.2.2.1 30)), (1, .ref (G.2.2.2.1 87))] := hl
  refine r_aload_n S dX3_copyFrom_0 rfl (lv_at hl 1 rfl) ?_
  refine r_get (K := 23) (v := .ref (G.2.2.2.1 88)) S X (Nat.le_of_ble_eq_true rfl) rfl lk3_9_3 (fun _ => ⟨_, rfl, rfl⟩) dX3_copyFrom_1 ?_
  refine r_iconst S dX3_copyFrom_4 (by decide) (fun v1 z2 => ?_)
  have r3 := R_eq z2
  refine r_aload_n S dX3_copyFrom_5 rfl (lv_at hl 0 rfl) ?_
  refine r_get (K := 23) (v := .ref (G.2.2.2.1 31)) S X (Nat.le_of_ble_eq_true rfl) rfl lk3_9_3 (fun _ => ⟨_, rfl, rfl⟩) dX3_copyFrom_6 ?_
  refine r_iconst S dX3_copyFrom_9 (by decide) (fun v4 z5 => ?_)
  have r6 := R_eq z5
  refine r_aload_n S dX3_copyFrom_10 rfl (lv_at hl 0 rfl) ?_
  refine r_get (K := 23) (v := .ref (G.2.2.2.1 31)) S X (Nat.le_of_ble_eq_true rfl) rfl lk3_9_3 (fun _ => ⟨_, rfl, rfl⟩) dX3_copyFrom_11 ?_
  refine r_alen (x := (0, .inl fun _ => 0)) (n := 90) (K := 24) (t0 := 0) S X (Nat.le_of_ble_eq_true rfl) rfl (fun _ => ⟨_, rfl⟩) rfl (by decide) dX3_copyFrom_14 (fun v7 z8 => ?_)
  have r9 := R_eq z8
  refine r_copy (K2 := 24) (n := 90) (K := 24) S X (Nat.le_of_ble_eq_true rfl) rfl (Nat.le_of_ble_eq_true rfl) rfl (fun _ _ _ => rfl) (fun _ _ _ => rfl) hl.1 kw13 kw10 kw11 kw12 (by omega) (by omega) (by omega) ⟨Nat.le_of_ble_eq_true rfl, by decide⟩ dX3_copyFrom_15 (fun t11 H lc C12 X10 => ?_)
  have I13 := Inv_cp (K := 24) (K2 := 24) hI C12 rfl rfl (fun _ _ h => h)
  have F14 : Fr [(30, 4), (30, 5), (30, 6), (30, 7), (30, 8), (30, 9), (30, 10)] [31, 32, 33, 34] τ t11 := Fr_cp Fr_rfl C12 (by decide)
  refine r_aload_n S dX3_copyFrom_18 rfl (lv_at hl 1 rfl) ?_
  refine r_get (K := 23) (v := .ref (G.2.2.2.1 89)) S X10 (Nat.le_of_ble_eq_true rfl) rfl lk3_15_3 (fun _ => ⟨_, rfl, rfl⟩) dX3_copyFrom_19 ?_
  refine r_iconst S dX3_copyFrom_22 (by decide) (fun v15 z16 => ?_)
  have r17 := R_eq z16
  refine r_aload_n S dX3_copyFrom_23 rfl (lv_at hl 0 rfl) ?_
  refine r_get (K := 23) (v := .ref (G.2.2.2.1 32)) S X10 (Nat.le_of_ble_eq_true rfl) rfl lk3_15_3 (fun _ => ⟨_, rfl, rfl⟩) dX3_copyFrom_24 ?_
  refine r_iconst S dX3_copyFrom_27 (by decide) (fun v18 z19 => ?_)
  have r20 := R_eq z19
  refine r_aload_n S dX3_copyFrom_28 rfl (lv_at hl 0 rfl) ?_
  refine r_get (K := 23) (v := .ref (G.2.2.2.1 32)) S X10 (Nat.le_of_ble_eq_true rfl) rfl lk3_15_3 (fun _ => ⟨_, rfl, rfl⟩) dX3_copyFrom_29 ?_
  refine r_alen (x := (0, .inl fun _ => 0)) (n := 90) (K := 25) (t0 := 0) S X10 (Nat.le_of_ble_eq_true rfl) rfl (fun _ => ⟨_, rfl⟩) rfl (by decide) dX3_copyFrom_32 (fun v21 z22 => ?_)
  have r23 := R_eq z22
  refine r_copy (K2 := 25) (n := 90) (K := 25) S X10 (Nat.le_of_ble_eq_true rfl) rfl (Nat.le_of_ble_eq_true rfl) rfl (fun _ _ _ => rfl) (fun _ _ _ => rfl) hl.1 kw13 kw10 kw11 kw12 (by omega) (by omega) (by omega) ⟨Nat.le_of_ble_eq_true rfl, by decide⟩ dX3_copyFrom_33 (fun t25 H lc C26 X24 => ?_)
  have I27 := Inv_cp (K := 25) (K2 := 25) I13 C26 rfl rfl (fun _ _ h => h)
  have F28 : Fr [(30, 4), (30, 5), (30, 6), (30, 7), (30, 8), (30, 9), (30, 10)] [31, 32, 33, 34] τ t25 := Fr_cp F14 C26 (by decide)
  refine r_aload_n S dX3_copyFrom_36 rfl (lv_at hl 1 rfl) ?_
  refine r_get (K := 23) (v := .ref (G.2.2.2.1 90)) S X24 (Nat.le_of_ble_eq_true rfl) rfl lk3_18_3 (fun _ => ⟨_, rfl, rfl⟩) dX3_copyFrom_37 ?_
  refine r_iconst S dX3_copyFrom_40 (by decide) (fun v29 z30 => ?_)
  have r31 := R_eq z30
  refine r_aload_n S dX3_copyFrom_41 rfl (lv_at hl 0 rfl) ?_
  refine r_get (K := 23) (v := .ref (G.2.2.2.1 33)) S X24 (Nat.le_of_ble_eq_true rfl) rfl lk3_18_3 (fun _ => ⟨_, rfl, rfl⟩) dX3_copyFrom_42 ?_
  refine r_iconst S dX3_copyFrom_45 (by decide) (fun v32 z33 => ?_)
  have r34 := R_eq z33
  refine r_aload_n S dX3_copyFrom_46 rfl (lv_at hl 0 rfl) ?_
  refine r_get (K := 23) (v := .ref (G.2.2.2.1 33)) S X24 (Nat.le_of_ble_eq_true rfl) rfl lk3_18_3 (fun _ => ⟨_, rfl, rfl⟩) dX3_copyFrom_47 ?_
  refine r_alen (x := (0, .inl fun _ => 0)) (n := 10) (K := 26) (t0 := 0) S X24 (Nat.le_of_ble_eq_true rfl) rfl (fun _ => ⟨_, rfl⟩) rfl (by decide) dX3_copyFrom_50 (fun v35 z36 => ?_)
  have r37 := R_eq z36
  refine r_copy (K2 := 26) (n := 10) (K := 26) S X24 (Nat.le_of_ble_eq_true rfl) rfl (Nat.le_of_ble_eq_true rfl) rfl (fun _ _ _ => rfl) (fun _ _ _ => rfl) hl.1 kw13 kw10 kw11 kw12 (by omega) (by omega) (by omega) ⟨Nat.le_of_ble_eq_true rfl, by decide⟩ dX3_copyFrom_51 (fun t39 H lc C40 X38 => ?_)
  have I41 := Inv_cp (K := 26) (K2 := 26) I27 C40 rfl rfl (fun _ _ h => h)
  have F42 : Fr [(30, 4), (30, 5), (30, 6), (30, 7), (30, 8), (30, 9), (30, 10)] [31, 32, 33, 34] τ t39 := Fr_cp F28 C40 (by decide)
  refine r_aload_n S dX3_copyFrom_54 rfl (lv_at hl 1 rfl) ?_
  refine r_get (K := 23) (v := .ref (G.2.2.2.1 91)) S X38 (Nat.le_of_ble_eq_true rfl) rfl lk3_21_3 (fun _ => ⟨_, rfl, rfl⟩) dX3_copyFrom_55 ?_
  refine r_iconst S dX3_copyFrom_58 (by decide) (fun v43 z44 => ?_)
  have r45 := R_eq z44
  refine r_aload_n S dX3_copyFrom_59 rfl (lv_at hl 0 rfl) ?_
  refine r_get (K := 23) (v := .ref (G.2.2.2.1 34)) S X38 (Nat.le_of_ble_eq_true rfl) rfl lk3_21_3 (fun _ => ⟨_, rfl, rfl⟩) dX3_copyFrom_60 ?_
  refine r_iconst S dX3_copyFrom_63 (by decide) (fun v46 z47 => ?_)
  have r48 := R_eq z47
  refine r_aload_n S dX3_copyFrom_64 rfl (lv_at hl 0 rfl) ?_
  refine r_get (K := 23) (v := .ref (G.2.2.2.1 34)) S X38 (Nat.le_of_ble_eq_true rfl) rfl lk3_21_3 (fun _ => ⟨_, rfl, rfl⟩) dX3_copyFrom_65 ?_
  refine r_alen (x := (0, .inl fun _ => 0)) (n := 10) (K := 27) (t0 := 0) S X38 (Nat.le_of_ble_eq_true rfl) rfl (fun _ => ⟨_, rfl⟩) rfl (by decide) dX3_copyFrom_68 (fun v49 z50 => ?_)
  have r51 := R_eq z50
  refine r_copy (K2 := 27) (n := 10) (K := 27) S X38 (Nat.le_of_ble_eq_true rfl) rfl (Nat.le_of_ble_eq_true rfl) rfl (fun _ _ _ => rfl) (fun _ _ _ => rfl) hl.1 kw13 kw10 kw11 kw12 (by omega) (by omega) (by omega) ⟨Nat.le_of_ble_eq_true rfl, by decide⟩ dX3_copyFrom_69 (fun t53 H lc C54 X52 => ?_)
  have I55 := Inv_cp (K := 27) (K2 := 27) I41 C54 rfl rfl (fun _ _ h => h)
  have F56 : Fr [(30, 4), (30, 5), (30, 6), (30, 7), (30, 8), (30, 9), (30, 10)] [31, 32, 33, 34] τ t53 := Fr_cp F42 C54 (by decide)
  refine r_aload_n S dX3_copyFrom_72 rfl (lv_at hl 0 rfl) ?_
  refine r_aload_n S dX3_copyFrom_73 rfl (lv_at hl 1 rfl) ?_
  refine r_getn (K := 23) S X52 (Nat.le_of_ble_eq_true rfl) rfl lk3_45_3 (fun _ => ⟨_, rfl, rfl⟩) dX3_copyFrom_74 (fun v57 z58 => ?_)
  have r59 : R (0) (1023) v57 := rd I55 rfl z58
  refine r_put (K := 23) (ty := .int) S X52 (Nat.le_of_ble_eq_true rfl) rfl lk3_45_3 (fun _ => ⟨_, rfl, Nat.le_of_ble_eq_true rfl, rfl⟩) (fun _ _ _ h => by cases h; exact ⟨rfl, rfl⟩) rfl rfl dX3_copyFrom_77 (fun t60 H lc M61 X62 => ?_)
  have I63 := Inv_mu I55 M61 (show Rg (kd 30) 4 v57 from (R_of (lo := 0) (hi := 1023) r59 rfl))
  have F64 : Fr [(30, 4), (30, 5), (30, 6), (30, 7), (30, 8), (30, 9), (30, 10)] [31, 32, 33, 34] τ t60 := Fr_mu F56 M61 (by decide)
  refine r_aload_n S dX3_copyFrom_80 rfl (lv_at hl 0 rfl) ?_
  refine r_aload_n S dX3_copyFrom_81 rfl (lv_at hl 1 rfl) ?_
  refine r_getn (K := 23) S X62 (Nat.le_of_ble_eq_true rfl) rfl lk3_48_3 (fun _ => ⟨_, rfl, rfl⟩) dX3_copyFrom_82 (fun v65 z66 => ?_)
  have r67 : R (0) (1) v65 := rd I63 rfl z66
  refine r_put (K := 23) (ty := .int) S X62 (Nat.le_of_ble_eq_true rfl) rfl lk3_48_3 (fun _ => ⟨_, rfl, Nat.le_of_ble_eq_true rfl, rfl⟩) (fun _ _ _ h => by cases h; exact ⟨rfl, rfl⟩) rfl rfl dX3_copyFrom_85 (fun t68 H lc M69 X70 => ?_)
  have I71 := Inv_mu I63 M69 (show Rg (kd 30) 5 v65 from (R_of (lo := 0) (hi := 1) r67 rfl))
  have F72 : Fr [(30, 4), (30, 5), (30, 6), (30, 7), (30, 8), (30, 9), (30, 10)] [31, 32, 33, 34] τ t68 := Fr_mu F64 M69 (by decide)
  refine r_aload_n S dX3_copyFrom_88 rfl (lv_at hl 0 rfl) ?_
  refine r_aload_n S dX3_copyFrom_89 rfl (lv_at hl 1 rfl) ?_
  refine r_getn (K := 23) S X70 (Nat.le_of_ble_eq_true rfl) rfl lk3_51_3 (fun _ => ⟨_, rfl, rfl⟩) dX3_copyFrom_90 (fun v73 z74 => ?_)
  have r75 : R (0) (1023) v73 := rd I71 rfl z74
  refine r_put (K := 23) (ty := .int) S X70 (Nat.le_of_ble_eq_true rfl) rfl lk3_51_3 (fun _ => ⟨_, rfl, Nat.le_of_ble_eq_true rfl, rfl⟩) (fun _ _ _ h => by cases h; exact ⟨rfl, rfl⟩) rfl rfl dX3_copyFrom_93 (fun t76 H lc M77 X78 => ?_)
  have I79 := Inv_mu I71 M77 (show Rg (kd 30) 6 v73 from (R_of (lo := 0) (hi := 1023) r75 rfl))
  have F80 : Fr [(30, 4), (30, 5), (30, 6), (30, 7), (30, 8), (30, 9), (30, 10)] [31, 32, 33, 34] τ t76 := Fr_mu F72 M77 (by decide)
  refine r_aload_n S dX3_copyFrom_96 rfl (lv_at hl 0 rfl) ?_
  refine r_aload_n S dX3_copyFrom_97 rfl (lv_at hl 1 rfl) ?_
  refine r_getn (K := 23) S X78 (Nat.le_of_ble_eq_true rfl) rfl lk3_54_3 (fun _ => ⟨_, rfl, rfl⟩) dX3_copyFrom_98 (fun v81 z82 => ?_)
  have r83 : R (0) (1023) v81 := rd I79 rfl z82
  refine r_put (K := 23) (ty := .int) S X78 (Nat.le_of_ble_eq_true rfl) rfl lk3_54_3 (fun _ => ⟨_, rfl, Nat.le_of_ble_eq_true rfl, rfl⟩) (fun _ _ _ h => by cases h; exact ⟨rfl, rfl⟩) rfl rfl dX3_copyFrom_101 (fun t84 H lc M85 X86 => ?_)
  have I87 := Inv_mu I79 M85 (show Rg (kd 30) 7 v81 from (R_of (lo := 0) (hi := 1023) r83 rfl))
  have F88 : Fr [(30, 4), (30, 5), (30, 6), (30, 7), (30, 8), (30, 9), (30, 10)] [31, 32, 33, 34] τ t84 := Fr_mu F80 M85 (by decide)
  refine r_aload_n S dX3_copyFrom_104 rfl (lv_at hl 0 rfl) ?_
  refine r_aload_n S dX3_copyFrom_105 rfl (lv_at hl 1 rfl) ?_
  refine r_getn (K := 23) S X86 (Nat.le_of_ble_eq_true rfl) rfl lk3_24_3 (fun _ => ⟨_, rfl, rfl⟩) dX3_copyFrom_106 (fun v89 z90 => ?_)
  have r91 : R (-1) (8) v89 := rd I87 rfl z90
  refine r_put (K := 23) (ty := .int) S X86 (Nat.le_of_ble_eq_true rfl) rfl lk3_24_3 (fun _ => ⟨_, rfl, Nat.le_of_ble_eq_true rfl, rfl⟩) (fun _ _ _ h => by cases h; exact ⟨rfl, rfl⟩) rfl rfl dX3_copyFrom_109 (fun t92 H lc M93 X94 => ?_)
  have I95 := Inv_mu I87 M93 (show Rg (kd 30) 8 v89 from (R_of (lo := -1) (hi := 8) r91 rfl))
  have F96 : Fr [(30, 4), (30, 5), (30, 6), (30, 7), (30, 8), (30, 9), (30, 10)] [31, 32, 33, 34] τ t92 := Fr_mu F88 M93 (by decide)
  refine r_aload_n S dX3_copyFrom_112 rfl (lv_at hl 0 rfl) ?_
  refine r_aload_n S dX3_copyFrom_113 rfl (lv_at hl 1 rfl) ?_
  refine r_getn (K := 23) S X94 (Nat.le_of_ble_eq_true rfl) rfl lk3_60_3 (fun _ => ⟨_, rfl, rfl⟩) dX3_copyFrom_114 (fun v97 z98 => ?_)
  have r100 := R_any v97
  refine r_put (K := 23) (ty := .int) S X94 (Nat.le_of_ble_eq_true rfl) rfl lk3_60_3 (fun _ => ⟨_, rfl, Nat.le_of_ble_eq_true rfl, rfl⟩) (fun _ _ _ h => by cases h; exact ⟨rfl, rfl⟩) rfl rfl dX3_copyFrom_117 (fun t101 H lc M102 X103 => ?_)
  have I104 := Inv_mu I95 M102 (R_any v97)
  have F105 : Fr [(30, 4), (30, 5), (30, 6), (30, 7), (30, 8), (30, 9), (30, 10)] [31, 32, 33, 34] τ t101 := Fr_mu F96 M102 (by decide)
  refine r_aload_n S dX3_copyFrom_120 rfl (lv_at hl 0 rfl) ?_
  refine r_aload_n S dX3_copyFrom_121 rfl (lv_at hl 1 rfl) ?_
  refine r_getn (K := 23) S X103 (Nat.le_of_ble_eq_true rfl) rfl lk3_63_3 (fun _ => ⟨_, rfl, rfl⟩) dX3_copyFrom_122 (fun v106 z107 => ?_)
  have r109 := R_any v106
  refine r_put (K := 23) (ty := .int) S X103 (Nat.le_of_ble_eq_true rfl) rfl lk3_63_3 (fun _ => ⟨_, rfl, Nat.le_of_ble_eq_true rfl, rfl⟩) (fun _ _ _ h => by cases h; exact ⟨rfl, rfl⟩) rfl rfl dX3_copyFrom_125 (fun t110 H lc M111 X112 => ?_)
  have I113 := Inv_mu I104 M111 (R_any v106)
  have F114 : Fr [(30, 4), (30, 5), (30, 6), (30, 7), (30, 8), (30, 9), (30, 10)] [31, 32, 33, 34] τ t110 := Fr_mu F105 M111 (by decide)
  exact r_vret S hr hlk X112 ⟨I113, F114, (((M111.2 30 8 (Or.inr (by decide))).trans ((M102.2 30 8 (Or.inr (by decide))).trans M93.1)).trans (((M85.2 87 8 (Or.inl (by decide))).trans ((M77.2 87 8 (Or.inl (by decide))).trans ((M69.2 87 8 (Or.inl (by decide))).trans ((M61.2 87 8 (Or.inl (by decide))).trans ((C54.1 87 (by decide) 8).trans ((C40.1 87 (by decide) 8).trans ((C26.1 87 (by decide) 8).trans ((C12.1 87 (by decide) 8).trans rfl)))))))).symm.trans z90).symm)⟩ dX3_copyFrom_128
def po_scopy_40_30 (τ : Tau)     (u : Tau) : Prop := Inv u ∧ Fr [(40, 4), (40, 5), (40, 6), (40, 7), (40, 8), (40, 9), (40, 10)] [41, 42, 43, 44] τ u ∧ u 40 8 = τ 30 8
set_option maxHeartbeats 4000000 in
set_option maxRecDepth 100000 in
theorem c_scopy_40_30 (l : Launch) (G : Gx) (τ : Tau) (hI : Inv τ) : Cv l G yX3_copyFrom cX3_copyFrom 2 1 60 [.ref (G.2.2.2.1 40), .ref (G.2.2.2.1 30)] τ (po_scopy_40_30 τ    ) := by
  unfold Cv
  refine C_of (own := RX3) (by decide) rfl (Nat.le_of_ble_eq_true rfl) ?_
  intro p e s m below meth c ls S hr hlk X hl
  have hl : lv_has ls 2 [(0, .ref (G.2.2.2.1 40)), (1, .ref (G.2.2.2.1 30))] := hl
  refine r_aload_n S dX3_copyFrom_0 rfl (lv_at hl 1 rfl) ?_
  refine r_get (K := 23) (v := .ref (G.2.2.2.1 31)) S X (Nat.le_of_ble_eq_true rfl) rfl lk3_9_3 (fun _ => ⟨_, rfl, rfl⟩) dX3_copyFrom_1 ?_
  refine r_iconst S dX3_copyFrom_4 (by decide) (fun v1 z2 => ?_)
  have r3 := R_eq z2
  refine r_aload_n S dX3_copyFrom_5 rfl (lv_at hl 0 rfl) ?_
  refine r_get (K := 23) (v := .ref (G.2.2.2.1 41)) S X (Nat.le_of_ble_eq_true rfl) rfl lk3_9_3 (fun _ => ⟨_, rfl, rfl⟩) dX3_copyFrom_6 ?_
  refine r_iconst S dX3_copyFrom_9 (by decide) (fun v4 z5 => ?_)
  have r6 := R_eq z5
  refine r_aload_n S dX3_copyFrom_10 rfl (lv_at hl 0 rfl) ?_
  refine r_get (K := 23) (v := .ref (G.2.2.2.1 41)) S X (Nat.le_of_ble_eq_true rfl) rfl lk3_9_3 (fun _ => ⟨_, rfl, rfl⟩) dX3_copyFrom_11 ?_
  refine r_alen (x := (0, .inl fun _ => 0)) (n := 90) (K := 24) (t0 := 0) S X (Nat.le_of_ble_eq_true rfl) rfl (fun _ => ⟨_, rfl⟩) rfl (by decide) dX3_copyFrom_14 (fun v7 z8 => ?_)
  have r9 := R_eq z8
  refine r_copy (K2 := 24) (n := 90) (K := 24) S X (Nat.le_of_ble_eq_true rfl) rfl (Nat.le_of_ble_eq_true rfl) rfl (fun _ _ _ => rfl) (fun _ _ _ => rfl) hl.1 kw13 kw10 kw11 kw12 (by omega) (by omega) (by omega) ⟨Nat.le_of_ble_eq_true rfl, by decide⟩ dX3_copyFrom_15 (fun t11 H lc C12 X10 => ?_)
  have I13 := Inv_cp (K := 24) (K2 := 24) hI C12 rfl rfl (fun _ _ h => h)
  have F14 : Fr [(40, 4), (40, 5), (40, 6), (40, 7), (40, 8), (40, 9), (40, 10)] [41, 42, 43, 44] τ t11 := Fr_cp Fr_rfl C12 (by decide)
  refine r_aload_n S dX3_copyFrom_18 rfl (lv_at hl 1 rfl) ?_
  refine r_get (K := 23) (v := .ref (G.2.2.2.1 32)) S X10 (Nat.le_of_ble_eq_true rfl) rfl lk3_15_3 (fun _ => ⟨_, rfl, rfl⟩) dX3_copyFrom_19 ?_
  refine r_iconst S dX3_copyFrom_22 (by decide) (fun v15 z16 => ?_)
  have r17 := R_eq z16
  refine r_aload_n S dX3_copyFrom_23 rfl (lv_at hl 0 rfl) ?_
  refine r_get (K := 23) (v := .ref (G.2.2.2.1 42)) S X10 (Nat.le_of_ble_eq_true rfl) rfl lk3_15_3 (fun _ => ⟨_, rfl, rfl⟩) dX3_copyFrom_24 ?_
  refine r_iconst S dX3_copyFrom_27 (by decide) (fun v18 z19 => ?_)
  have r20 := R_eq z19
  refine r_aload_n S dX3_copyFrom_28 rfl (lv_at hl 0 rfl) ?_
  refine r_get (K := 23) (v := .ref (G.2.2.2.1 42)) S X10 (Nat.le_of_ble_eq_true rfl) rfl lk3_15_3 (fun _ => ⟨_, rfl, rfl⟩) dX3_copyFrom_29 ?_
  refine r_alen (x := (0, .inl fun _ => 0)) (n := 90) (K := 25) (t0 := 0) S X10 (Nat.le_of_ble_eq_true rfl) rfl (fun _ => ⟨_, rfl⟩) rfl (by decide) dX3_copyFrom_32 (fun v21 z22 => ?_)
  have r23 := R_eq z22
  refine r_copy (K2 := 25) (n := 90) (K := 25) S X10 (Nat.le_of_ble_eq_true rfl) rfl (Nat.le_of_ble_eq_true rfl) rfl (fun _ _ _ => rfl) (fun _ _ _ => rfl) hl.1 kw13 kw10 kw11 kw12 (by omega) (by omega) (by omega) ⟨Nat.le_of_ble_eq_true rfl, by decide⟩ dX3_copyFrom_33 (fun t25 H lc C26 X24 => ?_)
  have I27 := Inv_cp (K := 25) (K2 := 25) I13 C26 rfl rfl (fun _ _ h => h)
  have F28 : Fr [(40, 4), (40, 5), (40, 6), (40, 7), (40, 8), (40, 9), (40, 10)] [41, 42, 43, 44] τ t25 := Fr_cp F14 C26 (by decide)
  refine r_aload_n S dX3_copyFrom_36 rfl (lv_at hl 1 rfl) ?_
  refine r_get (K := 23) (v := .ref (G.2.2.2.1 33)) S X24 (Nat.le_of_ble_eq_true rfl) rfl lk3_18_3 (fun _ => ⟨_, rfl, rfl⟩) dX3_copyFrom_37 ?_
  refine r_iconst S dX3_copyFrom_40 (by decide) (fun v29 z30 => ?_)
  have r31 := R_eq z30
  refine r_aload_n S dX3_copyFrom_41 rfl (lv_at hl 0 rfl) ?_
  refine r_get (K := 23) (v := .ref (G.2.2.2.1 43)) S X24 (Nat.le_of_ble_eq_true rfl) rfl lk3_18_3 (fun _ => ⟨_, rfl, rfl⟩) dX3_copyFrom_42 ?_
  refine r_iconst S dX3_copyFrom_45 (by decide) (fun v32 z33 => ?_)
  have r34 := R_eq z33
  refine r_aload_n S dX3_copyFrom_46 rfl (lv_at hl 0 rfl) ?_
  refine r_get (K := 23) (v := .ref (G.2.2.2.1 43)) S X24 (Nat.le_of_ble_eq_true rfl) rfl lk3_18_3 (fun _ => ⟨_, rfl, rfl⟩) dX3_copyFrom_47 ?_
  refine r_alen (x := (0, .inl fun _ => 0)) (n := 10) (K := 26) (t0 := 0) S X24 (Nat.le_of_ble_eq_true rfl) rfl (fun _ => ⟨_, rfl⟩) rfl (by decide) dX3_copyFrom_50 (fun v35 z36 => ?_)
  have r37 := R_eq z36
  refine r_copy (K2 := 26) (n := 10) (K := 26) S X24 (Nat.le_of_ble_eq_true rfl) rfl (Nat.le_of_ble_eq_true rfl) rfl (fun _ _ _ => rfl) (fun _ _ _ => rfl) hl.1 kw13 kw10 kw11 kw12 (by omega) (by omega) (by omega) ⟨Nat.le_of_ble_eq_true rfl, by decide⟩ dX3_copyFrom_51 (fun t39 H lc C40 X38 => ?_)
  have I41 := Inv_cp (K := 26) (K2 := 26) I27 C40 rfl rfl (fun _ _ h => h)
  have F42 : Fr [(40, 4), (40, 5), (40, 6), (40, 7), (40, 8), (40, 9), (40, 10)] [41, 42, 43, 44] τ t39 := Fr_cp F28 C40 (by decide)
  refine r_aload_n S dX3_copyFrom_54 rfl (lv_at hl 1 rfl) ?_
  refine r_get (K := 23) (v := .ref (G.2.2.2.1 34)) S X38 (Nat.le_of_ble_eq_true rfl) rfl lk3_21_3 (fun _ => ⟨_, rfl, rfl⟩) dX3_copyFrom_55 ?_
  refine r_iconst S dX3_copyFrom_58 (by decide) (fun v43 z44 => ?_)
  have r45 := R_eq z44
  refine r_aload_n S dX3_copyFrom_59 rfl (lv_at hl 0 rfl) ?_
  refine r_get (K := 23) (v := .ref (G.2.2.2.1 44)) S X38 (Nat.le_of_ble_eq_true rfl) rfl lk3_21_3 (fun _ => ⟨_, rfl, rfl⟩) dX3_copyFrom_60 ?_
  refine r_iconst S dX3_copyFrom_63 (by decide) (fun v46 z47 => ?_)
  have r48 := R_eq z47
  refine r_aload_n S dX3_copyFrom_64 rfl (lv_at hl 0 rfl) ?_
  refine r_get (K := 23) (v := .ref (G.2.2.2.1 44)) S X38 (Nat.le_of_ble_eq_true rfl) rfl lk3_21_3 (fun _ => ⟨_, rfl, rfl⟩) dX3_copyFrom_65 ?_
  refine r_alen (x := (0, .inl fun _ => 0)) (n := 10) (K := 27) (t0 := 0) S X38 (Nat.le_of_ble_eq_true rfl) rfl (fun _ => ⟨_, rfl⟩) rfl (by decide) dX3_copyFrom_68 (fun v49 z50 => ?_)
  have r51 := R_eq z50
  refine r_copy (K2 := 27) (n := 10) (K := 27) S X38 (Nat.le_of_ble_eq_true rfl) rfl (Nat.le_of_ble_eq_true rfl) rfl (fun _ _ _ => rfl) (fun _ _ _ => rfl) hl.1 kw13 kw10 kw11 kw12 (by omega) (by omega) (by omega) ⟨Nat.le_of_ble_eq_true rfl, by decide⟩ dX3_copyFrom_69 (fun t53 H lc C54 X52 => ?_)
  have I55 := Inv_cp (K := 27) (K2 := 27) I41 C54 rfl rfl (fun _ _ h => h)
  have F56 : Fr [(40, 4), (40, 5), (40, 6), (40, 7), (40, 8), (40, 9), (40, 10)] [41, 42, 43, 44] τ t53 := Fr_cp F42 C54 (by decide)
  refine r_aload_n S dX3_copyFrom_72 rfl (lv_at hl 0 rfl) ?_
  refine r_aload_n S dX3_copyFrom_73 rfl (lv_at hl 1 rfl) ?_
  refine r_getn (K := 23) S X52 (Nat.le_of_ble_eq_true rfl) rfl lk3_45_3 (fun _ => ⟨_, rfl, rfl⟩) dX3_copyFrom_74 (fun v57 z58 => ?_)
  have r59 : R (0) (1023) v57 := rd I55 rfl z58
  refine r_put (K := 23) (ty := .int) S X52 (Nat.le_of_ble_eq_true rfl) rfl lk3_45_3 (fun _ => ⟨_, rfl, Nat.le_of_ble_eq_true rfl, rfl⟩) (fun _ _ _ h => by cases h; exact ⟨rfl, rfl⟩) rfl rfl dX3_copyFrom_77 (fun t60 H lc M61 X62 => ?_)
  have I63 := Inv_mu I55 M61 (show Rg (kd 40) 4 v57 from (R_of (lo := 0) (hi := 1023) r59 rfl))
  have F64 : Fr [(40, 4), (40, 5), (40, 6), (40, 7), (40, 8), (40, 9), (40, 10)] [41, 42, 43, 44] τ t60 := Fr_mu F56 M61 (by decide)
  refine r_aload_n S dX3_copyFrom_80 rfl (lv_at hl 0 rfl) ?_
  refine r_aload_n S dX3_copyFrom_81 rfl (lv_at hl 1 rfl) ?_
  refine r_getn (K := 23) S X62 (Nat.le_of_ble_eq_true rfl) rfl lk3_48_3 (fun _ => ⟨_, rfl, rfl⟩) dX3_copyFrom_82 (fun v65 z66 => ?_)
  have r67 : R (0) (1) v65 := rd I63 rfl z66
  refine r_put (K := 23) (ty := .int) S X62 (Nat.le_of_ble_eq_true rfl) rfl lk3_48_3 (fun _ => ⟨_, rfl, Nat.le_of_ble_eq_true rfl, rfl⟩) (fun _ _ _ h => by cases h; exact ⟨rfl, rfl⟩) rfl rfl dX3_copyFrom_85 (fun t68 H lc M69 X70 => ?_)
  have I71 := Inv_mu I63 M69 (show Rg (kd 40) 5 v65 from (R_of (lo := 0) (hi := 1) r67 rfl))
  have F72 : Fr [(40, 4), (40, 5), (40, 6), (40, 7), (40, 8), (40, 9), (40, 10)] [41, 42, 43, 44] τ t68 := Fr_mu F64 M69 (by decide)
  refine r_aload_n S dX3_copyFrom_88 rfl (lv_at hl 0 rfl) ?_
  refine r_aload_n S dX3_copyFrom_89 rfl (lv_at hl 1 rfl) ?_
  refine r_getn (K := 23) S X70 (Nat.le_of_ble_eq_true rfl) rfl lk3_51_3 (fun _ => ⟨_, rfl, rfl⟩) dX3_copyFrom_90 (fun v73 z74 => ?_)
  have r75 : R (0) (1023) v73 := rd I71 rfl z74
  refine r_put (K := 23) (ty := .int) S X70 (Nat.le_of_ble_eq_true rfl) rfl lk3_51_3 (fun _ => ⟨_, rfl, Nat.le_of_ble_eq_true rfl, rfl⟩) (fun _ _ _ h => by cases h; exact ⟨rfl, rfl⟩) rfl rfl dX3_copyFrom_93 (fun t76 H lc M77 X78 => ?_)
  have I79 := Inv_mu I71 M77 (show Rg (kd 40) 6 v73 from (R_of (lo := 0) (hi := 1023) r75 rfl))
  have F80 : Fr [(40, 4), (40, 5), (40, 6), (40, 7), (40, 8), (40, 9), (40, 10)] [41, 42, 43, 44] τ t76 := Fr_mu F72 M77 (by decide)
  refine r_aload_n S dX3_copyFrom_96 rfl (lv_at hl 0 rfl) ?_
  refine r_aload_n S dX3_copyFrom_97 rfl (lv_at hl 1 rfl) ?_
  refine r_getn (K := 23) S X78 (Nat.le_of_ble_eq_true rfl) rfl lk3_54_3 (fun _ => ⟨_, rfl, rfl⟩) dX3_copyFrom_98 (fun v81 z82 => ?_)
  have r83 : R (0) (1023) v81 := rd I79 rfl z82
  refine r_put (K := 23) (ty := .int) S X78 (Nat.le_of_ble_eq_true rfl) rfl lk3_54_3 (fun _ => ⟨_, rfl, Nat.le_of_ble_eq_true rfl, rfl⟩) (fun _ _ _ h => by cases h; exact ⟨rfl, rfl⟩) rfl rfl dX3_copyFrom_101 (fun t84 H lc M85 X86 => ?_)
  have I87 := Inv_mu I79 M85 (show Rg (kd 40) 7 v81 from (R_of (lo := 0) (hi := 1023) r83 rfl))
  have F88 : Fr [(40, 4), (40, 5), (40, 6), (40, 7), (40, 8), (40, 9), (40, 10)] [41, 42, 43, 44] τ t84 := Fr_mu F80 M85 (by decide)
  refine r_aload_n S dX3_copyFrom_104 rfl (lv_at hl 0 rfl) ?_
  refine r_aload_n S dX3_copyFrom_105 rfl (lv_at hl 1 rfl) ?_
  refine r_getn (K := 23) S X86 (Nat.le_of_ble_eq_true rfl) rfl lk3_24_3 (fun _ => ⟨_, rfl, rfl⟩) dX3_copyFrom_106 (fun v89 z90 => ?_)
  have r91 : R (-1) (8) v89 := rd I87 rfl z90
  refine r_put (K := 23) (ty := .int) S X86 (Nat.le_of_ble_eq_true rfl) rfl lk3_24_3 (fun _ => ⟨_, rfl, Nat.le_of_ble_eq_true rfl, rfl⟩) (fun _ _ _ h => by cases h; exact ⟨rfl, rfl⟩) rfl rfl dX3_copyFrom_109 (fun t92 H lc M93 X94 => ?_)
  have I95 := Inv_mu I87 M93 (show Rg (kd 40) 8 v89 from (R_of (lo := -1) (hi := 8) r91 rfl))
  have F96 : Fr [(40, 4), (40, 5), (40, 6), (40, 7), (40, 8), (40, 9), (40, 10)] [41, 42, 43, 44] τ t92 := Fr_mu F88 M93 (by decide)
  refine r_aload_n S dX3_copyFrom_112 rfl (lv_at hl 0 rfl) ?_
  refine r_aload_n S dX3_copyFrom_113 rfl (lv_at hl 1 rfl) ?_
  refine r_getn (K := 23) S X94 (Nat.le_of_ble_eq_true rfl) rfl lk3_60_3 (fun _ => ⟨_, rfl, rfl⟩) dX3_copyFrom_114 (fun v97 z98 => ?_)
  have r100 := R_any v97
  refine r_put (K := 23) (ty := .int) S X94 (Nat.le_of_ble_eq_true rfl) rfl lk3_60_3 (fun _ => ⟨_, rfl, Nat.le_of_ble_eq_true rfl, rfl⟩) (fun _ _ _ h => by cases h; exact ⟨rfl, rfl⟩) rfl rfl dX3_copyFrom_117 (fun t101 H lc M102 X103 => ?_)
  have I104 := Inv_mu I95 M102 (R_any v97)
  have F105 : Fr [(40, 4), (40, 5), (40, 6), (40, 7), (40, 8), (40, 9), (40, 10)] [41, 42, 43, 44] τ t101 := Fr_mu F96 M102 (by decide)
  refine r_aload_n S dX3_copyFrom_120 rfl (lv_at hl 0 rfl) ?_
  refine r_aload_n S dX3_copyFrom_121 rfl (lv_at hl 1 rfl) ?_
  refine r_getn (K := 23) S X103 (Nat.le_of_ble_eq_true rfl) rfl lk3_63_3 (fun _ => ⟨_, rfl, rfl⟩) dX3_copyFrom_122 (fun v106 z107 => ?_)
  have r109 := R_any v106
  refine r_put (K := 23) (ty := .int) S X103 (Nat.le_of_ble_eq_true rfl) rfl lk3_63_3 (fun _ => ⟨_, rfl, Nat.le_of_ble_eq_true rfl, rfl⟩) (fun _ _ _ h => by cases h; exact ⟨rfl, rfl⟩) rfl rfl dX3_copyFrom_125 (fun t110 H lc M111 X112 => ?_)
  have I113 := Inv_mu I104 M111 (R_any v106)
  have F114 : Fr [(40, 4), (40, 5), (40, 6), (40, 7), (40, 8), (40, 9), (40, 10)] [41, 42, 43, 44] τ t110 := Fr_mu F105 M111 (by decide)
  exact r_vret S hr hlk X112 ⟨I113, F114, (((M111.2 40 8 (Or.inr (by decide))).trans ((M102.2 40 8 (Or.inr (by decide))).trans M93.1)).trans (((M85.2 30 8 (Or.inl (by decide))).trans ((M77.2 30 8 (Or.inl (by decide))).trans ((M69.2 30 8 (Or.inl (by decide))).trans ((M61.2 30 8 (Or.inl (by decide))).trans ((C54.1 30 (by decide) 8).trans ((C40.1 30 (by decide) 8).trans ((C26.1 30 (by decide) 8).trans ((C12.1 30 (by decide) 8).trans rfl)))))))).symm.trans z90).symm)⟩ dX3_copyFrom_128
def po_scopy_30_40 (τ : Tau)     (u : Tau) : Prop := Inv u ∧ Fr [(30, 4), (30, 5), (30, 6), (30, 7), (30, 8), (30, 9), (30, 10)] [31, 32, 33, 34] τ u ∧ u 30 8 = τ 40 8
set_option maxHeartbeats 4000000 in
set_option maxRecDepth 100000 in
theorem c_scopy_30_40 (l : Launch) (G : Gx) (τ : Tau) (hI : Inv τ) : Cv l G yX3_copyFrom cX3_copyFrom 2 1 60 [.ref (G.2.2.2.1 30), .ref (G.2.2.2.1 40)] τ (po_scopy_30_40 τ    ) := by
  unfold Cv
  refine C_of (own := RX3) (by decide) rfl (Nat.le_of_ble_eq_true rfl) ?_
  intro p e s m below meth c ls S hr hlk X hl
  have hl : lv_has ls 2 [(0, .ref (G.2.2.2.1 30)), (1, .ref (G.2.2.2.1 40))] := hl
  refine r_aload_n S dX3_copyFrom_0 rfl (lv_at hl 1 rfl) ?_
  refine r_get (K := 23) (v := .ref (G.2.2.2.1 41)) S X (Nat.le_of_ble_eq_true rfl) rfl lk3_9_3 (fun _ => ⟨_, rfl, rfl⟩) dX3_copyFrom_1 ?_
  refine r_iconst S dX3_copyFrom_4 (by decide) (fun v1 z2 => ?_)
  have r3 := R_eq z2
  refine r_aload_n S dX3_copyFrom_5 rfl (lv_at hl 0 rfl) ?_
  refine r_get (K := 23) (v := .ref (G.2.2.2.1 31)) S X (Nat.le_of_ble_eq_true rfl) rfl lk3_9_3 (fun _ => ⟨_, rfl, rfl⟩) dX3_copyFrom_6 ?_
  refine r_iconst S dX3_copyFrom_9 (by decide) (fun v4 z5 => ?_)
  have r6 := R_eq z5
  refine r_aload_n S dX3_copyFrom_10 rfl (lv_at hl 0 rfl) ?_
  refine r_get (K := 23) (v := .ref (G.2.2.2.1 31)) S X (Nat.le_of_ble_eq_true rfl) rfl lk3_9_3 (fun _ => ⟨_, rfl, rfl⟩) dX3_copyFrom_11 ?_
  refine r_alen (x := (0, .inl fun _ => 0)) (n := 90) (K := 24) (t0 := 0) S X (Nat.le_of_ble_eq_true rfl) rfl (fun _ => ⟨_, rfl⟩) rfl (by decide) dX3_copyFrom_14 (fun v7 z8 => ?_)
  have r9 := R_eq z8
  refine r_copy (K2 := 24) (n := 90) (K := 24) S X (Nat.le_of_ble_eq_true rfl) rfl (Nat.le_of_ble_eq_true rfl) rfl (fun _ _ _ => rfl) (fun _ _ _ => rfl) hl.1 kw13 kw10 kw11 kw12 (by omega) (by omega) (by omega) ⟨Nat.le_of_ble_eq_true rfl, by decide⟩ dX3_copyFrom_15 (fun t11 H lc C12 X10 => ?_)
  have I13 := Inv_cp (K := 24) (K2 := 24) hI C12 rfl rfl (fun _ _ h => h)
  have F14 : Fr [(30, 4), (30, 5), (30, 6), (30, 7), (30, 8), (30, 9), (30, 10)] [31, 32, 33, 34] τ t11 := Fr_cp Fr_rfl C12 (by decide)
  refine r_aload_n S dX3_copyFrom_18 rfl (lv_at hl 1 rfl) ?_
  refine r_get (K := 23) (v := .ref (G.2.2.2.1 42)) S X10 (Nat.le_of_ble_eq_true rfl) rfl lk3_15_3 (fun _ => ⟨_, rfl, rfl⟩) dX3_copyFrom_19 ?_
  refine r_iconst S dX3_copyFrom_22 (by decide) (fun v15 z16 => ?_)
  have r17 := R_eq z16
  refine r_aload_n S dX3_copyFrom_23 rfl (lv_at hl 0 rfl) ?_
  refine r_get (K := 23) (v := .ref (G.2.2.2.1 32)) S X10 (Nat.le_of_ble_eq_true rfl) rfl lk3_15_3 (fun _ => ⟨_, rfl, rfl⟩) dX3_copyFrom_24 ?_
  refine r_iconst S dX3_copyFrom_27 (by decide) (fun v18 z19 => ?_)
  have r20 := R_eq z19
  refine r_aload_n S dX3_copyFrom_28 rfl (lv_at hl 0 rfl) ?_
  refine r_get (K := 23) (v := .ref (G.2.2.2.1 32)) S X10 (Nat.le_of_ble_eq_true rfl) rfl lk3_15_3 (fun _ => ⟨_, rfl, rfl⟩) dX3_copyFrom_29 ?_
  refine r_alen (x := (0, .inl fun _ => 0)) (n := 90) (K := 25) (t0 := 0) S X10 (Nat.le_of_ble_eq_true rfl) rfl (fun _ => ⟨_, rfl⟩) rfl (by decide) dX3_copyFrom_32 (fun v21 z22 => ?_)
  have r23 := R_eq z22
  refine r_copy (K2 := 25) (n := 90) (K := 25) S X10 (Nat.le_of_ble_eq_true rfl) rfl (Nat.le_of_ble_eq_true rfl) rfl (fun _ _ _ => rfl) (fun _ _ _ => rfl) hl.1 kw13 kw10 kw11 kw12 (by omega) (by omega) (by omega) ⟨Nat.le_of_ble_eq_true rfl, by decide⟩ dX3_copyFrom_33 (fun t25 H lc C26 X24 => ?_)
  have I27 := Inv_cp (K := 25) (K2 := 25) I13 C26 rfl rfl (fun _ _ h => h)
  have F28 : Fr [(30, 4), (30, 5), (30, 6), (30, 7), (30, 8), (30, 9), (30, 10)] [31, 32, 33, 34] τ t25 := Fr_cp F14 C26 (by decide)
  refine r_aload_n S dX3_copyFrom_36 rfl (lv_at hl 1 rfl) ?_
  refine r_get (K := 23) (v := .ref (G.2.2.2.1 43)) S X24 (Nat.le_of_ble_eq_true rfl) rfl lk3_18_3 (fun _ => ⟨_, rfl, rfl⟩) dX3_copyFrom_37 ?_
  refine r_iconst S dX3_copyFrom_40 (by decide) (fun v29 z30 => ?_)
  have r31 := R_eq z30
  refine r_aload_n S dX3_copyFrom_41 rfl (lv_at hl 0 rfl) ?_
  refine r_get (K := 23) (v := .ref (G.2.2.2.1 33)) S X24 (Nat.le_of_ble_eq_true rfl) rfl lk3_18_3 (fun _ => ⟨_, rfl, rfl⟩) dX3_copyFrom_42 ?_
  refine r_iconst S dX3_copyFrom_45 (by decide) (fun v32 z33 => ?_)
  have r34 := R_eq z33
  refine r_aload_n S dX3_copyFrom_46 rfl (lv_at hl 0 rfl) ?_
  refine r_get (K := 23) (v := .ref (G.2.2.2.1 33)) S X24 (Nat.le_of_ble_eq_true rfl) rfl lk3_18_3 (fun _ => ⟨_, rfl, rfl⟩) dX3_copyFrom_47 ?_
  refine r_alen (x := (0, .inl fun _ => 0)) (n := 10) (K := 26) (t0 := 0) S X24 (Nat.le_of_ble_eq_true rfl) rfl (fun _ => ⟨_, rfl⟩) rfl (by decide) dX3_copyFrom_50 (fun v35 z36 => ?_)
  have r37 := R_eq z36
  refine r_copy (K2 := 26) (n := 10) (K := 26) S X24 (Nat.le_of_ble_eq_true rfl) rfl (Nat.le_of_ble_eq_true rfl) rfl (fun _ _ _ => rfl) (fun _ _ _ => rfl) hl.1 kw13 kw10 kw11 kw12 (by omega) (by omega) (by omega) ⟨Nat.le_of_ble_eq_true rfl, by decide⟩ dX3_copyFrom_51 (fun t39 H lc C40 X38 => ?_)
  have I41 := Inv_cp (K := 26) (K2 := 26) I27 C40 rfl rfl (fun _ _ h => h)
  have F42 : Fr [(30, 4), (30, 5), (30, 6), (30, 7), (30, 8), (30, 9), (30, 10)] [31, 32, 33, 34] τ t39 := Fr_cp F28 C40 (by decide)
  refine r_aload_n S dX3_copyFrom_54 rfl (lv_at hl 1 rfl) ?_
  refine r_get (K := 23) (v := .ref (G.2.2.2.1 44)) S X38 (Nat.le_of_ble_eq_true rfl) rfl lk3_21_3 (fun _ => ⟨_, rfl, rfl⟩) dX3_copyFrom_55 ?_
  refine r_iconst S dX3_copyFrom_58 (by decide) (fun v43 z44 => ?_)
  have r45 := R_eq z44
  refine r_aload_n S dX3_copyFrom_59 rfl (lv_at hl 0 rfl) ?_
  refine r_get (K := 23) (v := .ref (G.2.2.2.1 34)) S X38 (Nat.le_of_ble_eq_true rfl) rfl lk3_21_3 (fun _ => ⟨_, rfl, rfl⟩) dX3_copyFrom_60 ?_
  refine r_iconst S dX3_copyFrom_63 (by decide) (fun v46 z47 => ?_)
  have r48 := R_eq z47
  refine r_aload_n S dX3_copyFrom_64 rfl (lv_at hl 0 rfl) ?_
  refine r_get (K := 23) (v := .ref (G.2.2.2.1 34)) S X38 (Nat.le_of_ble_eq_true rfl) rfl lk3_21_3 (fun _ => ⟨_, rfl, rfl⟩) dX3_copyFrom_65 ?_
  refine r_alen (x := (0, .inl fun _ => 0)) (n := 10) (K := 27) (t0 := 0) S X38 (Nat.le_of_ble_eq_true rfl) rfl (fun _ => ⟨_, rfl⟩) rfl (by decide) dX3_copyFrom_68 (fun v49 z50 => ?_)
  have r51 := R_eq z50
  refine r_copy (K2 := 27) (n := 10) (K := 27) S X38 (Nat.le_of_ble_eq_true rfl) rfl (Nat.le_of_ble_eq_true rfl) rfl (fun _ _ _ => rfl) (fun _ _ _ => rfl) hl.1 kw13 kw10 kw11 kw12 (by omega) (by omega) (by omega) ⟨Nat.le_of_ble_eq_true rfl, by decide⟩ dX3_copyFrom_69 (fun t53 H lc C54 X52 => ?_)
  have I55 := Inv_cp (K := 27) (K2 := 27) I41 C54 rfl rfl (fun _ _ h => h)
  have F56 : Fr [(30, 4), (30, 5), (30, 6), (30, 7), (30, 8), (30, 9), (30, 10)] [31, 32, 33, 34] τ t53 := Fr_cp F42 C54 (by decide)
  refine r_aload_n S dX3_copyFrom_72 rfl (lv_at hl 0 rfl) ?_
  refine r_aload_n S dX3_copyFrom_73 rfl (lv_at hl 1 rfl) ?_
  refine r_getn (K := 23) S X52 (Nat.le_of_ble_eq_true rfl) rfl lk3_45_3 (fun _ => ⟨_, rfl, rfl⟩) dX3_copyFrom_74 (fun v57 z58 => ?_)
  have r59 : R (0) (1023) v57 := rd I55 rfl z58
  refine r_put (K := 23) (ty := .int) S X52 (Nat.le_of_ble_eq_true rfl) rfl lk3_45_3 (fun _ => ⟨_, rfl, Nat.le_of_ble_eq_true rfl, rfl⟩) (fun _ _ _ h => by cases h; exact ⟨rfl, rfl⟩) rfl rfl dX3_copyFrom_77 (fun t60 H lc M61 X62 => ?_)
  have I63 := Inv_mu I55 M61 (show Rg (kd 30) 4 v57 from (R_of (lo := 0) (hi := 1023) r59 rfl))
  have F64 : Fr [(30, 4), (30, 5), (30, 6), (30, 7), (30, 8), (30, 9), (30, 10)] [31, 32, 33, 34] τ t60 := Fr_mu F56 M61 (by decide)
  refine r_aload_n S dX3_copyFrom_80 rfl (lv_at hl 0 rfl) ?_
  refine r_aload_n S dX3_copyFrom_81 rfl (lv_at hl 1 rfl) ?_
  refine r_getn (K := 23) S X62 (Nat.le_of_ble_eq_true rfl) rfl lk3_48_3 (fun _ => ⟨_, rfl, rfl⟩) dX3_copyFrom_82 (fun v65 z66 => ?_)
  have r67 : R (0) (1) v65 := rd I63 rfl z66
  refine r_put (K := 23) (ty := .int) S X62 (Nat.le_of_ble_eq_true rfl) rfl lk3_48_3 (fun _ => ⟨_, rfl, Nat.le_of_ble_eq_true rfl, rfl⟩) (fun _ _ _ h => by cases h; exact ⟨rfl, rfl⟩) rfl rfl dX3_copyFrom_85 (fun t68 H lc M69 X70 => ?_)
  have I71 := Inv_mu I63 M69 (show Rg (kd 30) 5 v65 from (R_of (lo := 0) (hi := 1) r67 rfl))
  have F72 : Fr [(30, 4), (30, 5), (30, 6), (30, 7), (30, 8), (30, 9), (30, 10)] [31, 32, 33, 34] τ t68 := Fr_mu F64 M69 (by decide)
  refine r_aload_n S dX3_copyFrom_88 rfl (lv_at hl 0 rfl) ?_
  refine r_aload_n S dX3_copyFrom_89 rfl (lv_at hl 1 rfl) ?_
  refine r_getn (K := 23) S X70 (Nat.le_of_ble_eq_true rfl) rfl lk3_51_3 (fun _ => ⟨_, rfl, rfl⟩) dX3_copyFrom_90 (fun v73 z74 => ?_)
  have r75 : R (0) (1023) v73 := rd I71 rfl z74
  refine r_put (K := 23) (ty := .int) S X70 (Nat.le_of_ble_eq_true rfl) rfl lk3_51_3 (fun _ => ⟨_, rfl, Nat.le_of_ble_eq_true rfl, rfl⟩) (fun _ _ _ h => by cases h; exact ⟨rfl, rfl⟩) rfl rfl dX3_copyFrom_93 (fun t76 H lc M77 X78 => ?_)
  have I79 := Inv_mu I71 M77 (show Rg (kd 30) 6 v73 from (R_of (lo := 0) (hi := 1023) r75 rfl))
  have F80 : Fr [(30, 4), (30, 5), (30, 6), (30, 7), (30, 8), (30, 9), (30, 10)] [31, 32, 33, 34] τ t76 := Fr_mu F72 M77 (by decide)
  refine r_aload_n S dX3_copyFrom_96 rfl (lv_at hl 0 rfl) ?_
  refine r_aload_n S dX3_copyFrom_97 rfl (lv_at hl 1 rfl) ?_
  refine r_getn (K := 23) S X78 (Nat.le_of_ble_eq_true rfl) rfl lk3_54_3 (fun _ => ⟨_, rfl, rfl⟩) dX3_copyFrom_98 (fun v81 z82 => ?_)
  have r83 : R (0) (1023) v81 := rd I79 rfl z82
  refine r_put (K := 23) (ty := .int) S X78 (Nat.le_of_ble_eq_true rfl) rfl lk3_54_3 (fun _ => ⟨_, rfl, Nat.le_of_ble_eq_true rfl, rfl⟩) (fun _ _ _ h => by cases h; exact ⟨rfl, rfl⟩) rfl rfl dX3_copyFrom_101 (fun t84 H lc M85 X86 => ?_)
  have I87 := Inv_mu I79 M85 (show Rg (kd 30) 7 v81 from (R_of (lo := 0) (hi := 1023) r83 rfl))
  have F88 : Fr [(30, 4), (30, 5), (30, 6), (30, 7), (30, 8), (30, 9), (30, 10)] [31, 32, 33, 34] τ t84 := Fr_mu F80 M85 (by decide)
  refine r_aload_n S dX3_copyFrom_104 rfl (lv_at hl 0 rfl) ?_
  refine r_aload_n S dX3_copyFrom_105 rfl (lv_at hl 1 rfl) ?_
  refine r_getn (K := 23) S X86 (Nat.le_of_ble_eq_true rfl) rfl lk3_24_3 (fun _ => ⟨_, rfl, rfl⟩) dX3_copyFrom_106 (fun v89 z90 => ?_)
  have r91 : R (-1) (8) v89 := rd I87 rfl z90
  refine r_put (K := 23) (ty := .int) S X86 (Nat.le_of_ble_eq_true rfl) rfl lk3_24_3 (fun _ => ⟨_, rfl, Nat.le_of_ble_eq_true rfl, rfl⟩) (fun _ _ _ h => by cases h; exact ⟨rfl, rfl⟩) rfl rfl dX3_copyFrom_109 (fun t92 H lc M93 X94 => ?_)
  have I95 := Inv_mu I87 M93 (show Rg (kd 30) 8 v89 from (R_of (lo := -1) (hi := 8) r91 rfl))
  have F96 : Fr [(30, 4), (30, 5), (30, 6), (30, 7), (30, 8), (30, 9), (30, 10)] [31, 32, 33, 34] τ t92 := Fr_mu F88 M93 (by decide)
  refine r_aload_n S dX3_copyFrom_112 rfl (lv_at hl 0 rfl) ?_
  refine r_aload_n S dX3_copyFrom_113 rfl (lv_at hl 1 rfl) ?_
  refine r_getn (K := 23) S X94 (Nat.le_of_ble_eq_true rfl) rfl lk3_60_3 (fun _ => ⟨_, rfl, rfl⟩) dX3_copyFrom_114 (fun v97 z98 => ?_)
  have r100 := R_any v97
  refine r_put (K := 23) (ty := .int) S X94 (Nat.le_of_ble_eq_true rfl) rfl lk3_60_3 (fun _ => ⟨_, rfl, Nat.le_of_ble_eq_true rfl, rfl⟩) (fun _ _ _ h => by cases h; exact ⟨rfl, rfl⟩) rfl rfl dX3_copyFrom_117 (fun t101 H lc M102 X103 => ?_)
  have I104 := Inv_mu I95 M102 (R_any v97)
  have F105 : Fr [(30, 4), (30, 5), (30, 6), (30, 7), (30, 8), (30, 9), (30, 10)] [31, 32, 33, 34] τ t101 := Fr_mu F96 M102 (by decide)
  refine r_aload_n S dX3_copyFrom_120 rfl (lv_at hl 0 rfl) ?_
  refine r_aload_n S dX3_copyFrom_121 rfl (lv_at hl 1 rfl) ?_
  refine r_getn (K := 23) S X103 (Nat.le_of_ble_eq_true rfl) rfl lk3_63_3 (fun _ => ⟨_, rfl, rfl⟩) dX3_copyFrom_122 (fun v106 z107 => ?_)
  have r109 := R_any v106
  refine r_put (K := 23) (ty := .int) S X103 (Nat.le_of_ble_eq_true rfl) rfl lk3_63_3 (fun _ => ⟨_, rfl, Nat.le_of_ble_eq_true rfl, rfl⟩) (fun _ _ _ h => by cases h; exact ⟨rfl, rfl⟩) rfl rfl dX3_copyFrom_125 (fun t110 H lc M111 X112 => ?_)
  have I113 := Inv_mu I104 M111 (R_any v106)
  have F114 : Fr [(30, 4), (30, 5), (30, 6), (30, 7), (30, 8), (30, 9), (30, 10)] [31, 32, 33, 34] τ t110 := Fr_mu F105 M111 (by decide)
  exact r_vret S hr hlk X112 ⟨I113, F114, (((M111.2 30 8 (Or.inr (by decide))).trans ((M102.2 30 8 (Or.inr (by decide))).trans M93.1)).trans (((M85.2 40 8 (Or.inl (by decide))).trans ((M77.2 40 8 (Or.inl (by decide))).trans ((M69.2 40 8 (Or.inl (by decide))).trans ((M61.2 40 8 (Or.inl (by decide))).trans ((C54.1 40 (by decide) 8).trans ((C40.1 40 (by decide) 8).trans ((C26.1 40 (by decide) 8).trans ((C12.1 40 (by decide) 8).trans rfl)))))))).symm.trans z90).symm)⟩ dX3_copyFrom_128
def po_scopy_101_30 (τ : Tau)     (u : Tau) : Prop := Inv u ∧ Fr [(101, 4), (101, 5), (101, 6), (101, 7), (101, 8), (101, 9), (101, 10)] [102, 103, 104, 105] τ u ∧ u 101 8 = τ 30 8
set_option maxHeartbeats 4000000 in
set_option maxRecDepth 100000 in
theorem c_scopy_101_30 (l : Launch) (G : Gx) (τ : Tau) (hI : Inv τ) : Cv l G yX3_copyFrom cX3_copyFrom 2 1 60 [.ref (G.2.2.2.1 101), .ref (G.2.2.2.1 30)] τ (po_scopy_101_30 τ    ) := by
  unfold Cv
  refine C_of (own := RX3) (by decide) rfl (Nat.le_of_ble_eq_true rfl) ?_
  intro p e s m below meth c ls S hr hlk X hl
  have hl : lv_has ls 2 [(0, .ref (G.2.2.2.1 101)), (1, .ref (G.2.2.2.1 30))] := hl
  refine r_aload_n S dX3_copyFrom_0 rfl (lv_at hl 1 rfl) ?_
  refine r_get (K := 23) (v := .ref (G.2.2.2.1 31)) S X (Nat.le_of_ble_eq_true rfl) rfl lk3_9_3 (fun _ => ⟨_, rfl, rfl⟩) dX3_copyFrom_1 ?_
  refine r_iconst S dX3_copyFrom_4 (by decide) (fun v1 z2 => ?_)
  have r3 := R_eq z2
  refine r_aload_n S dX3_copyFrom_5 rfl (lv_at hl 0 rfl) ?_
  refine r_get (K := 23) (v := .ref (G.2.2.2.1 102)) S X (Nat.le_of_ble_eq_true rfl) rfl lk3_9_3 (fun _ => ⟨_, rfl, rfl⟩) dX3_copyFrom_6 ?_
  refine r_iconst S dX3_copyFrom_9 (by decide) (fun v4 z5 => ?_)
  have r6 := R_eq z5
  refine r_aload_n S dX3_copyFrom_10 rfl (lv_at hl 0 rfl) ?_
  refine r_get (K := 23) (v := .ref (G.2.2.2.1 102)) S X (Nat.le_of_ble_eq_true rfl) rfl lk3_9_3 (fun _ => ⟨_, rfl, rfl⟩) dX3_copyFrom_11 ?_
  refine r_alen (x := (0, .inl fun _ => 0)) (n := 90) (K := 24) (t0 := 0) S X (Nat.le_of_ble_eq_true rfl) rfl (fun _ => ⟨_, rfl⟩) rfl (by decide) dX3_copyFrom_14 (fun v7 z8 => ?_)
  have r9 := R_eq z8
  refine r_copy (K2 := 24) (n := 90) (K := 24) S X (Nat.le_of_ble_eq_true rfl) rfl (Nat.le_of_ble_eq_true rfl) rfl (fun _ _ _ => rfl) (fun _ _ _ => rfl) hl.1 kw13 kw10 kw11 kw12 (by omega) (by omega) (by omega) ⟨Nat.le_of_ble_eq_true rfl, by decide⟩ dX3_copyFrom_15 (fun t11 H lc C12 X10 => ?_)
  have I13 := Inv_cp (K := 24) (K2 := 24) hI C12 rfl rfl (fun _ _ h => h)
  have F14 : Fr [(101, 4), (101, 5), (101, 6), (101, 7), (101, 8), (101, 9), (101, 10)] [102, 103, 104, 105] τ t11 := Fr_cp Fr_rfl C12 (by decide)
  refine r_aload_n S dX3_copyFrom_18 rfl (lv_at hl 1 rfl) ?_
  refine r_get (K := 23) (v := .ref (G.2.2.2.1 32)) S X10 (Nat.le_of_ble_eq_true rfl) rfl lk3_15_3 (fun _ => ⟨_, rfl, rfl⟩) dX3_copyFrom_19 ?_
  refine r_iconst S dX3_copyFrom_22 (by decide) (fun v15 z16 => ?_)
  have r17 := R_eq z16
  refine r_aload_n S dX3_copyFrom_23 rfl (lv_at hl 0 rfl) ?_
  refine r_get (K := 23) (v := .ref (G.2.2.2.1 103)) S X10 (Nat.le_of_ble_eq_true rfl) rfl lk3_15_3 (fun _ => ⟨_, rfl, rfl⟩) dX3_copyFrom_24 ?_
  refine r_iconst S dX3_copyFrom_27 (by decide) (fun v18 z19 => ?_)
  have r20 := R_eq z19
  refine r_aload_n S dX3_copyFrom_28 rfl (lv_at hl 0 rfl) ?_
  refine r_get (K := 23) (v := .ref (G.2.2.2.1 103)) S X10 (Nat.le_of_ble_eq_true rfl) rfl lk3_15_3 (fun _ => ⟨_, rfl, rfl⟩) dX3_copyFrom_29 ?_
  refine r_alen (x := (0, .inl fun _ => 0)) (n := 90) (K := 25) (t0 := 0) S X10 (Nat.le_of_ble_eq_true rfl) rfl (fun _ => ⟨_, rfl⟩) rfl (by decide) dX3_copyFrom_32 (fun v21 z22 => ?_)
  have r23 := R_eq z22
  refine r_copy (K2 := 25) (n := 90) (K := 25) S X10 (Nat.le_of_ble_eq_true rfl) rfl (Nat.le_of_ble_eq_true rfl) rfl (fun _ _ _ => rfl) (fun _ _ _ => rfl) hl.1 kw13 kw10 kw11 kw12 (by omega) (by omega) (by omega) ⟨Nat.le_of_ble_eq_true rfl, by decide⟩ dX3_copyFrom_33 (fun t25 H lc C26 X24 => ?_)
  have I27 := Inv_cp (K := 25) (K2 := 25) I13 C26 rfl rfl (fun _ _ h => h)
  have F28 : Fr [(101, 4), (101, 5), (101, 6), (101, 7), (101, 8), (101, 9), (101, 10)] [102, 103, 104, 105] τ t25 := Fr_cp F14 C26 (by decide)
  refine r_aload_n S dX3_copyFrom_36 rfl (lv_at hl 1 rfl) ?_
  refine r_get (K := 23) (v := .ref (G.2.2.2.1 33)) S X24 (Nat.le_of_ble_eq_true rfl) rfl lk3_18_3 (fun _ => ⟨_, rfl, rfl⟩) dX3_copyFrom_37 ?_
  refine r_iconst S dX3_copyFrom_40 (by decide) (fun v29 z30 => ?_)
  have r31 := R_eq z30
  refine r_aload_n S dX3_copyFrom_41 rfl (lv_at hl 0 rfl) ?_
  refine r_get (K := 23) (v := .ref (G.2.2.2.1 104)) S X24 (Nat.le_of_ble_eq_true rfl) rfl lk3_18_3 (fun _ => ⟨_, rfl, rfl⟩) dX3_copyFrom_42 ?_
  refine r_iconst S dX3_copyFrom_45 (by decide) (fun v32 z33 => ?_)
  have r34 := R_eq z33
  refine r_aload_n S dX3_copyFrom_46 rfl (lv_at hl 0 rfl) ?_
  refine r_get (K := 23) (v := .ref (G.2.2.2.1 104)) S X24 (Nat.le_of_ble_eq_true rfl) rfl lk3_18_3 (fun _ => ⟨_, rfl, rfl⟩) dX3_copyFrom_47 ?_
  refine r_alen (x := (0, .inl fun _ => 0)) (n := 10) (K := 26) (t0 := 0) S X24 (Nat.le_of_ble_eq_true rfl) rfl (fun _ => ⟨_, rfl⟩) rfl (by decide) dX3_copyFrom_50 (fun v35 z36 => ?_)
  have r37 := R_eq z36
  refine r_copy (K2 := 26) (n := 10) (K := 26) S X24 (Nat.le_of_ble_eq_true rfl) rfl (Nat.le_of_ble_eq_true rfl) rfl (fun _ _ _ => rfl) (fun _ _ _ => rfl) hl.1 kw13 kw10 kw11 kw12 (by omega) (by omega) (by omega) ⟨Nat.le_of_ble_eq_true rfl, by decide⟩ dX3_copyFrom_51 (fun t39 H lc C40 X38 => ?_)
  have I41 := Inv_cp (K := 26) (K2 := 26) I27 C40 rfl rfl (fun _ _ h => h)
  have F42 : Fr [(101, 4), (101, 5), (101, 6), (101, 7), (101, 8), (101, 9), (101, 10)] [102, 103, 104, 105] τ t39 := Fr_cp F28 C40 (by decide)
  refine r_aload_n S dX3_copyFrom_54 rfl (lv_at hl 1 rfl) ?_
  refine r_get (K := 23) (v := .ref (G.2.2.2.1 34)) S X38 (Nat.le_of_ble_eq_true rfl) rfl lk3_21_3 (fun _ => ⟨_, rfl, rfl⟩) dX3_copyFrom_55 ?_
  refine r_iconst S dX3_copyFrom_58 (by decide) (fun v43 z44 => ?_)
  have r45 := R_eq z44
  refine r_aload_n S dX3_copyFrom_59 rfl (lv_at hl 0 rfl) ?_
  refine r_get (K := 23) (v := .ref (G.2.2.2.1 105)) S X38 (Nat.le_of_ble_eq_true rfl) rfl lk3_21_3 (fun _ => ⟨_, rfl, rfl⟩) dX3_copyFrom_60 ?_
  refine r_iconst S dX3_copyFrom_63 (by decide) (fun v46 z47 => ?_)
  have r48 := R_eq z47
  refine r_aload_n S dX3_copyFrom_64 rfl (lv_at hl 0 rfl) ?_
  refine r_get (K := 23) (v := .ref (G.2.2.2.1 105)) S X38 (Nat.le_of_ble_eq_true rfl) rfl lk3_21_3 (fun _ => ⟨_, rfl, rfl⟩) dX3_copyFrom_65 ?_
  refine r_alen (x := (0, .inl fun _ => 0)) (n := 10) (K := 27) (t0 := 0) S X38 (Nat.le_of_ble_eq_true rfl) rfl (fun _ => ⟨_, rfl⟩) rfl (by decide) dX3_copyFrom_68 (fun v49 z50 => ?_)
  have r51 := R_eq z50
  refine r_copy (K2 := 27) (n := 10) (K := 27) S X38 (Nat.le_of_ble_eq_true rfl) rfl (Nat.le_of_ble_eq_true rfl) rfl (fun _ _ _ => rfl) (fun _ _ _ => rfl) hl.1 kw13 kw10 kw11 kw12 (by omega) (by omega) (by omega) ⟨Nat.le_of_ble_eq_true rfl, by decide⟩ dX3_copyFrom_69 (fun t53 H lc C54 X52 => ?_)
  have I55 := Inv_cp (K := 27) (K2 := 27) I41 C54 rfl rfl (fun _ _ h => h)
  have F56 : Fr [(101, 4), (101, 5), (101, 6), (101, 7), (101, 8), (101, 9), (101, 10)] [102, 103, 104, 105] τ t53 := Fr_cp F42 C54 (by decide)
  refine r_aload_n S dX3_copyFrom_72 rfl (lv_at hl 0 rfl) ?_
  refine r_aload_n S dX3_copyFrom_73 rfl (lv_at hl 1 rfl) ?_
  refine r_getn (K := 23) S X52 (Nat.le_of_ble_eq_true rfl) rfl lk3_45_3 (fun _ => ⟨_, rfl, rfl⟩) dX3_copyFrom_74 (fun v57 z58 => ?_)
  have r59 : R (0) (1023) v57 := rd I55 rfl z58
  refine r_put (K := 23) (ty := .int) S X52 (Nat.le_of_ble_eq_true rfl) rfl lk3_45_3 (fun _ => ⟨_, rfl, Nat.le_of_ble_eq_true rfl, rfl⟩) (fun _ _ _ h => by cases h; exact ⟨rfl, rfl⟩) rfl rfl dX3_copyFrom_77 (fun t60 H lc M61 X62 => ?_)
  have I63 := Inv_mu I55 M61 (show Rg (kd 101) 4 v57 from (R_of (lo := 0) (hi := 1023) r59 rfl))
  have F64 : Fr [(101, 4), (101, 5), (101, 6), (101, 7), (101, 8), (101, 9), (101, 10)] [102, 103, 104, 105] τ t60 := Fr_mu F56 M61 (by decide)
  refine r_aload_n S dX3_copyFrom_80 rfl (lv_at hl 0 rfl) ?_
  refine r_aload_n S dX3_copyFrom_81 rfl (lv_at hl 1 rfl) ?_
  refine r_getn (K := 23) S X62 (Nat.le_of_ble_eq_true rfl) rfl lk3_48_3 (fun _ => ⟨_, rfl, rfl⟩) dX3_copyFrom_82 (fun v65 z66 => ?_)
  have r67 : R (0) (1) v65 := rd I63 rfl z66
  refine r_put (K := 23) (ty := .int) S X62 (Nat.le_of_ble_eq_true rfl) rfl lk3_48_3 (fun _ => ⟨_, rfl, Nat.le_of_ble_eq_true rfl, rfl⟩) (fun _ _ _ h => by cases h; exact ⟨rfl, rfl⟩) rfl rfl dX3_copyFrom_85 (fun t68 H lc M69 X70 => ?_)
  have I71 := Inv_mu I63 M69 (show Rg (kd 101) 5 v65 from (R_of (lo := 0) (hi := 1) r67 rfl))
  have F72 : Fr [(101, 4), (101, 5), (101, 6), (101, 7), (101, 8), (101, 9), (101, 10)] [102, 103, 104, 105] τ t68 := Fr_mu F64 M69 (by decide)
  refine r_aload_n S dX3_copyFrom_88 rfl (lv_at hl 0 rfl) ?_
  refine r_aload_n S dX3_copyFrom_89 rfl (lv_at hl 1 rfl) ?_
  refine r_getn (K := 23) S X70 (Nat.le_of_ble_eq_true rfl) rfl lk3_51_3 (fun _ => ⟨_, rfl, rfl⟩) dX3_copyFrom_90 (fun v73 z74 => ?_)
  have r75 : R (0) (1023) v73 := rd I71 rfl z74
  refine r_put (K := 23) (ty := .int) S X70 (Nat.le_of_ble_eq_true rfl) rfl lk3_51_3 (fun _ => ⟨_, rfl, Nat.le_of_ble_eq_true rfl, rfl⟩) (fun _ _ _ h => by cases h; exact ⟨rfl, rfl⟩) rfl rfl dX3_copyFrom_93 (fun t76 H lc M77 X78 => ?_)
  have I79 := Inv_mu I71 M77 (show Rg (kd 101) 6 v73 from (R_of (lo := 0) (hi := 1023) r75 rfl))
  have F80 : Fr [(101, 4), (101, 5), (101, 6), (101, 7), (101, 8), (101, 9), (101, 10)] [102, 103, 104, 105] τ t76 := Fr_mu F72 M77 (by decide)
  refine r_aload_n S dX3_copyFrom_96 rfl (lv_at hl 0 rfl) ?_
  refine r_aload_n S dX3_copyFrom_97 rfl (lv_at hl 1 rfl) ?_
  refine r_getn (K := 23) S X78 (Nat.le_of_ble_eq_true rfl) rfl lk3_54_3 (fun _ => ⟨_, rfl, rfl⟩) dX3_copyFrom_98 (fun v81 z82 => ?_)
  have r83 : R (0) (1023) v81 := rd I79 rfl z82
  refine r_put (K := 23) (ty := .int) S X78 (Nat.le_of_ble_eq_true rfl) rfl lk3_54_3 (fun _ => ⟨_, rfl, Nat.le_of_ble_eq_true rfl, rfl⟩) (fun _ _ _ h => by cases h; exact ⟨rfl, rfl⟩) rfl rfl dX3_copyFrom_101 (fun t84 H lc M85 X86 => ?_)
  have I87 := Inv_mu I79 M85 (show Rg (kd 101) 7 v81 from (R_of (lo := 0) (hi := 1023) r83 rfl))
  have F88 : Fr [(101, 4), (101, 5), (101, 6), (101, 7), (101, 8), (101, 9), (101, 10)] [102, 103, 104, 105] τ t84 := Fr_mu F80 M85 (by decide)
  refine r_aload_n S dX3_copyFrom_104 rfl (lv_at hl 0 rfl) ?_
  refine r_aload_n S dX3_copyFrom_105 rfl (lv_at hl 1 rfl) ?_
  refine r_getn (K := 23) S X86 (Nat.le_of_ble_eq_true rfl) rfl lk3_24_3 (fun _ => ⟨_, rfl, rfl⟩) dX3_copyFrom_106 (fun v89 z90 => ?_)
  have r91 : R (-1) (8) v89 := rd I87 rfl z90
  refine r_put (K := 23) (ty := .int) S X86 (Nat.le_of_ble_eq_true rfl) rfl lk3_24_3 (fun _ => ⟨_, rfl, Nat.le_of_ble_eq_true rfl, rfl⟩) (fun _ _ _ h => by cases h; exact ⟨rfl, rfl⟩) rfl rfl dX3_copyFrom_109 (fun t92 H lc M93 X94 => ?_)
  have I95 := Inv_mu I87 M93 (show Rg (kd 101) 8 v89 from (R_of (lo := -1) (hi := 8) r91 rfl))
  have F96 : Fr [(101, 4), (101, 5), (101, 6), (101, 7), (101, 8), (101, 9), (101, 10)] [102, 103, 104, 105] τ t92 := Fr_mu F88 M93 (by decide)
  refine r_aload_n S dX3_copyFrom_112 rfl (lv_at hl 0 rfl) ?_
  refine r_aload_n S dX3_copyFrom_113 rfl (lv_at hl 1 rfl) ?_
  refine r_getn (K := 23) S X94 (Nat.le_of_ble_eq_true rfl) rfl lk3_60_3 (fun _ => ⟨_, rfl, rfl⟩) dX3_copyFrom_114 (fun v97 z98 => ?_)
  have r100 := R_any v97
  refine r_put (K := 23) (ty := .int) S X94 (Nat.le_of_ble_eq_true rfl) rfl lk3_60_3 (fun _ => ⟨_, rfl, Nat.le_of_ble_eq_true rfl, rfl⟩) (fun _ _ _ h => by cases h; exact ⟨rfl, rfl⟩) rfl rfl dX3_copyFrom_117 (fun t101 H lc M102 X103 => ?_)
  have I104 := Inv_mu I95 M102 (R_any v97)
  have F105 : Fr [(101, 4), (101, 5), (101, 6), (101, 7), (101, 8), (101, 9), (101, 10)] [102, 103, 104, 105] τ t101 := Fr_mu F96 M102 (by decide)
  refine r_aload_n S dX3_copyFrom_120 rfl (lv_at hl 0 rfl) ?_
  refine r_aload_n S dX3_copyFrom_121 rfl (lv_at hl 1 rfl) ?_
  refine r_getn (K := 23) S X103 (Nat.le_of_ble_eq_true rfl) rfl lk3_63_3 (fun _ => ⟨_, rfl, rfl⟩) dX3_copyFrom_122 (fun v106 z107 => ?_)
  have r109 := R_any v106
  refine r_put (K := 23) (ty := .int) S X103 (Nat.le_of_ble_eq_true rfl) rfl lk3_63_3 (fun _ => ⟨_, rfl, Nat.le_of_ble_eq_true rfl, rfl⟩) (fun _ _ _ h => by cases h; exact ⟨rfl, rfl⟩) rfl rfl dX3_copyFrom_125 (fun t110 H lc M111 X112 => ?_)
  have I113 := Inv_mu I104 M111 (R_any v106)
  have F114 : Fr [(101, 4), (101, 5), (101, 6), (101, 7), (101, 8), (101, 9), (101, 10)] [102, 103, 104, 105] τ t110 := Fr_mu F105 M111 (by decide)
  exact r_vret S hr hlk X112 ⟨I113, F114, (((M111.2 101 8 (Or.inr (by decide))).trans ((M102.2 101 8 (Or.inr (by decide))).trans M93.1)).trans (((M85.2 30 8 (Or.inl (by decide))).trans ((M77.2 30 8 (Or.inl (by decide))).trans ((M69.2 30 8 (Or.inl (by decide))).trans ((M61.2 30 8 (Or.inl (by decide))).trans ((C54.1 30 (by decide) 8).trans ((C40.1 30 (by decide) 8).trans ((C26.1 30 (by decide) 8).trans ((C12.1 30 (by decide) 8).trans rfl)))))))).symm.trans z90).symm)⟩ dX3_copyFrom_128
def po_scopy_119_30 (τ : Tau)     (u : Tau) : Prop := Inv u ∧ Fr [(119, 4), (119, 5), (119, 6), (119, 7), (119, 8), (119, 9), (119, 10)] [120, 121, 122, 123] τ u ∧ u 119 8 = τ 30 8
set_option maxHeartbeats 4000000 in
set_option maxRecDepth 100000 in
theorem c_scopy_119_30 (l : Launch) (G : Gx) (τ : Tau) (hI : Inv τ) : Cv l G yX3_copyFrom cX3_copyFrom 2 1 60 [.ref (G.2.2.2.1 119), .ref (G.2.2.2.1 30)] τ (po_scopy_119_30 τ    ) := by
  unfold Cv
  refine C_of (own := RX3) (by decide) rfl (Nat.le_of_ble_eq_true rfl) ?_
  intro p e s m below meth c ls S hr hlk X hl
  have hl : lv_has ls 2 [(0, .ref (G.2.2.2.1 119)), (1, .ref (G.2.2.2.1 30))] := hl
  refine r_aload_n S dX3_copyFrom_0 rfl (lv_at hl 1 rfl) ?_
  refine r_get (K := 23) (v := .ref (G.2.2.2.1 31)) S X (Nat.le_of_ble_eq_true rfl) rfl lk3_9_3 (fun _ => ⟨_, rfl, rfl⟩) dX3_copyFrom_1 ?_
  refine r_iconst S dX3_copyFrom_4 (by decide) (fun v1 z2 => ?_)
  have r3 := R_eq z2
  refine r_aload_n S dX3_copyFrom_5 rfl (lv_at hl 0 rfl) ?_
  refine r_get (K := 23) (v := .ref (G.2.2.2.1 120)) S X (Nat.le_of_ble_eq_true rfl) rfl lk3_9_3 (fun _ => ⟨_, rfl, rfl⟩) dX3_copyFrom_6 ?_
  refine r_iconst S dX3_copyFrom_9 (by decide) (fun v4 z5 => ?_)
  have r6 := R_eq z5
  refine r_aload_n S dX3_copyFrom_10 rfl (lv_at hl 0 rfl) ?_
  refine r_get (K := 23) (v := .ref (G.2.2.2.1 120)) S X (Nat.le_of_ble_eq_true rfl) rfl lk3_9_3 (fun _ => ⟨_, rfl, rfl⟩) dX3_copyFrom_11 ?_
  refine r_alen (x := (0, .inl fun _ => 0)) (n := 90) (K := 24) (t0 := 0) S X (Nat.le_of_ble_eq_true rfl) rfl (fun _ => ⟨_, rfl⟩) rfl (by decide) dX3_copyFrom_14 (fun v7 z8 => ?_)
  have r9 := R_eq z8
  refine r_copy (K2 := 24) (n := 90) (K := 24) S X (Nat.le_of_ble_eq_true rfl) rfl (Nat.le_of_ble_eq_true rfl) rfl (fun _ _ _ => rfl) (fun _ _ _ => rfl) hl.1 kw13 kw10 kw11 kw12 (by omega) (by omega) (by omega) ⟨Nat.le_of_ble_eq_true rfl, by decide⟩ dX3_copyFrom_15 (fun t11 H lc C12 X10 => ?_)
  have I13 := Inv_cp (K := 24) (K2 := 24) hI C12 rfl rfl (fun _ _ h => h)
  have F14 : Fr [(119, 4), (119, 5), (119, 6), (119, 7), (119, 8), (119, 9), (119, 10)] [120, 121, 122, 123] τ t11 := Fr_cp Fr_rfl C12 (by decide)
  refine r_aload_n S dX3_copyFrom_18 rfl (lv_at hl 1 rfl) ?_
  refine r_get (K := 23) (v := .ref (G.2.2.2.1 32)) S X10 (Nat.le_of_ble_eq_true rfl) rfl lk3_15_3 (fun _ => ⟨_, rfl, rfl⟩) dX3_copyFrom_19 ?_
  refine r_iconst S dX3_copyFrom_22 (by decide) (fun v15 z16 => ?_)
  have r17 := R_eq z16
  refine r_aload_n S dX3_copyFrom_23 rfl (lv_at hl 0 rfl) ?_
  refine r_get (K := 23) (v := .ref (G.2.2.2.1 121)) S X10 (Nat.le_of_ble_eq_true rfl) rfl lk3_15_3 (fun _ => ⟨_, rfl, rfl⟩) dX3_copyFrom_24 ?_
  refine r_iconst S dX3_copyFrom_27 (by decide) (fun v18 z19 => ?_)
  have r20 := R_eq z19
  refine r_aload_n S dX3_copyFrom_28 rfl (lv_at hl 0 rfl) ?_
  refine r_get (K := 23) (v := .ref (G.2.2.2.1 121)) S X10 (Nat.le_of_ble_eq_true rfl) rfl lk3_15_3 (fun _ => ⟨_, rfl, rfl⟩) dX3_copyFrom_29 ?_
  refine r_alen (x := (0, .inl fun _ => 0)) (n := 90) (K := 25) (t0 := 0) S X10 (Nat.le_of_ble_eq_true rfl) rfl (fun _ => ⟨_, rfl⟩) rfl (by decide) dX3_copyFrom_32 (fun v21 z22 => ?_)
  have r23 := R_eq z22
  refine r_copy (K2 := 25) (n := 90) (K := 25) S X10 (Nat.le_of_ble_eq_true rfl) rfl (Nat.le_of_ble_eq_true rfl) rfl (fun _ _ _ => rfl) (fun _ _ _ => rfl) hl.1 kw13 kw10 kw11 kw12 (by omega) (by omega) (by omega) ⟨Nat.le_of_ble_eq_true rfl, by decide⟩ dX3_copyFrom_33 (fun t25 H lc C26 X24 => ?_)
  have I27 := Inv_cp (K := 25) (K2 := 25) I13 C26 rfl rfl (fun _ _ h => h)
  have F28 : Fr [(119, 4), (119, 5), (119, 6), (119, 7), (119, 8), (119, 9), (119, 10)] [120, 121, 122, 123] τ t25 := Fr_cp F14 C26 (by decide)
  refine r_aload_n S dX3_copyFrom_36 rfl (lv_at hl 1 rfl) ?_
  refine r_get (K := 23) (v := .ref (G.2.2.2.1 33)) S X24 (Nat.le_of_ble_eq_true rfl) rfl lk3_18_3 (fun _ => ⟨_, rfl, rfl⟩) dX3_copyFrom_37 ?_
  refine r_iconst S dX3_copyFrom_40 (by decide) (fun v29 z30 => ?_)
  have r31 := R_eq z30
  refine r_aload_n S dX3_copyFrom_41 rfl (lv_at hl 0 rfl) ?_
  refine r_get (K := 23) (v := .ref (G.2.2.2.1 122)) S X24 (Nat.le_of_ble_eq_true rfl) rfl lk3_18_3 (fun _ => ⟨_, rfl, rfl⟩) dX3_copyFrom_42 ?_
  refine r_iconst S dX3_copyFrom_45 (by decide) (fun v32 z33 => ?_)
  have r34 := R_eq z33
  refine r_aload_n S dX3_copyFrom_46 rfl (lv_at hl 0 rfl) ?_
  refine r_get (K := 23) (v := .ref (G.2.2.2.1 122)) S X24 (Nat.le_of_ble_eq_true rfl) rfl lk3_18_3 (fun _ => ⟨_, rfl, rfl⟩) dX3_copyFrom_47 ?_
  refine r_alen (x := (0, .inl fun _ => 0)) (n := 10) (K := 26) (t0 := 0) S X24 (Nat.le_of_ble_eq_true rfl) rfl (fun _ => ⟨_, rfl⟩) rfl (by decide) dX3_copyFrom_50 (fun v35 z36 => ?_)
  have r37 := R_eq z36
  refine r_copy (K2 := 26) (n := 10) (K := 26) S X24 (Nat.le_of_ble_eq_true rfl) rfl (Nat.le_of_ble_eq_true rfl) rfl (fun _ _ _ => rfl) (fun _ _ _ => rfl) hl.1 kw13 kw10 kw11 kw12 (by omega) (by omega) (by omega) ⟨Nat.le_of_ble_eq_true rfl, by decide⟩ dX3_copyFrom_51 (fun t39 H lc C40 X38 => ?_)
  have I41 := Inv_cp (K := 26) (K2 := 26) I27 C40 rfl rfl (fun _ _ h => h)
  have F42 : Fr [(119, 4), (119, 5), (119, 6), (119, 7), (119, 8), (119, 9), (119, 10)] [120, 121, 122, 123] τ t39 := Fr_cp F28 C40 (by decide)
  refine r_aload_n S dX3_copyFrom_54 rfl (lv_at hl 1 rfl) ?_
  refine r_get (K := 23) (v := .ref (G.2.2.2.1 34)) S X38 (Nat.le_of_ble_eq_true rfl) rfl lk3_21_3 (fun _ => ⟨_, rfl, rfl⟩) dX3_copyFrom_55 ?_
  refine r_iconst S dX3_copyFrom_58 (by decide) (fun v43 z44 => ?_)
  have r45 := R_eq z44
  refine r_aload_n S dX3_copyFrom_59 rfl (lv_at hl 0 rfl) ?_
  refine r_get (K := 23) (v := .ref (G.2.2.2.1 123)) S X38 (Nat.le_of_ble_eq_true rfl) rfl lk3_21_3 (fun _ => ⟨_, rfl, rfl⟩) dX3_copyFrom_60 ?_
  refine r_iconst S dX3_copyFrom_63 (by decide) (fun v46 z47 => ?_)
  have r48 := R_eq z47
  refine r_aload_n S dX3_copyFrom_64 rfl (lv_at hl 0 rfl) ?_
  refine r_get (K := 23) (v := .ref (G.2.2.2.1 123)) S X38 (Nat.le_of_ble_eq_true rfl) rfl lk3_21_3 (fun _ => ⟨_, rfl, rfl⟩) dX3_copyFrom_65 ?_
  refine r_alen (x := (0, .inl fun _ => 0)) (n := 10) (K := 27) (t0 := 0) S X38 (Nat.le_of_ble_eq_true rfl) rfl (fun _ => ⟨_, rfl⟩) rfl (by decide) dX3_copyFrom_68 (fun v49 z50 => ?_)
  have r51 := R_eq z50
  refine r_copy (K2 := 27) (n := 10) (K := 27) S X38 (Nat.le_of_ble_eq_true rfl) rfl (Nat.le_of_ble_eq_true rfl) rfl (fun _ _ _ => rfl) (fun _ _ _ => rfl) hl.1 kw13 kw10 kw11 kw12 (by omega) (by omega) (by omega) ⟨Nat.le_of_ble_eq_true rfl, by decide⟩ dX3_copyFrom_69 (fun t53 H lc C54 X52 => ?_)
  have I55 := Inv_cp (K := 27) (K2 := 27) I41 C54 rfl rfl (fun _ _ h => h)
  have F56 : Fr [(119, 4), (119, 5), (119, 6), (119, 7), (119, 8), (119, 9), (119, 10)] [120, 121, 122, 123] τ t53 := Fr_cp F42 C54 (by decide)
  refine r_aload_n S dX3_copyFrom_72 rfl (lv_at hl 0 rfl) ?_
  refine r_aload_n S dX3_copyFrom_73 rfl (lv_at hl 1 rfl) ?_
  refine r_getn (K := 23) S X52 (Nat.le_of_ble_eq_true rfl) rfl lk3_45_3 (fun _ => ⟨_, rfl, rfl⟩) dX3_copyFrom_74 (fun v57 z58 => ?_)
  have r59 : R (0) (1023) v57 := rd I55 rfl z58
  refine r_put (K := 23) (ty := .int) S X52 (Nat.le_of_ble_eq_true rfl) rfl lk3_45_3 (fun _ => ⟨_, rfl, Nat.le_of_ble_eq_true rfl, rfl⟩) (fun _ _ _ h => by cases h; exact ⟨rfl, rfl⟩) rfl rfl dX3_copyFrom_77 (fun t60 H lc M61 X62 => ?_)
  have I63 := Inv_mu I55 M61 (show Rg (kd 119) 4 v57 from (R_of (lo := 0) (hi := 1023) r59 rfl))
  have F64 : Fr [(119, 4), (119, 5), (119, 6), (119, 7), (119, 8), (119, 9), (119, 10)] [120, 121, 122, 123] τ t60 := Fr_mu F56 M61 (by decide)
  refine r_aload_n S dX3_copyFrom_80 rfl (lv_at hl 0 rfl) ?_
  refine r_aload_n S dX3_copyFrom_81 rfl (lv_at hl 1 rfl) ?_
  refine r_getn (K := 23) S X62 (Nat.le_of_ble_eq_true rfl) rfl lk3_48_3 (fun _ => ⟨_, rfl, rfl⟩) dX3_copyFrom_82 (fun v65 z66 => ?_)
  have r67 : R (0) (1) v65 := rd I63 rfl z66
  refine r_put (K := 23) (ty := .int) S X62 (Nat.le_of_ble_eq_true rfl) rfl lk3_48_3 (fun _ => ⟨_, rfl, Nat.le_of_ble_eq_true rfl, rfl⟩) (fun _ _ _ h => by cases h; exact ⟨rfl, rfl⟩) rfl rfl dX3_copyFrom_85 (fun t68 H lc M69 X70 => ?_)
  have I71 := Inv_mu I63 M69 (show Rg (kd 119) 5 v65 from (R_of (lo := 0) (hi := 1) r67 rfl))
  have F72 : Fr [(119, 4), (119, 5), (119, 6), (119, 7), (119, 8), (119, 9), (119, 10)] [120, 121, 122, 123] τ t68 := Fr_mu F64 M69 (by decide)
  refine r_aload_n S dX3_copyFrom_88 rfl (lv_at hl 0 rfl) ?_
  refine r_aload_n S dX3_copyFrom_89 rfl (lv_at hl 1 rfl) ?_
  refine r_getn (K := 23) S X70 (Nat.le_of_ble_eq_true rfl) rfl lk3_51_3 (fun _ => ⟨_, rfl, rfl⟩) dX3_copyFrom_90 (fun v73 z74 => ?_)
  have r75 : R (0) (1023) v73 := rd I71 rfl z74
  refine r_put (K := 23) (ty := .int) S X70 (Nat.le_of_ble_eq_true rfl) rfl lk3_51_3 (fun _ => ⟨_, rfl, Nat.le_of_ble_eq_true rfl, rfl⟩) (fun _ _ _ h => by cases h; exact ⟨rfl, rfl⟩) rfl rfl dX3_copyFrom_93 (fun t76 H lc M77 X78 => ?_)
  have I79 := Inv_mu I71 M77 (show Rg (kd 119) 6 v73 from (R_of (lo := 0) (hi := 1023) r75 rfl))
  have F80 : Fr [(119, 4), (119, 5), (119, 6), (119, 7), (119, 8), (119, 9), (119, 10)] [120, 121, 122, 123] τ t76 := Fr_mu F72 M77 (by decide)
  refine r_aload_n S dX3_copyFrom_96 rfl (lv_at hl 0 rfl) ?_
  refine r_aload_n S dX3_copyFrom_97 rfl (lv_at hl 1 rfl) ?_
  refine r_getn (K := 23) S X78 (Nat.le_of_ble_eq_true rfl) rfl lk3_54_3 (fun _ => ⟨_, rfl, rfl⟩) dX3_copyFrom_98 (fun v81 z82 => ?_)
  have r83 : R (0) (1023) v81 := rd I79 rfl z82
  refine r_put (K := 23) (ty := .int) S X78 (Nat.le_of_ble_eq_true rfl) rfl lk3_54_3 (fun _ => ⟨_, rfl, Nat.le_of_ble_eq_true rfl, rfl⟩) (fun _ _ _ h => by cases h; exact ⟨rfl, rfl⟩) rfl rfl dX3_copyFrom_101 (fun t84 H lc M85 X86 => ?_)
  have I87 := Inv_mu I79 M85 (show Rg (kd 119) 7 v81 from (R_of (lo := 0) (hi := 1023) r83 rfl))
  have F88 : Fr [(119, 4), (119, 5), (119, 6), (119, 7), (119, 8), (119, 9), (119, 10)] [120, 121, 122, 123] τ t84 := Fr_mu F80 M85 (by decide)
  refine r_aload_n S dX3_copyFrom_104 rfl (lv_at hl 0 rfl) ?_
  refine r_aload_n S dX3_copyFrom_105 rfl (lv_at hl 1 rfl) ?_
  refine r_getn (K := 23) S X86 (Nat.le_of_ble_eq_true rfl) rfl lk3_24_3 (fun _ => ⟨_, rfl, rfl⟩) dX3_copyFrom_106 (fun v89 z90 => ?_)
  have r91 : R (-1) (8) v89 := rd I87 rfl z90
  refine r_put (K := 23) (ty := .int) S X86 (Nat.le_of_ble_eq_true rfl) rfl lk3_24_3 (fun _ => ⟨_, rfl, Nat.le_of_ble_eq_true rfl, rfl⟩) (fun _ _ _ h => by cases h; exact ⟨rfl, rfl⟩) rfl rfl dX3_copyFrom_109 (fun t92 H lc M93 X94 => ?_)
  have I95 := Inv_mu I87 M93 (show Rg (kd 119) 8 v89 from (R_of (lo := -1) (hi := 8) r91 rfl))
  have F96 : Fr [(119, 4), (119, 5), (119, 6), (119, 7), (119, 8), (119, 9), (119, 10)] [120, 121, 122, 123] τ t92 := Fr_mu F88 M93 (by decide)
  refine r_aload_n S dX3_copyFrom_112 rfl (lv_at hl 0 rfl) ?_
  refine r_aload_n S dX3_copyFrom_113 rfl (lv_at hl 1 rfl) ?_
  refine r_getn (K := 23) S X94 (Nat.le_of_ble_eq_true rfl) rfl lk3_60_3 (fun _ => ⟨_, rfl, rfl⟩) dX3_copyFrom_114 (fun v97 z98 => ?_)
  have r100 := R_any v97
  refine r_put (K := 23) (ty := .int) S X94 (Nat.le_of_ble_eq_true rfl) rfl lk3_60_3 (fun _ => ⟨_, rfl, Nat.le_of_ble_eq_true rfl, rfl⟩) (fun _ _ _ h => by cases h; exact ⟨rfl, rfl⟩) rfl rfl dX3_copyFrom_117 (fun t101 H lc M102 X103 => ?_)
  have I104 := Inv_mu I95 M102 (R_any v97)
  have F105 : Fr [(119, 4), (119, 5), (119, 6), (119, 7), (119, 8), (119, 9), (119, 10)] [120, 121, 122, 123] τ t101 := Fr_mu F96 M102 (by decide)
  refine r_aload_n S dX3_copyFrom_120 rfl (lv_at hl 0 rfl) ?_
  refine r_aload_n S dX3_copyFrom_121 rfl (lv_at hl 1 rfl) ?_
  refine r_getn (K := 23) S X103 (Nat.le_of_ble_eq_true rfl) rfl lk3_63_3 (fun _ => ⟨_, rfl, rfl⟩) dX3_copyFrom_122 (fun v106 z107 => ?_)
  have r109 := R_any v106
  refine r_put (K := 23) (ty := .int) S X103 (Nat.le_of_ble_eq_true rfl) rfl lk3_63_3 (fun _ => ⟨_, rfl, Nat.le_of_ble_eq_true rfl, rfl⟩) (fun _ _ _ h => by cases h; exact ⟨rfl, rfl⟩) rfl rfl dX3_copyFrom_125 (fun t110 H lc M111 X112 => ?_)
  have I113 := Inv_mu I104 M111 (R_any v106)
  have F114 : Fr [(119, 4), (119, 5), (119, 6), (119, 7), (119, 8), (119, 9), (119, 10)] [120, 121, 122, 123] τ t110 := Fr_mu F105 M111 (by decide)
  exact r_vret S hr hlk X112 ⟨I113, F114, (((M111.2 119 8 (Or.inr (by decide))).trans ((M102.2 119 8 (Or.inr (by decide))).trans M93.1)).trans (((M85.2 30 8 (Or.inl (by decide))).trans ((M77.2 30 8 (Or.inl (by decide))).trans ((M69.2 30 8 (Or.inl (by decide))).trans ((M61.2 30 8 (Or.inl (by decide))).trans ((C54.1 30 (by decide) 8).trans ((C40.1 30 (by decide) 8).trans ((C26.1 30 (by decide) 8).trans ((C12.1 30 (by decide) 8).trans rfl)))))))).symm.trans z90).symm)⟩ dX3_copyFrom_128
def po_scopy_30_101 (τ : Tau)     (u : Tau) : Prop := Inv u ∧ Fr [(30, 4), (30, 5), (30, 6), (30, 7), (30, 8), (30, 9), (30, 10)] [31, 32, 33, 34] τ u ∧ u 30 8 = τ 101 8
set_option maxHeartbeats 4000000 in
set_option maxRecDepth 100000 in
theorem c_scopy_30_101 (l : Launch) (G : Gx) (τ : Tau) (hI : Inv τ) : Cv l G yX3_copyFrom cX3_copyFrom 2 1 60 [.ref (G.2.2.2.1 30), .ref (G.2.2.2.1 101)] τ (po_scopy_30_101 τ    ) := by
  unfold Cv
  refine C_of (own := RX3) (by decide) rfl (Nat.le_of_ble_eq_true rfl) ?_
  intro p e s m below meth c ls S hr hlk X hl
  have hl : lv_has ls 2 [(0, .ref (G.2.2.2.1 30)), (1, .ref (G.2.2.2.1 101))] := hl
  refine r_aload_n S dX3_copyFrom_0 rfl (lv_at hl 1 rfl) ?_
  refine r_get (K := 23) (v := .ref (G.2.2.2.1 102)) S X (Nat.le_of_ble_eq_true rfl) rfl lk3_9_3 (fun _ => ⟨_, rfl, rfl⟩) dX3_copyFrom_1 ?_
  refine r_iconst S dX3_copyFrom_4 (by decide) (fun v1 z2 => ?_)
  have r3 := R_eq z2
  refine r_aload_n S dX3_copyFrom_5 rfl (lv_at hl 0 rfl) ?_
  refine r_get (K := 23) (v := .ref (G.2.2.2.1 31)) S X (Nat.le_of_ble_eq_true rfl) rfl lk3_9_3 (fun _ => ⟨_, rfl, rfl⟩) dX3_copyFrom_6 ?_
  refine r_iconst S dX3_copyFrom_9 (by decide) (fun v4 z5 => ?_)
  have r6 := R_eq z5
  refine r_aload_n S dX3_copyFrom_10 rfl (lv_at hl 0 rfl) ?_
  refine r_get (K := 23) (v := .ref (G.2.2.2.1 31)) S X (Nat.le_of_ble_eq_true rfl) rfl lk3_9_3 (fun _ => ⟨_, rfl, rfl⟩) dX3_copyFrom_11 ?_
  refine r_alen (x := (0, .inl fun _ => 0)) (n := 90) (K := 24) (t0 := 0) S X (Nat.le_of_ble_eq_true rfl) rfl (fun _ => ⟨_, rfl⟩) rfl (by decide) dX3_copyFrom_14 (fun v7 z8 => ?_)
  have r9 := R_eq z8
  refine r_copy (K2 := 24) (n := 90) (K := 24) S X (Nat.le_of_ble_eq_true rfl) rfl (Nat.le_of_ble_eq_true rfl) rfl (fun _ _ _ => rfl) (fun _ _ _ => rfl) hl.1 kw13 kw10 kw11 kw12 (by omega) (by omega) (by omega) ⟨Nat.le_of_ble_eq_true rfl, by decide⟩ dX3_copyFrom_15 (fun t11 H lc C12 X10 => ?_)
  have I13 := Inv_cp (K := 24) (K2 := 24) hI C12 rfl rfl (fun _ _ h => h)
  have F14 : Fr [(30, 4), (30, 5), (30, 6), (30, 7), (30, 8), (30, 9), (30, 10)] [31, 32, 33, 34] τ t11 := Fr_cp Fr_rfl C12 (by decide)
  refine r_aload_n S dX3_copyFrom_18 rfl (lv_at hl 1 rfl) ?_
  refine r_get (K := 23) (v := .ref (G.2.2.2.1 103)) S X10 (Nat.le_of_ble_eq_true rfl) rfl lk3_15_3 (fun _ => ⟨_, rfl, rfl⟩) dX3_copyFrom_19 ?_
  refine r_iconst S dX3_copyFrom_22 (by decide) (fun v15 z16 => ?_)
  have r17 := R_eq z16
  refine r_aload_n S dX3_copyFrom_23 rfl (lv_at hl 0 rfl) ?_
  refine r_get (K := 23) (v := .ref (G.2.2.2.1 32)) S X10 (Nat.le_of_ble_eq_true rfl) rfl lk3_15_3 (fun _ => ⟨_, rfl, rfl⟩) dX3_copyFrom_24 ?_
  refine r_iconst S dX3_copyFrom_27 (by decide) (fun v18 z19 => ?_)
  have r20 := R_eq z19
  refine r_aload_n S dX3_copyFrom_28 rfl (lv_at hl 0 rfl) ?_
  refine r_get (K := 23) (v := .ref (G.2.2.2.1 32)) S X10 (Nat.le_of_ble_eq_true rfl) rfl lk3_15_3 (fun _ => ⟨_, rfl, rfl⟩) dX3_copyFrom_29 ?_
  refine r_alen (x := (0, .inl fun _ => 0)) (n := 90) (K := 25) (t0 := 0) S X10 (Nat.le_of_ble_eq_true rfl) rfl (fun _ => ⟨_, rfl⟩) rfl (by decide) dX3_copyFrom_32 (fun v21 z22 => ?_)
  have r23 := R_eq z22
  refine r_copy (K2 := 25) (n := 90) (K := 25) S X10 (Nat.le_of_ble_eq_true rfl) rfl (Nat.le_of_ble_eq_true rfl) rfl (fun _ _ _ => rfl) (fun _ _ _ => rfl) hl.1 kw13 kw10 kw11 kw12 (by omega) (by omega) (by omega) ⟨Nat.le_of_ble_eq_true rfl, by decide⟩ dX3_copyFrom_33 (fun t25 H lc C26 X24 => ?_)
  have I27 := Inv_cp (K := 25) (K2 := 25) I13 C26 rfl rfl (fun _ _ h => h)
  have F28 : Fr [(30, 4), (30, 5), (30, 6), (30, 7), (30, 8), (30, 9), (30, 10)] [31, 32, 33, 34] τ t25 := Fr_cp F14 C26 (by decide)
  refine r_aload_n S dX3_copyFrom_36 rfl (lv_at hl 1 rfl) ?_
  refine r_get (K := 23) (v := .ref (G.2.2.2.1 104)) S X24 (Nat.le_of_ble_eq_true rfl) rfl lk3_18_3 (fun _ => ⟨_, rfl, rfl⟩) dX3_copyFrom_37 ?_
  refine r_iconst S dX3_copyFrom_40 (by decide) (fun v29 z30 => ?_)
  have r31 := R_eq z30
  refine r_aload_n S dX3_copyFrom_41 rfl (lv_at hl 0 rfl) ?_
  refine r_get (K := 23) (v := .ref (G.2.2.2.1 33)) S X24 (Nat.le_of_ble_eq_true rfl) rfl lk3_18_3 (fun _ => ⟨_, rfl, rfl⟩) dX3_copyFrom_42 ?_
  refine r_iconst S dX3_copyFrom_45 (by decide) (fun v32 z33 => ?_)
  have r34 := R_eq z33
  refine r_aload_n S dX3_copyFrom_46 rfl (lv_at hl 0 rfl) ?_
  refine r_get (K := 23) (v := .ref (G.2.2.2.1 33)) S X24 (Nat.le_of_ble_eq_true rfl) rfl lk3_18_3 (fun _ => ⟨_, rfl, rfl⟩) dX3_copyFrom_47 ?_
  refine r_alen (x := (0, .inl fun _ => 0)) (n := 10) (K := 26) (t0 := 0) S X24 (Nat.le_of_ble_eq_true rfl) rfl (fun _ => ⟨_, rfl⟩) rfl (by decide) dX3_copyFrom_50 (fun v35 z36 => ?_)
  have r37 := R_eq z36
  refine r_copy (K2 := 26) (n := 10) (K := 26) S X24 (Nat.le_of_ble_eq_true rfl) rfl (Nat.le_of_ble_eq_true rfl) rfl (fun _ _ _ => rfl) (fun _ _ _ => rfl) hl.1 kw13 kw10 kw11 kw12 (by omega) (by omega) (by omega) ⟨Nat.le_of_ble_eq_true rfl, by decide⟩ dX3_copyFrom_51 (fun t39 H lc C40 X38 => ?_)
  have I41 := Inv_cp (K := 26) (K2 := 26) I27 C40 rfl rfl (fun _ _ h => h)
  have F42 : Fr [(30, 4), (30, 5), (30, 6), (30, 7), (30, 8), (30, 9), (30, 10)] [31, 32, 33, 34] τ t39 := Fr_cp F28 C40 (by decide)
  refine r_aload_n S dX3_copyFrom_54 rfl (lv_at hl 1 rfl) ?_
  refine r_get (K := 23) (v := .ref (G.2.2.2.1 105)) S X38 (Nat.le_of_ble_eq_true rfl) rfl lk3_21_3 (fun _ => ⟨_, rfl, rfl⟩) dX3_copyFrom_55 ?_
  refine r_iconst S dX3_copyFrom_58 (by decide) (fun v43 z44 => ?_)
  have r45 := R_eq z44
  refine r_aload_n S dX3_copyFrom_59 rfl (lv_at hl 0 rfl) ?_
  refine r_get (K := 23) (v := .ref (G.2.2.2.1 34)) S X38 (Nat.le_of_ble_eq_true rfl) rfl lk3_21_3 (fun _ => ⟨_, rfl, rfl⟩) dX3_copyFrom_60 ?_
  refine r_iconst S dX3_copyFrom_63 (by decide) (fun v46 z47 => ?_)
  have r48 := R_eq z47
  refine r_aload_n S dX3_copyFrom_64 rfl (lv_at hl 0 rfl) ?_
  refine r_get (K := 23) (v := .ref (G.2.2.2.1 34)) S X38 (Nat.le_of_ble_eq_true rfl) rfl lk3_21_3 (fun _ => ⟨_, rfl, rfl⟩) dX3_copyFrom_65 ?_
  refine r_alen (x := (0, .inl fun _ => 0)) (n := 10) (K := 27) (t0 := 0) S X38 (Nat.le_of_ble_eq_true rfl) rfl (fun _ => ⟨_, rfl⟩) rfl (by decide) dX3_copyFrom_68 (fun v49 z50 => ?_)
  have r51 := R_eq z50
  refine r_copy (K2 := 27) (n := 10) (K := 27) S X38 (Nat.le_of_ble_eq_true rfl) rfl (Nat.le_of_ble_eq_true rfl) rfl (fun _ _ _ => rfl) (fun _ _ _ => rfl) hl.1 kw13 kw10 kw11 kw12 (by omega) (by omega) (by omega) ⟨Nat.le_of_ble_eq_true rfl, by decide⟩ dX3_copyFrom_69 (fun t53 H lc C54 X52 => ?_)
  have I55 := Inv_cp (K := 27) (K2 := 27) I41 C54 rfl rfl (fun _ _ h => h)
  have F56 : Fr [(30, 4), (30, 5), (30, 6), (30, 7), (30, 8), (30, 9), (30, 10)] [31, 32, 33, 34] τ t53 := Fr_cp F42 C54 (by decide)
  refine r_aload_n S dX3_copyFrom_72 rfl (lv_at hl 0 rfl) ?_
  refine r_aload_n S dX3_copyFrom_73 rfl (lv_at hl 1 rfl) ?_
  refine r_getn (K := 23) S X52 (Nat.le_of_ble_eq_true rfl) rfl lk3_45_3 (fun _ => ⟨_, rfl, rfl⟩) dX3_copyFrom_74 (fun v57 z58 => ?_)
  have r59 : R (0) (1023) v57 := rd I55 rfl z58
  refine r_put (K := 23) (ty := .int) S X52 (Nat.le_of_ble_eq_true rfl) rfl lk3_45_3 (fun _ => ⟨_, rfl, Nat.le_of_ble_eq_true rfl, rfl⟩) (fun _ _ _ h => by cases h; exact ⟨rfl, rfl⟩) rfl rfl dX3_copyFrom_77 (fun t60 H lc M61 X62 => ?_)
  have I63 := Inv_mu I55 M61 (show Rg (kd 30) 4 v57 from (R_of (lo := 0) (hi := 1023) r59 rfl))
  have F64 : Fr [(30, 4), (30, 5), (30, 6), (30, 7), (30, 8), (30, 9), (30, 10)] [31, 32, 33, 34] τ t60 := Fr_mu F56 M61 (by decide)
  refine r_aload_n S dX3_copyFrom_80 rfl (lv_at hl 0 rfl) ?_
  refine r_aload_n S dX3_copyFrom_81 rfl (lv_at hl 1 rfl) ?_
  refine r_getn (K := 23) S X62 (Nat.le_of_ble_eq_true rfl) rfl lk3_48_3 (fun _ => ⟨_, rfl, rfl⟩) dX3_copyFrom_82 (fun v65 z66 => ?_)
  have r67 : R (0) (1) v65 := rd I63 rfl z66
  refine r_put (K := 23) (ty := .int) S X62 (Nat.le_of_ble_eq_true rfl) rfl lk3_48_3 (fun _ => ⟨_, rfl, Nat.le_of_ble_eq_true rfl, rfl⟩) (fun _ _ _ h => by cases h; exact ⟨rfl, rfl⟩) rfl rfl dX3_copyFrom_85 (fun t68 H lc M69 X70 => ?_)
  have I71 := Inv_mu I63 M69 (show Rg (kd 30) 5 v65 from (R_of (lo := 0) (hi := 1) r67 rfl))
  have F72 : Fr [(30, 4), (30, 5), (30, 6), (30, 7), (30, 8), (30, 9), (30, 10)] [31, 32, 33, 34] τ t68 := Fr_mu F64 M69 (by decide)
  refine r_aload_n S dX3_copyFrom_88 rfl (lv_at hl 0 rfl) ?_
  refine r_aload_n S dX3_copyFrom_89 rfl (lv_at hl 1 rfl) ?_
  refine r_getn (K := 23) S X70 (Nat.le_of_ble_eq_true rfl) rfl lk3_51_3 (fun _ => ⟨_, rfl, rfl⟩) dX3_copyFrom_90 (fun v73 z74 => ?_)
  have r75 : R (0) (1023) v73 := rd I71 rfl z74
  refine r_put (K := 23) (ty := .int) S X70 (Nat.le_of_ble_eq_true rfl) rfl lk3_51_3 (fun _ => ⟨_, rfl, Nat.le_of_ble_eq_true rfl, rfl⟩) (fun _ _ _ h => by cases h; exact ⟨rfl, rfl⟩) rfl rfl dX3_copyFrom_93 (fun t76 H lc M77 X78 => ?_)
  have I79 := Inv_mu I71 M77 (show Rg (kd 30) 6 v73 from (R_of (lo := 0) (hi := 1023) r75 rfl))
  have F80 : Fr [(30, 4), (30, 5), (30, 6), (30, 7), (30, 8), (30, 9), (30, 10)] [31, 32, 33, 34] τ t76 := Fr_mu F72 M77 (by decide)
  refine r_aload_n S dX3_copyFrom_96 rfl (lv_at hl 0 rfl) ?_
  refine r_aload_n S dX3_copyFrom_97 rfl (lv_at hl 1 rfl) ?_
  refine r_getn (K := 23) S X78 (Nat.le_of_ble_eq_true rfl) rfl lk3_54_3 (fun _ => ⟨_, rfl, rfl⟩) dX3_copyFrom_98 (fun v81 z82 => ?_)
  have r83 : R (0) (1023) v81 := rd I79 rfl z82
  refine r_put (K := 23) (ty := .int) S X78 (Nat.le_of_ble_eq_true rfl) rfl lk3_54_3 (fun _ => ⟨_, rfl, Nat.le_of_ble_eq_true rfl, rfl⟩) (fun _ _ _ h => by cases h; exact ⟨rfl, rfl⟩) rfl rfl dX3_copyFrom_101 (fun t84 H lc M85 X86 => ?_)
  have I87 := Inv_mu I79 M85 (show Rg (kd 30) 7 v81 from (R_of (lo := 0) (hi := 1023) r83 rfl))
  have F88 : Fr [(30, 4), (30, 5), (30, 6), (30, 7), (30, 8), (30, 9), (30, 10)] [31, 32, 33, 34] τ t84 := Fr_mu F80 M85 (by decide)
  refine r_aload_n S dX3_copyFrom_104 rfl (lv_at hl 0 rfl) ?_
  refine r_aload_n S dX3_copyFrom_105 rfl (lv_at hl 1 rfl) ?_
  refine r_getn (K := 23) S X86 (Nat.le_of_ble_eq_true rfl) rfl lk3_24_3 (fun _ => ⟨_, rfl, rfl⟩) dX3_copyFrom_106 (fun v89 z90 => ?_)
  have r91 : R (-1) (8) v89 := rd I87 rfl z90
  refine r_put (K := 23) (ty := .int) S X86 (Nat.le_of_ble_eq_true rfl) rfl lk3_24_3 (fun _ => ⟨_, rfl, Nat.le_of_ble_eq_true rfl, rfl⟩) (fun _ _ _ h => by cases h; exact ⟨rfl, rfl⟩) rfl rfl dX3_copyFrom_109 (fun t92 H lc M93 X94 => ?_)
  have I95 := Inv_mu I87 M93 (show Rg (kd 30) 8 v89 from (R_of (lo := -1) (hi := 8) r91 rfl))
  have F96 : Fr [(30, 4), (30, 5), (30, 6), (30, 7), (30, 8), (30, 9), (30, 10)] [31, 32, 33, 34] τ t92 := Fr_mu F88 M93 (by decide)
  refine r_aload_n S dX3_copyFrom_112 rfl (lv_at hl 0 rfl) ?_
  refine r_aload_n S dX3_copyFrom_113 rfl (lv_at hl 1 rfl) ?_
  refine r_getn (K := 23) S X94 (Nat.le_of_ble_eq_true rfl) rfl lk3_60_3 (fun _ => ⟨_, rfl, rfl⟩) dX3_copyFrom_114 (fun v97 z98 => ?_)
  have r100 := R_any v97
  refine r_put (K := 23) (ty := .int) S X94 (Nat.le_of_ble_eq_true rfl) rfl lk3_60_3 (fun _ => ⟨_, rfl, Nat.le_of_ble_eq_true rfl, rfl⟩) (fun _ _ _ h => by cases h; exact ⟨rfl, rfl⟩) rfl rfl dX3_copyFrom_117 (fun t101 H lc M102 X103 => ?_)
  have I104 := Inv_mu I95 M102 (R_any v97)
  have F105 : Fr [(30, 4), (30, 5), (30, 6), (30, 7), (30, 8), (30, 9), (30, 10)] [31, 32, 33, 34] τ t101 := Fr_mu F96 M102 (by decide)
  refine r_aload_n S dX3_copyFrom_120 rfl (lv_at hl 0 rfl) ?_
  refine r_aload_n S dX3_copyFrom_121 rfl (lv_at hl 1 rfl) ?_
  refine r_getn (K := 23) S X103 (Nat.le_of_ble_eq_true rfl) rfl lk3_63_3 (fun _ => ⟨_, rfl, rfl⟩) dX3_copyFrom_122 (fun v106 z107 => ?_)
  have r109 := R_any v106
  refine r_put (K := 23) (ty := .int) S X103 (Nat.le_of_ble_eq_true rfl) rfl lk3_63_3 (fun _ => ⟨_, rfl, Nat.le_of_ble_eq_true rfl, rfl⟩) (fun _ _ _ h => by cases h; exact ⟨rfl, rfl⟩) rfl rfl dX3_copyFrom_125 (fun t110 H lc M111 X112 => ?_)
  have I113 := Inv_mu I104 M111 (R_any v106)
  have F114 : Fr [(30, 4), (30, 5), (30, 6), (30, 7), (30, 8), (30, 9), (30, 10)] [31, 32, 33, 34] τ t110 := Fr_mu F105 M111 (by decide)
  exact r_vret S hr hlk X112 ⟨I113, F114, (((M111.2 30 8 (Or.inr (by decide))).trans ((M102.2 30 8 (Or.inr (by decide))).trans M93.1)).trans (((M85.2 101 8 (Or.inl (by decide))).trans ((M77.2 101 8 (Or.inl (by decide))).trans ((M69.2 101 8 (Or.inl (by decide))).trans ((M61.2 101 8 (Or.inl (by decide))).trans ((C54.1 101 (by decide) 8).trans ((C40.1 101 (by decide) 8).trans ((C26.1 101 (by decide) 8).trans ((C12.1 101 (by decide) 8).trans rfl)))))))).symm.trans z90).symm)⟩ dX3_copyFrom_128
def po_scopy_30_119 (τ : Tau)     (u : Tau) : Prop := Inv u ∧ Fr [(30, 4), (30, 5), (30, 6), (30, 7), (30, 8), (30, 9), (30, 10)] [31, 32, 33, 34] τ u ∧ u 30 8 = τ 119 8
set_option maxHeartbeats 4000000 in
set_option maxRecDepth 100000 in
theorem c_scopy_30_119 (l : Launch) (G : Gx) (τ : Tau) (hI : Inv τ) : Cv l G yX3_copyFrom cX3_copyFrom 2 1 60 [.ref (G.2.2.2.1 30), .ref (G.2.2.2.1 119)] τ (po_scopy_30_119 τ    ) := by
  unfold Cv
  refine C_of (own := RX3) (by decide) rfl (Nat.le_of_ble_eq_true rfl) ?_
  intro p e s m below meth c ls S hr hlk X hl
  have hl : lv_has ls 2 [(0, .ref (G.2.2.2.1 30)), (1, .ref (G.2.2.2.1 119))] := hl
  refine r_aload_n S dX3_copyFrom_0 rfl (lv_at hl 1 rfl) ?_
  refine r_get (K := 23) (v := .ref (G.2.2.2.1 120)) S X (Nat.le_of_ble_eq_true rfl) rfl lk3_9_3 (fun _ => ⟨_, rfl, rfl⟩) dX3_copyFrom_1 ?_
  refine r_iconst S dX3_copyFrom_4 (by decide) (fun v1 z2 => ?_)
  have r3 := R_eq z2
  refine r_aload_n S dX3_copyFrom_5 rfl (lv_at hl 0 rfl) ?_
  refine r_get (K := 23) (v := .ref (G.2.2.2.1 31)) S X (Nat.le_of_ble_eq_true rfl) rfl lk3_9_3 (fun _ => ⟨_, rfl, rfl⟩) dX3_copyFrom_6 ?_
  refine r_iconst S dX3_copyFrom_9 (by decide) (fun v4 z5 => ?_)
  have r6 := R_eq z5
  refine r_aload_n S dX3_copyFrom_10 rfl (lv_at hl 0 rfl) ?_
  refine r_get (K := 23) (v := .ref (G.2.2.2.1 31)) S X (Nat.le_of_ble_eq_true rfl) rfl lk3_9_3 (fun _ => ⟨_, rfl, rfl⟩) dX3_copyFrom_11 ?_
  refine r_alen (x := (0, .inl fun _ => 0)) (n := 90) (K := 24) (t0 := 0) S X (Nat.le_of_ble_eq_true rfl) rfl (fun _ => ⟨_, rfl⟩) rfl (by decide) dX3_copyFrom_14 (fun v7 z8 => ?_)
  have r9 := R_eq z8
  refine r_copy (K2 := 24) (n := 90) (K := 24) S X (Nat.le_of_ble_eq_true rfl) rfl (Nat.le_of_ble_eq_true rfl) rfl (fun _ _ _ => rfl) (fun _ _ _ => rfl) hl.1 kw13 kw10 kw11 kw12 (by omega) (by omega) (by omega) ⟨Nat.le_of_ble_eq_true rfl, by decide⟩ dX3_copyFrom_15 (fun t11 H lc C12 X10 => ?_)
  have I13 := Inv_cp (K := 24) (K2 := 24) hI C12 rfl rfl (fun _ _ h => h)
  have F14 : Fr [(30, 4), (30, 5), (30, 6), (30, 7), (30, 8), (30, 9), (30, 10)] [31, 32, 33, 34] τ t11 := Fr_cp Fr_rfl C12 (by decide)
  refine r_aload_n S dX3_copyFrom_18 rfl (lv_at hl 1 rfl) ?_
  refine r_get (K := 23) (v := .ref (G.2.2.2.1 121)) S X10 (Nat.le_of_ble_eq_true rfl) rfl lk3_15_3 (fun _ => ⟨_, rfl, rfl⟩) dX3_copyFrom_19 ?_
  refine r_iconst S dX3_copyFrom_22 (by decide) (fun v15 z16 => ?_)
  have r17 := R_eq z16
  refine r_aload_n S dX3_copyFrom_23 rfl (lv_at hl 0 rfl) ?_
  refine r_get (K := 23) (v := .ref (G.2.2.2.1 32)) S X10 (Nat.le_of_ble_eq_true rfl) rfl lk3_15_3 (fun _ => ⟨_, rfl, rfl⟩) dX3_copyFrom_24 ?_
  refine r_iconst S dX3_copyFrom_27 (by decide) (fun v18 z19 => ?_)
  have r20 := R_eq z19
  refine r_aload_n S dX3_copyFrom_28 rfl (lv_at hl 0 rfl) ?_
  refine r_get (K := 23) (v := .ref (G.2.2.2.1 32)) S X10 (Nat.le_of_ble_eq_true rfl) rfl lk3_15_3 (fun _ => ⟨_, rfl, rfl⟩) dX3_copyFrom_29 ?_
  refine r_alen (x := (0, .inl fun _ => 0)) (n := 90) (K := 25) (t0 := 0) S X10 (Nat.le_of_ble_eq_true rfl) rfl (fun _ => ⟨_, rfl⟩) rfl (by decide) dX3_copyFrom_32 (fun v21 z22 => ?_)
  have r23 := R_eq z22
  refine r_copy (K2 := 25) (n := 90) (K := 25) S X10 (Nat.le_of_ble_eq_true rfl) rfl (Nat.le_of_ble_eq_true rfl) rfl (fun _ _ _ => rfl) (fun _ _ _ => rfl) hl.1 kw13 kw10 kw11 kw12 (by omega) (by omega) (by omega) ⟨Nat.le_of_ble_eq_true rfl, by decide⟩ dX3_copyFrom_33 (fun t25 H lc C26 X24 => ?_)
  have I27 := Inv_cp (K := 25) (K2 := 25) I13 C26 rfl rfl (fun _ _ h => h)
  have F28 : Fr [(30, 4), (30, 5), (30, 6), (30, 7), (30, 8), (30, 9), (30, 10)] [31, 32, 33, 34] τ t25 := Fr_cp F14 C26 (by decide)
  refine r_aload_n S dX3_copyFrom_36 rfl (lv_at hl 1 rfl) ?_
  refine r_get (K := 23) (v := .ref (G.2.2.2.1 122)) S X24 (Nat.le_of_ble_eq_true rfl) rfl lk3_18_3 (fun _ => ⟨_, rfl, rfl⟩) dX3_copyFrom_37 ?_
  refine r_iconst S dX3_copyFrom_40 (by decide) (fun v29 z30 => ?_)
  have r31 := R_eq z30
  refine r_aload_n S dX3_copyFrom_41 rfl (lv_at hl 0 rfl) ?_
  refine r_get (K := 23) (v := .ref (G.2.2.2.1 33)) S X24 (Nat.le_of_ble_eq_true rfl) rfl lk3_18_3 (fun _ => ⟨_, rfl, rfl⟩) dX3_copyFrom_42 ?_
  refine r_iconst S dX3_copyFrom_45 (by decide) (fun v32 z33 => ?_)
  have r34 := R_eq z33
  refine r_aload_n S dX3_copyFrom_46 rfl (lv_at hl 0 rfl) ?_
  refine r_get (K := 23) (v := .ref (G.2.2.2.1 33)) S X24 (Nat.le_of_ble_eq_true rfl) rfl lk3_18_3 (fun _ => ⟨_, rfl, rfl⟩) dX3_copyFrom_47 ?_
  refine r_alen (x := (0, .inl fun _ => 0)) (n := 10) (K := 26) (t0 := 0) S X24 (Nat.le_of_ble_eq_true rfl) rfl (fun _ => ⟨_, rfl⟩) rfl (by decide) dX3_copyFrom_50 (fun v35 z36 => ?_)
  have r37 := R_eq z36
  refine r_copy (K2 := 26) (n := 10) (K := 26) S X24 (Nat.le_of_ble_eq_true rfl) rfl (Nat.le_of_ble_eq_true rfl) rfl (fun _ _ _ => rfl) (fun _ _ _ => rfl) hl.1 kw13 kw10 kw11 kw12 (by omega) (by omega) (by omega) ⟨Nat.le_of_ble_eq_true rfl, by decide⟩ dX3_copyFrom_51 (fun t39 H lc C40 X38 => ?_)
  have I41 := Inv_cp (K := 26) (K2 := 26) I27 C40 rfl rfl (fun _ _ h => h)
  have F42 : Fr [(30, 4), (30, 5), (30, 6), (30, 7), (30, 8), (30, 9), (30, 10)] [31, 32, 33, 34] τ t39 := Fr_cp F28 C40 (by decide)
  refine r_aload_n S dX3_copyFrom_54 rfl (lv_at hl 1 rfl) ?_
  refine r_get (K := 23) (v := .ref (G.2.2.2.1 123)) S X38 (Nat.le_of_ble_eq_true rfl) rfl lk3_21_3 (fun _ => ⟨_, rfl, rfl⟩) dX3_copyFrom_55 ?_
  refine r_iconst S dX3_copyFrom_58 (by decide) (fun v43 z44 => ?_)
  have r45 := R_eq z44
  refine r_aload_n S dX3_copyFrom_59 rfl (lv_at hl 0 rfl) ?_
  refine r_get (K := 23) (v := .ref (G.2.2.2.1 34)) S X38 (Nat.le_of_ble_eq_true rfl) rfl lk3_21_3 (fun _ => ⟨_, rfl, rfl⟩) dX3_copyFrom_60 ?_
  refine r_iconst S dX3_copyFrom_63 (by decide) (fun v46 z47 => ?_)
  have r48 := R_eq z47
  refine r_aload_n S dX3_copyFrom_64 rfl (lv_at hl 0 rfl) ?_
  refine r_get (K := 23) (v := .ref (G.2.2.2.1 34)) S X38 (Nat.le_of_ble_eq_true rfl) rfl lk3_21_3 (fun _ => ⟨_, rfl, rfl⟩) dX3_copyFrom_65 ?_
  refine r_alen (x := (0, .inl fun _ => 0)) (n := 10) (K := 27) (t0 := 0) S X38 (Nat.le_of_ble_eq_true rfl) rfl (fun _ => ⟨_, rfl⟩) rfl (by decide) dX3_copyFrom_68 (fun v49 z50 => ?_)
  have r51 := R_eq z50
  refine r_copy (K2 := 27) (n := 10) (K := 27) S X38 (Nat.le_of_ble_eq_true rfl) rfl (Nat.le_of_ble_eq_true rfl) rfl (fun _ _ _ => rfl) (fun _ _ _ => rfl) hl.1 kw13 kw10 kw11 kw12 (by omega) (by omega) (by omega) ⟨Nat.le_of_ble_eq_true rfl, by decide⟩ dX3_copyFrom_69 (fun t53 H lc C54 X52 => ?_)
  have I55 := Inv_cp (K := 27) (K2 := 27) I41 C54 rfl rfl (fun _ _ h => h)
  have F56 : Fr [(30, 4), (30, 5), (30, 6), (30, 7), (30, 8), (30, 9), (30, 10)] [31, 32, 33, 34] τ t53 := Fr_cp F42 C54 (by decide)
  refine r_aload_n S dX3_copyFrom_72 rfl (lv_at hl 0 rfl) ?_
  refine r_aload_n S dX3_copyFrom_73 rfl (lv_at hl 1 rfl) ?_
  refine r_getn (K := 23) S X52 (Nat.le_of_ble_eq_true rfl) rfl lk3_45_3 (fun _ => ⟨_, rfl, rfl⟩) dX3_copyFrom_74 (fun v57 z58 => ?_)
  have r59 : R (0) (1023) v57 := rd I55 rfl z58
  refine r_put (K := 23) (ty := .int) S X52 (Nat.le_of_ble_eq_true rfl) rfl lk3_45_3 (fun _ => ⟨_, rfl, Nat.le_of_ble_eq_true rfl, rfl⟩) (fun _ _ _ h => by cases h; exact ⟨rfl, rfl⟩) rfl rfl dX3_copyFrom_77 (fun t60 H lc M61 X62 => ?_)
  have I63 := Inv_mu I55 M61 (show Rg (kd 30) 4 v57 from (R_of (lo := 0) (hi := 1023) r59 rfl))
  have F64 : Fr [(30, 4), (30, 5), (30, 6), (30, 7), (30, 8), (30, 9), (30, 10)] [31, 32, 33, 34] τ t60 := Fr_mu F56 M61 (by decide)
  refine r_aload_n S dX3_copyFrom_80 rfl (lv_at hl 0 rfl) ?_
  refine r_aload_n S dX3_copyFrom_81 rfl (lv_at hl 1 rfl) ?_
  refine r_getn (K := 23) S X62 (Nat.le_of_ble_eq_true rfl) rfl lk3_48_3 (fun _ => ⟨_, rfl, rfl⟩) dX3_copyFrom_82 (fun v65 z66 => ?_)
  have r67 : R (0) (1) v65 := rd I63 rfl z66
  refine r_put (K := 23) (ty := .int) S X62 (Nat.le_of_ble_eq_true rfl) rfl lk3_48_3 (fun _ => ⟨_, rfl, Nat.le_of_ble_eq_true rfl, rfl⟩) (fun _ _ _ h => by cases h; exact ⟨rfl, rfl⟩) rfl rfl dX3_copyFrom_85 (fun t68 H lc M69 X70 => ?_)
  have I71 := Inv_mu I63 M69 (show Rg (kd 30) 5 v65 from (R_of (lo := 0) (hi := 1) r67 rfl))
  have F72 : Fr [(30, 4), (30, 5), (30, 6), (30, 7), (30, 8), (30, 9), (30, 10)] [31, 32, 33, 34] τ t68 := Fr_mu F64 M69 (by decide)
  refine r_aload_n S dX3_copyFrom_88 rfl (lv_at hl 0 rfl) ?_
  refine r_aload_n S dX3_copyFrom_89 rfl (lv_at hl 1 rfl) ?_
  refine r_getn (K := 23) S X70 (Nat.le_of_ble_eq_true rfl) rfl lk3_51_3 (fun _ => ⟨_, rfl, rfl⟩) dX3_copyFrom_90 (fun v73 z74 => ?_)
  have r75 : R (0) (1023) v73 := rd I71 rfl z74
  refine r_put (K := 23) (ty := .int) S X70 (Nat.le_of_ble_eq_true rfl) rfl lk3_51_3 (fun _ => ⟨_, rfl, Nat.le_of_ble_eq_true rfl, rfl⟩) (fun _ _ _ h => by cases h; exact ⟨rfl, rfl⟩) rfl rfl dX3_copyFrom_93 (fun t76 H lc M77 X78 => ?_)
  have I79 := Inv_mu I71 M77 (show Rg (kd 30) 6 v73 from (R_of (lo := 0) (hi := 1023) r75 rfl))
  have F80 : Fr [(30, 4), (30, 5), (30, 6), (30, 7), (30, 8), (30, 9), (30, 10)] [31, 32, 33, 34] τ t76 := Fr_mu F72 M77 (by decide)
  refine r_aload_n S dX3_copyFrom_96 rfl (lv_at hl 0 rfl) ?_
  refine r_aload_n S dX3_copyFrom_97 rfl (lv_at hl 1 rfl) ?_
  refine r_getn (K := 23) S X78 (Nat.le_of_ble_eq_true rfl) rfl lk3_54_3 (fun _ => ⟨_, rfl, rfl⟩) dX3_copyFrom_98 (fun v81 z82 => ?_)
  have r83 : R (0) (1023) v81 := rd I79 rfl z82
  refine r_put (K := 23) (ty := .int) S X78 (Nat.le_of_ble_eq_true rfl) rfl lk3_54_3 (fun _ => ⟨_, rfl, Nat.le_of_ble_eq_true rfl, rfl⟩) (fun _ _ _ h => by cases h; exact ⟨rfl, rfl⟩) rfl rfl dX3_copyFrom_101 (fun t84 H lc M85 X86 => ?_)
  have I87 := Inv_mu I79 M85 (show Rg (kd 30) 7 v81 from (R_of (lo := 0) (hi := 1023) r83 rfl))
  have F88 : Fr [(30, 4), (30, 5), (30, 6), (30, 7), (30, 8), (30, 9), (30, 10)] [31, 32, 33, 34] τ t84 := Fr_mu F80 M85 (by decide)
  refine r_aload_n S dX3_copyFrom_104 rfl (lv_at hl 0 rfl) ?_
  refine r_aload_n S dX3_copyFrom_105 rfl (lv_at hl 1 rfl) ?_
  refine r_getn (K := 23) S X86 (Nat.le_of_ble_eq_true rfl) rfl lk3_24_3 (fun _ => ⟨_, rfl, rfl⟩) dX3_copyFrom_106 (fun v89 z90 => ?_)
  have r91 : R (-1) (8) v89 := rd I87 rfl z90
  refine r_put (K := 23) (ty := .int) S X86 (Nat.le_of_ble_eq_true rfl) rfl lk3_24_3 (fun _ => ⟨_, rfl, Nat.le_of_ble_eq_true rfl, rfl⟩) (fun _ _ _ h => by cases h; exact ⟨rfl, rfl⟩) rfl rfl dX3_copyFrom_109 (fun t92 H lc M93 X94 => ?_)
  have I95 := Inv_mu I87 M93 (show Rg (kd 30) 8 v89 from (R_of (lo := -1) (hi := 8) r91 rfl))
  have F96 : Fr [(30, 4), (30, 5), (30, 6), (30, 7), (30, 8), (30, 9), (30, 10)] [31, 32, 33, 34] τ t92 := Fr_mu F88 M93 (by decide)
  refine r_aload_n S dX3_copyFrom_112 rfl (lv_at hl 0 rfl) ?_
  refine r_aload_n S dX3_copyFrom_113 rfl (lv_at hl 1 rfl) ?_
  refine r_getn (K := 23) S X94 (Nat.le_of_ble_eq_true rfl) rfl lk3_60_3 (fun _ => ⟨_, rfl, rfl⟩) dX3_copyFrom_114 (fun v97 z98 => ?_)
  have r100 := R_any v97
  refine r_put (K := 23) (ty := .int) S X94 (Nat.le_of_ble_eq_true rfl) rfl lk3_60_3 (fun _ => ⟨_, rfl, Nat.le_of_ble_eq_true rfl, rfl⟩) (fun _ _ _ h => by cases h; exact ⟨rfl, rfl⟩) rfl rfl dX3_copyFrom_117 (fun t101 H lc M102 X103 => ?_)
  have I104 := Inv_mu I95 M102 (R_any v97)
  have F105 : Fr [(30, 4), (30, 5), (30, 6), (30, 7), (30, 8), (30, 9), (30, 10)] [31, 32, 33, 34] τ t101 := Fr_mu F96 M102 (by decide)
  refine r_aload_n S dX3_copyFrom_120 rfl (lv_at hl 0 rfl) ?_
  refine r_aload_n S dX3_copyFrom_121 rfl (lv_at hl 1 rfl) ?_
  refine r_getn (K := 23) S X103 (Nat.le_of_ble_eq_true rfl) rfl lk3_63_3 (fun _ => ⟨_, rfl, rfl⟩) dX3_copyFrom_122 (fun v106 z107 => ?_)
  have r109 := R_any v106
  refine r_put (K := 23) (ty := .int) S X103 (Nat.le_of_ble_eq_true rfl) rfl lk3_63_3 (fun _ => ⟨_, rfl, Nat.le_of_ble_eq_true rfl, rfl⟩) (fun _ _ _ h => by cases h; exact ⟨rfl, rfl⟩) rfl rfl dX3_copyFrom_125 (fun t110 H lc M111 X112 => ?_)
  have I113 := Inv_mu I104 M111 (R_any v106)
  have F114 : Fr [(30, 4), (30, 5), (30, 6), (30, 7), (30, 8), (30, 9), (30, 10)] [31, 32, 33, 34] τ t110 := Fr_mu F105 M111 (by decide)
  exact r_vret S hr hlk X112 ⟨I113, F114, (((M111.2 30 8 (Or.inr (by decide))).trans ((M102.2 30 8 (Or.inr (by decide))).trans M93.1)).trans (((M85.2 119 8 (Or.inl (by decide))).trans ((M77.2 119 8 (Or.inl (by decide))).trans ((M69.2 119 8 (Or.inl (by decide))).trans ((M61.2 119 8 (Or.inl (by decide))).trans ((C54.1 119 (by decide) 8).trans ((C40.1 119 (by decide) 8).trans ((C26.1 119 (by decide) 8).trans ((C12.1 119 (by decide) 8).trans rfl)))))))).symm.trans z90).symm)⟩ dX3_copyFrom_128
def po_X3_begin (τ : Tau)     (u : Tau) : Prop := Inv u ∧ Fr [(30, 4), (30, 5), (30, 6), (30, 7), (30, 8), (30, 9), (30, 10)] [31, 33, 34] τ u ∧ WI u
set_option maxHeartbeats 4000000 in
set_option maxRecDepth 100000 in
theorem c_X3_begin (l : Launch) (G : Gx) (τ : Tau) (hI : Inv τ) : Cv l G yX3_begin cX3_begin 2 1 60 [.ref (G.2.2.2.1 30), .ref (G.2.2.2.1 23)] τ (po_X3_begin τ    ) := by
  unfold Cv
  refine C_of (own := RX3) (by decide) rfl (Nat.le_of_ble_eq_true rfl) ?_
  intro p e s m below meth c ls S hr hlk X hl
  have hl : lv_has ls 2 [(0, .ref (G.2.2.2.1 30)), (1, .ref (G.2.2.2.1 23))] := hl
  refine r_aload_n S dX3_begin_0 rfl (lv_at hl 1 rfl) ?_
  refine r_get (K := 4) (v := .ref (G.2.2.2.1 27)) S X (Nat.le_of_ble_eq_true rfl) rfl lk3_28_2 (fun _ => ⟨_, rfl, rfl⟩) dX3_begin_1 ?_
  refine r_iconst S dX3_begin_4 (by decide) (fun v1 z2 => ?_)
  have r3 := R_eq z2
  refine r_aload_n S dX3_begin_5 rfl (lv_at hl 0 rfl) ?_
  refine r_get (K := 23) (v := .ref (G.2.2.2.1 31)) S X (Nat.le_of_ble_eq_true rfl) rfl lk3_9_3 (fun _ => ⟨_, rfl, rfl⟩) dX3_begin_6 ?_
  refine r_iconst S dX3_begin_9 (by decide) (fun v4 z5 => ?_)
  have r6 := R_eq z5
  refine r_aload_n S dX3_begin_10 rfl (lv_at hl 0 rfl) ?_
  refine r_get (K := 23) (v := .ref (G.2.2.2.1 31)) S X (Nat.le_of_ble_eq_true rfl) rfl lk3_9_3 (fun _ => ⟨_, rfl, rfl⟩) dX3_begin_11 ?_
  refine r_alen (x := (0, .inl fun _ => 0)) (n := 90) (K := 24) (t0 := 0) S X (Nat.le_of_ble_eq_true rfl) rfl (fun _ => ⟨_, rfl⟩) rfl (by decide) dX3_begin_14 (fun v7 z8 => ?_)
  have r9 := R_eq z8
  refine r_copy (K2 := 24) (n := 90) (K := 8) S X (Nat.le_of_ble_eq_true rfl) rfl (Nat.le_of_ble_eq_true rfl) rfl (fun _ _ _ => rfl) (fun _ _ _ => rfl) hl.1 kw13 kw10 kw11 kw12 (by omega) (by omega) (by omega) ⟨Nat.le_of_ble_eq_true rfl, by decide⟩ dX3_begin_15 (fun t11 H lc C12 X10 => ?_)
  have I13 := Inv_cp (K := 8) (K2 := 24) hI C12 rfl rfl (fun _ _ h => h)
  have F14 : Fr [(30, 4), (30, 5), (30, 6), (30, 7), (30, 8), (30, 9), (30, 10)] [31, 33, 34] τ t11 := Fr_cp Fr_rfl C12 (by decide)
  refine r_aload_n S dX3_begin_18 rfl (lv_at hl 0 rfl) ?_
  refine r_get (K := 23) (v := .ref (G.2.2.2.1 33)) S X10 (Nat.le_of_ble_eq_true rfl) rfl lk3_18_3 (fun _ => ⟨_, rfl, rfl⟩) dX3_begin_19 ?_
  refine r_iconst S dX3_begin_22 (by decide) (fun v15 z16 => ?_)
  have r17 := R_eq z16
  refine r_kv (q_S (As := [.ref (G.2.2.2.1 33), .int v15]) (rest := []) S X10 (c_fill_lies l G t11 I13 33 (Nat.le_of_ble_eq_true rfl) rfl v15 (R_of (lo := 0) (hi := 511) r17 rfl)) ck3_39 ⟨Nat.le_of_ble_eq_true rfl, Nat.le_of_ble_eq_true rfl⟩ rfl hl.1 rfl (Nat.le_of_ble_eq_true rfl) dX3_begin_23 ⟨Nat.le_refl 0, Nat.le_refl 0⟩) X10 (fun t20 H lc q18 X19 => ?_)
  unfold po_fill_lies at q18
  obtain ⟨q21, q22⟩ := q18
  have F23 : Fr [(30, 4), (30, 5), (30, 6), (30, 7), (30, 8), (30, 9), (30, 10)] [31, 33, 34] τ t20 := Fr_call F14 q22 (by decide)
  refine r_aload_n S dX3_begin_26 rfl (lv_at hl 0 rfl) ?_
  refine r_get (K := 23) (v := .ref (G.2.2.2.1 34)) S X19 (Nat.le_of_ble_eq_true rfl) rfl lk3_21_3 (fun _ => ⟨_, rfl, rfl⟩) dX3_begin_27 ?_
  refine r_iconst S dX3_begin_30 (by decide) (fun v24 z25 => ?_)
  have r26 := R_eq z25
  refine r_kv (q_S (As := [.ref (G.2.2.2.1 34), .int v24]) (rest := []) S X19 (c_fill_rides l G t20 q21 34 (Nat.le_of_ble_eq_true rfl) rfl v24 (R_of (lo := -2147483648) (hi := 2147483647) r26 rfl)) ck3_39 ⟨Nat.le_of_ble_eq_true rfl, Nat.le_of_ble_eq_true rfl⟩ rfl hl.1 rfl (Nat.le_of_ble_eq_true rfl) dX3_begin_31 ⟨Nat.le_refl 0, Nat.le_refl 0⟩) X19 (fun t29 H lc q27 X28 => ?_)
  unfold po_fill_rides at q27
  obtain ⟨q30, q31⟩ := q27
  have F32 : Fr [(30, 4), (30, 5), (30, 6), (30, 7), (30, 8), (30, 9), (30, 10)] [31, 33, 34] τ t29 := Fr_call F23 q31 (by decide)
  refine r_aload_n S dX3_begin_34 rfl (lv_at hl 0 rfl) ?_
  refine r_iconst S dX3_begin_35 (by decide) (fun v33 z34 => ?_)
  have r35 := R_eq z34
  refine r_put (K := 23) (ty := .int) S X28 (Nat.le_of_ble_eq_true rfl) rfl lk3_45_3 (fun _ => ⟨_, rfl, Nat.le_of_ble_eq_true rfl, rfl⟩) (fun _ _ _ h => by cases h; exact ⟨rfl, rfl⟩) rfl rfl dX3_begin_36 (fun t36 H lc M37 X38 => ?_)
  have I39 := Inv_mu q30 M37 (show Rg (kd 30) 4 v33 from (R_of (lo := 0) (hi := 1023) r35 rfl))
  have F40 : Fr [(30, 4), (30, 5), (30, 6), (30, 7), (30, 8), (30, 9), (30, 10)] [31, 33, 34] τ t36 := Fr_mu F32 M37 (by decide)
  refine r_aload_n S dX3_begin_39 rfl (lv_at hl 0 rfl) ?_
  refine r_iconst S dX3_begin_40 (by decide) (fun v41 z42 => ?_)
  have r43 := R_eq z42
  refine r_put (K := 23) (ty := .int) S X38 (Nat.le_of_ble_eq_true rfl) rfl lk3_48_3 (fun _ => ⟨_, rfl, Nat.le_of_ble_eq_true rfl, rfl⟩) (fun _ _ _ h => by cases h; exact ⟨rfl, rfl⟩) rfl rfl dX3_begin_41 (fun t44 H lc M45 X46 => ?_)
  have I47 := Inv_mu I39 M45 (show Rg (kd 30) 5 v41 from (R_of (lo := 0) (hi := 1) r43 rfl))
  have F48 : Fr [(30, 4), (30, 5), (30, 6), (30, 7), (30, 8), (30, 9), (30, 10)] [31, 33, 34] τ t44 := Fr_mu F40 M45 (by decide)
  refine r_aload_n S dX3_begin_44 rfl (lv_at hl 0 rfl) ?_
  refine r_iconst S dX3_begin_45 (by decide) (fun v49 z50 => ?_)
  have r51 := R_eq z50
  refine r_put (K := 23) (ty := .int) S X46 (Nat.le_of_ble_eq_true rfl) rfl lk3_51_3 (fun _ => ⟨_, rfl, Nat.le_of_ble_eq_true rfl, rfl⟩) (fun _ _ _ h => by cases h; exact ⟨rfl, rfl⟩) rfl rfl dX3_begin_46 (fun t52 H lc M53 X54 => ?_)
  have I55 := Inv_mu I47 M53 (show Rg (kd 30) 6 v49 from (R_of (lo := 0) (hi := 1023) r51 rfl))
  have F56 : Fr [(30, 4), (30, 5), (30, 6), (30, 7), (30, 8), (30, 9), (30, 10)] [31, 33, 34] τ t52 := Fr_mu F48 M53 (by decide)
  refine r_aload_n S dX3_begin_49 rfl (lv_at hl 0 rfl) ?_
  refine r_iconst S dX3_begin_50 (by decide) (fun v57 z58 => ?_)
  have r59 := R_eq z58
  refine r_put (K := 23) (ty := .int) S X54 (Nat.le_of_ble_eq_true rfl) rfl lk3_54_3 (fun _ => ⟨_, rfl, Nat.le_of_ble_eq_true rfl, rfl⟩) (fun _ _ _ h => by cases h; exact ⟨rfl, rfl⟩) rfl rfl dX3_begin_51 (fun t60 H lc M61 X62 => ?_)
  have I63 := Inv_mu I55 M61 (show Rg (kd 30) 7 v57 from (R_of (lo := 0) (hi := 1023) r59 rfl))
  have F64 : Fr [(30, 4), (30, 5), (30, 6), (30, 7), (30, 8), (30, 9), (30, 10)] [31, 33, 34] τ t60 := Fr_mu F56 M61 (by decide)
  refine r_aload_n S dX3_begin_54 rfl (lv_at hl 0 rfl) ?_
  refine r_aload_n S dX3_begin_55 rfl (lv_at hl 1 rfl) ?_
  refine r_getn (K := 4) S X62 (Nat.le_of_ble_eq_true rfl) rfl lk3_57_2 (fun _ => ⟨_, rfl, rfl⟩) dX3_begin_56 (fun v65 z66 => ?_)
  have r67 : R (0) (9) v65 := rd I63 rfl z66
  refine r_if_le (tgt := 66) S dX3_begin_59 (by decide) (fun c68 => ?_) (fun c68 => ?_)
  ·
    have r69 : R (0) (0) v65 := ⟨by omega, by omega⟩
    refine r_iconst S dX3_begin_66 (by decide) (fun v70 z71 => ?_)
    have r72 := R_eq z71
    refine r_put (K := 23) (ty := .int) S X62 (Nat.le_of_ble_eq_true rfl) rfl lk3_24_3 (fun _ => ⟨_, rfl, Nat.le_of_ble_eq_true rfl, rfl⟩) (fun _ _ _ h => by cases h; exact ⟨rfl, rfl⟩) rfl rfl dX3_begin_67 (fun t73 H lc M74 X75 => ?_)
    have I76 := Inv_mu I63 M74 (show Rg (kd 30) 8 v70 from (R_of (lo := -1) (hi := 8) r72 rfl))
    have F77 : Fr [(30, 4), (30, 5), (30, 6), (30, 7), (30, 8), (30, 9), (30, 10)] [31, 33, 34] τ t73 := Fr_mu F64 M74 (by decide)
    refine r_aload_n S dX3_begin_70 rfl (lv_at hl 0 rfl) ?_
    refine r_iconst S dX3_begin_71 (by decide) (fun v78 z79 => ?_)
    have r80 := R_eq z79
    refine r_put (K := 23) (ty := .int) S X75 (Nat.le_of_ble_eq_true rfl) rfl lk3_60_3 (fun _ => ⟨_, rfl, Nat.le_of_ble_eq_true rfl, rfl⟩) (fun _ _ _ h => by cases h; exact ⟨rfl, rfl⟩) rfl rfl dX3_begin_72 (fun t81 H lc M82 X83 => ?_)
    have I84 := Inv_mu I76 M82 (R_any v78)
    have F85 : Fr [(30, 4), (30, 5), (30, 6), (30, 7), (30, 8), (30, 9), (30, 10)] [31, 33, 34] τ t81 := Fr_mu F77 M82 (by decide)
    refine r_aload_n S dX3_begin_75 rfl (lv_at hl 0 rfl) ?_
    refine r_iconst S dX3_begin_76 (by decide) (fun v86 z87 => ?_)
    have r88 := R_eq z87
    refine r_put (K := 23) (ty := .int) S X83 (Nat.le_of_ble_eq_true rfl) rfl lk3_63_3 (fun _ => ⟨_, rfl, Nat.le_of_ble_eq_true rfl, rfl⟩) (fun _ _ _ h => by cases h; exact ⟨rfl, rfl⟩) rfl rfl dX3_begin_77 (fun t89 H lc M90 X91 => ?_)
    have I92 := Inv_mu I84 M90 (R_any v86)
    have F93 : Fr [(30, 4), (30, 5), (30, 6), (30, 7), (30, 8), (30, 9), (30, 10)] [31, 33, 34] τ t89 := Fr_mu F85 M90 (by decide)
    exact r_vret S hr hlk X91 ⟨I92, F93, (WI_mk ((M90.2 23 2 (Or.inl (by decide))).trans ((M82.2 23 2 (Or.inl (by decide))).trans ((M74.2 23 2 (Or.inl (by decide))).trans z66))) ((M90.2 30 8 (Or.inr (by decide))).trans ((M82.2 30 8 (Or.inr (by decide))).trans M74.1)) (by omega))⟩ dX3_begin_80
  ·
    have r94 : R (1) (9) v65 := ⟨by omega, by omega⟩
    refine r_iconst S dX3_begin_62 (by decide) (fun v95 z96 => ?_)
    have r97 := R_eq z96
    refine r_goto (tgt := 67) S dX3_begin_63 (by decide) ?_
    refine r_put (K := 23) (ty := .int) S X62 (Nat.le_of_ble_eq_true rfl) rfl lk3_24_3 (fun _ => ⟨_, rfl, Nat.le_of_ble_eq_true rfl, rfl⟩) (fun _ _ _ h => by cases h; exact ⟨rfl, rfl⟩) rfl rfl dX3_begin_67 (fun t98 H lc M99 X100 => ?_)
    have I101 := Inv_mu I63 M99 (show Rg (kd 30) 8 v95 from (R_of (lo := -1) (hi := 8) r97 rfl))
    have F102 : Fr [(30, 4), (30, 5), (30, 6), (30, 7), (30, 8), (30, 9), (30, 10)] [31, 33, 34] τ t98 := Fr_mu F64 M99 (by decide)
    refine r_aload_n S dX3_begin_70 rfl (lv_at hl 0 rfl) ?_
    refine r_iconst S dX3_begin_71 (by decide) (fun v103 z104 => ?_)
    have r105 := R_eq z104
    refine r_put (K := 23) (ty := .int) S X100 (Nat.le_of_ble_eq_true rfl) rfl lk3_60_3 (fun _ => ⟨_, rfl, Nat.le_of_ble_eq_true rfl, rfl⟩) (fun _ _ _ h => by cases h; exact ⟨rfl, rfl⟩) rfl rfl dX3_begin_72 (fun t106 H lc M107 X108 => ?_)
    have I109 := Inv_mu I101 M107 (R_any v103)
    have F110 : Fr [(30, 4), (30, 5), (30, 6), (30, 7), (30, 8), (30, 9), (30, 10)] [31, 33, 34] τ t106 := Fr_mu F102 M107 (by decide)
    refine r_aload_n S dX3_begin_75 rfl (lv_at hl 0 rfl) ?_
    refine r_iconst S dX3_begin_76 (by decide) (fun v111 z112 => ?_)
    have r113 := R_eq z112
    refine r_put (K := 23) (ty := .int) S X108 (Nat.le_of_ble_eq_true rfl) rfl lk3_63_3 (fun _ => ⟨_, rfl, Nat.le_of_ble_eq_true rfl, rfl⟩) (fun _ _ _ h => by cases h; exact ⟨rfl, rfl⟩) rfl rfl dX3_begin_77 (fun t114 H lc M115 X116 => ?_)
    have I117 := Inv_mu I109 M115 (R_any v111)
    have F118 : Fr [(30, 4), (30, 5), (30, 6), (30, 7), (30, 8), (30, 9), (30, 10)] [31, 33, 34] τ t114 := Fr_mu F110 M115 (by decide)
    exact r_vret S hr hlk X116 ⟨I117, F118, (WI_mk ((M115.2 23 2 (Or.inl (by decide))).trans ((M107.2 23 2 (Or.inl (by decide))).trans ((M99.2 23 2 (Or.inl (by decide))).trans z66))) ((M115.2 30 8 (Or.inr (by decide))).trans ((M107.2 30 8 (Or.inr (by decide))).trans M99.1)) (by omega))⟩ dX3_begin_80
