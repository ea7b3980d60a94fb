def po_X10_begin (τ : Tau)     (u : Tau) : Prop := Inv u ∧ Fr [(23, 0), (23, 1), (23, 2), (23, 3), (23, 4), (30, 4), (30, 5), (30, 6), (30, 7), (30, 8), (30, 9), (30, 10), (35, 4)] [24, 25, 26, 27, 31, 33, 34, 228, 229] τ u ∧ WI u ∧ u 23 0 = τ 4 0 ∧ u 23 1 = τ 4 1 ∧ u 23 2 = τ 4 2 ∧ u 23 3 = τ 4 3 ∧ u 23 4 = τ 4 4
set_option maxHeartbeats 4000000 in
set_option maxRecDepth 100000 in
theorem c_X10_begin (l : Launch) (G : Gx) (τ : Tau) (hI : Inv τ) : Cv l G yX10_begin cX10_begin 2 2 81 [.ref (G.2.2.2.1 22), .ref (G.2.2.2.1 4)] τ (po_X10_begin τ    ) := by
  unfold Cv
  refine C_of (own := RX10) (by decide) rfl (Nat.le_of_ble_eq_true rfl) ?_
  intro p e s m below meth c ls S hr hlk X hl
  have hl : lv_has ls 2 [(0, .ref (G.2.2.2.1 22)), (1, .ref (G.2.2.2.1 4))] := hl
  refine r_aload_n S dX10_begin_0 rfl (lv_at hl 0 rfl) ?_
  refine r_get (K := 22) (v := .ref (G.2.2.2.1 23)) S X (Nat.le_of_ble_eq_true rfl) rfl lk10_12_8 (fun _ => ⟨_, rfl, rfl⟩) dX10_begin_1 ?_
  refine r_aload_n S dX10_begin_4 rfl (lv_at hl 1 rfl) ?_
  refine r_kv (q_V (As := [.ref (G.2.2.2.1 4)]) (rest := []) (K := 4) (ci := 2) S X (c_pcopy_23_4 l G τ hI ) ck10_32 (Nat.le_of_ble_eq_true rfl) rfl (fun _ => ⟨_, rfl⟩) ⟨_, _, rfl⟩ ⟨Nat.le_of_ble_eq_true rfl, Nat.le_of_ble_eq_true rfl⟩ rfl hl.1 rfl (Nat.le_of_ble_eq_true rfl) dX10_begin_5 ⟨Nat.le_refl 0, Nat.le_refl 0⟩) X (fun t3 H lc q1 X2 => ?_)
  unfold po_pcopy_23_4 at q1
  obtain ⟨v4, z5⟩ : ∃ x, τ 4 2 = x := ⟨_, rfl⟩
  have r6 : R (0) (9) v4 := rd hI rfl z5
  obtain ⟨v7, z8⟩ : ∃ x, τ 4 0 = x := ⟨_, rfl⟩
  have r9 : R (0) (8) v7 := rd hI rfl z8
  obtain ⟨v10, z11⟩ : ∃ x, τ 4 1 = x := ⟨_, rfl⟩
  have r12 : R (0) (9) v10 := rd hI rfl z11
  obtain ⟨v13, z14⟩ : ∃ x, τ 4 3 = x := ⟨_, rfl⟩
  have r15 : R (0) (10) v13 := rd hI rfl z14
  obtain ⟨v16, z17⟩ : ∃ x, τ 4 4 = x := ⟨_, rfl⟩
  have r18 := R_any v16
  obtain ⟨q19, q20, q21, q22, q23, q24, q25⟩ := q1
  have F26 : Fr [(23, 0), (23, 1), (23, 2), (23, 3), (23, 4), (30, 4), (30, 5), (30, 6), (30, 7), (30, 8), (30, 9), (30, 10), (35, 4)] [24, 25, 26, 27, 31, 33, 34, 228, 229] τ t3 := Fr_call Fr_rfl q20 (by decide)
  refine r_aload_n S dX10_begin_8 rfl (lv_at hl 0 rfl) ?_
  refine r_get (K := 22) (v := .ref (G.2.2.2.1 30)) S X2 (Nat.le_of_ble_eq_true rfl) rfl lk10_21_8 (fun _ => ⟨_, rfl, rfl⟩) dX10_begin_9 ?_
  refine r_aload_n S dX10_begin_12 rfl (lv_at hl 0 rfl) ?_
  refine r_get (K := 22) (v := .ref (G.2.2.2.1 23)) S X2 (Nat.le_of_ble_eq_true rfl) rfl lk10_12_8 (fun _ => ⟨_, rfl, rfl⟩) dX10_begin_13 ?_
  refine r_kv (q_V (As := [.ref (G.2.2.2.1 23)]) (rest := []) (K := 23) (ci := 3) S X2 (c_X3_begin l G t3 q19 ) ck10_36 (Nat.le_of_ble_eq_true rfl) rfl (fun _ => ⟨_, rfl⟩) ⟨_, _, rfl⟩ ⟨Nat.le_of_ble_eq_true rfl, Nat.le_of_ble_eq_true rfl⟩ rfl hl.1 rfl (Nat.le_of_ble_eq_true rfl) dX10_begin_16 ⟨Nat.le_refl 0, Nat.le_refl 0⟩) X2 (fun t29 H lc q27 X28 => ?_)
  unfold po_X3_begin at q27
  obtain ⟨q30, q31, q32⟩ := q27
  have F33 : Fr [(23, 0), (23, 1), (23, 2), (23, 3), (23, 4), (30, 4), (30, 5), (30, 6), (30, 7), (30, 8), (30, 9), (30, 10), (35, 4)] [24, 25, 26, 27, 31, 33, 34, 228, 229] τ t29 := Fr_call F26 q31 (by decide)
  refine r_aload_n S dX10_begin_19 rfl (lv_at hl 0 rfl) ?_
  refine r_get (K := 22) (v := .ref (G.2.2.2.1 35)) S X28 (Nat.le_of_ble_eq_true rfl) rfl lk10_28_8 (fun _ => ⟨_, rfl, rfl⟩) dX10_begin_20 ?_
  refine r_iconst S dX10_begin_23 (by decide) (fun v34 z35 => ?_)
  have r36 := R_eq z35
  refine r_put (K := 17) (ty := .int) S X28 (Nat.le_of_ble_eq_true rfl) rfl lk10_39_5 (fun _ => ⟨_, rfl, Nat.le_of_ble_eq_true rfl, rfl⟩) (fun _ _ _ h => by cases h; exact ⟨rfl, rfl⟩) rfl rfl dX10_begin_24 (fun t37 H lc M38 X39 => ?_)
  have I40 := Inv_mu q30 M38 (show Rg (kd 35) 4 v34 from (R_of (lo := 0) (hi := 40) r36 rfl))
  have F41 : Fr [(23, 0), (23, 1), (23, 2), (23, 3), (23, 4), (30, 4), (30, 5), (30, 6), (30, 7), (30, 8), (30, 9), (30, 10), (35, 4)] [24, 25, 26, 27, 31, 33, 34, 228, 229] τ t37 := Fr_mu F33 M38 (by decide)
  exact r_vret S hr hlk X39 ⟨I40, F41, (WI_eq q32 ((M38.2 23 2 (Or.inl (by decide))).trans rfl) ((M38.2 30 8 (Or.inl (by decide))).trans rfl)), (((M38.2 23 0 (Or.inl (by decide))).trans ((q31 23 0 (by decide)).trans (q22.trans z8))).trans (rfl.symm.trans z8).symm), (((M38.2 23 1 (Or.inl (by decide))).trans ((q31 23 1 (by decide)).trans (q23.trans z11))).trans (rfl.symm.trans z11).symm), (((M38.2 23 2 (Or.inl (by decide))).trans ((q31 23 2 (by decide)).trans (q21.trans z5))).trans (rfl.symm.trans z5).symm), (((M38.2 23 3 (Or.inl (by decide))).trans ((q31 23 3 (by decide)).trans (q24.trans z14))).trans (rfl.symm.trans z14).symm), (((M38.2 23 4 (Or.inl (by decide))).trans ((q31 23 4 (by decide)).trans (q25.trans z17))).trans (rfl.symm.trans z17).symm)⟩ dX10_begin_27
def po_X11_remember (τ : Tau)     (u : Tau) : Prop := Inv u ∧ Fr [(0, 8), (0, 9)] [52, 53, 54, 55, 56, 57, 58, 59, 60, 61, 62, 63, 64, 65, 66, 67, 68, 69, 70, 71, 72, 73, 74, 75, 76, 77, 78, 79, 80, 81, 82, 83, 84, 85, 86, 87, 88, 89, 90, 91] τ u ∧ HI u
set_option maxHeartbeats 4000000 in
set_option maxRecDepth 100000 in
theorem c_X11_remember (l : Launch) (G : Gx) (τ : Tau) (hI : Inv τ) (hWI : WI τ) (hHI : HI τ) : Cv l G yX11_remember cX11_remember 1 2 81 [.ref (G.2.2.2.1 0)] τ (po_X11_remember τ    ) := by
  unfold Cv
  refine C_of (own := RX11) (by decide) rfl (Nat.le_of_ble_eq_true rfl) ?_
  intro p e s m below meth c ls S hr hlk X hl
  have hl : lv_has ls 1 [(0, .ref (G.2.2.2.1 0))] := hl
  refine r_aload_n S dX11_remember_0 rfl (lv_at hl 0 rfl) ?_
  refine r_get (K := 0) (v := .ref (G.2.2.2.1 51)) S X (Nat.le_of_ble_eq_true rfl) rfl lk11_60_9 (fun _ => ⟨_, rfl, rfl⟩) dX11_remember_1 ?_
  refine r_aload_n S dX11_remember_4 rfl (lv_at hl 0 rfl) ?_
  refine r_getn (K := 0) S X (Nat.le_of_ble_eq_true rfl) rfl lk11_203_9 (fun _ => ⟨_, rfl, rfl⟩) dX11_remember_5 (fun v1 z2 => ?_)
  have r3 : R (0) (7) v1 := rd hI rfl z2
  refine r_aload_n S dX11_remember_8 rfl (lv_at hl 0 rfl) ?_
  refine r_getn (K := 0) S X (Nat.le_of_ble_eq_true rfl) rfl lk11_116_9 (fun _ => ⟨_, rfl, rfl⟩) dX11_remember_9 (fun v4 z5 => ?_)
  have r6 : R (0) (8) v4 := rd hI rfl z5
  refine r_iadd S dX11_remember_12 (fun v7 z8 => ?_)
  obtain ⟨e9, r10⟩ := i_add (lo := 0) (hi := 15) z8 r3 r6 rfl
  refine r_bipush S dX11_remember_13 (by decide) (fun v11 z12 => ?_)
  have r13 := R_eq z12
  refine r_irem S dX11_remember_15 (by omega) (fun v14 z15 => ?_)
  have r17 : R (0) (7) v14 := i_rem0 z15 r10 r13 rfl
  have e18 : v14.toInt = v7.toInt % 8 := i_remc z15 r10 r13 rfl
  refine r_aldS S X (ix_of r17 rfl) dX11_remember_16 (fun n19 h20 h21 => ?_)
  rcases (show n19 = 0 ∨ n19 = 1 ∨ n19 = 2 ∨ n19 = 3 ∨ n19 = 4 ∨ n19 = 5 ∨ n19 = 6 ∨ n19 = 7 by omega) with rfl | rfl | rfl | rfl | rfl | rfl | rfl | rfl
  ·
    refine r_aload_n S dX11_remember_17 rfl (lv_at hl 0 rfl) ?_
    refine r_get (K := 0) (v := .ref (G.2.2.2.1 22)) S X (Nat.le_of_ble_eq_true rfl) rfl lk11_42_9 (fun _ => ⟨_, rfl, rfl⟩) dX11_remember_18 ?_
    refine r_get (K := 22) (v := .ref (G.2.2.2.1 30)) S X (Nat.le_of_ble_eq_true rfl) rfl lk11_129_8 (fun _ => ⟨_, rfl, rfl⟩) dX11_remember_21 ?_
    refine r_kv (q_V (As := [.ref (G.2.2.2.1 30)]) (rest := []) (K := 23) (ci := 3) S X (c_scopy_52_30 l G τ hI ) ck11_206 (Nat.le_of_ble_eq_true rfl) rfl (fun _ => ⟨_, rfl⟩) ⟨_, _, rfl⟩ ⟨Nat.le_of_ble_eq_true rfl, Nat.le_of_ble_eq_true rfl⟩ rfl hl.1 rfl (Nat.le_of_ble_eq_true rfl) dX11_remember_24 ⟨Nat.le_refl 0, Nat.le_refl 0⟩) X (fun t24 H lc q22 X23 => ?_)
    unfold po_scopy_52_30 at q22
    obtain ⟨v25, z26⟩ : ∃ x, τ 30 8 = x := ⟨_, rfl⟩
    have r27 : R (-1) (8) v25 := rd hI rfl z26
    obtain ⟨q28, q29, q30⟩ := q22
    have F31 : Fr [(0, 8), (0, 9)] [52, 53, 54, 55, 56, 57, 58, 59, 60, 61, 62, 63, 64, 65, 66, 67, 68, 69, 70, 71, 72, 73, 74, 75, 76, 77, 78, 79, 80, 81, 82, 83, 84, 85, 86, 87, 88, 89, 90, 91] τ t24 := Fr_call Fr_rfl q29 (by decide)
    refine r_aload_n S dX11_remember_27 rfl (lv_at hl 0 rfl) ?_
    refine r_geti (K := 0) S X23 (Nat.le_of_ble_eq_true rfl) rfl lk11_116_9 (fun _ => ⟨_, rfl, rfl⟩) ((q29 0 9 (by decide)).trans z5) dX11_remember_28 ?_
    refine r_bipush S dX11_remember_31 (by decide) (fun v32 z33 => ?_)
    have r34 := R_eq z33
    refine r_icmp_ge (tgt := 49) S dX11_remember_33 (by decide) (fun c35 => ?_) (fun c35 => ?_)
    ·
      have r36 : R (8) (8) v4 := ⟨by omega, by omega⟩
      refine r_aload_n S dX11_remember_49 rfl (lv_at hl 0 rfl) ?_
      refine r_aload_n S dX11_remember_50 rfl (lv_at hl 0 rfl) ?_
      refine r_geti (K := 0) S X23 (Nat.le_of_ble_eq_true rfl) rfl lk11_203_9 (fun _ => ⟨_, rfl, rfl⟩) ((q29 0 8 (by decide)).trans z2) dX11_remember_51 ?_
      refine r_iconst S dX11_remember_54 (by decide) (fun v37 z38 => ?_)
      have r39 := R_eq z38
      refine r_iadd S dX11_remember_55 (fun v40 z41 => ?_)
      obtain ⟨e42, r43⟩ := i_add (lo := 1) (hi := 8) z41 r3 r39 rfl
      refine r_bipush S dX11_remember_56 (by decide) (fun v44 z45 => ?_)
      have r46 := R_eq z45
      refine r_irem S dX11_remember_58 (by omega) (fun v47 z48 => ?_)
      have r50 : R (0) (7) v47 := i_rem0 z48 r43 r46 rfl
      have e51 : v47.toInt = v40.toInt % 8 := i_remc z48 r43 r46 rfl
      refine r_put (K := 0) (ty := .int) S X23 (Nat.le_of_ble_eq_true rfl) rfl lk11_203_9 (fun _ => ⟨_, rfl, Nat.le_of_ble_eq_true rfl, rfl⟩) (fun _ _ _ h => by cases h; exact ⟨rfl, rfl⟩) rfl rfl dX11_remember_59 (fun t52 H lc M53 X54 => ?_)
      have I55 := Inv_mu q28 M53 (show Rg (kd 0) 8 v47 from (R_of (lo := 0) (hi := 7) r50 rfl))
      have F56 : Fr [(0, 8), (0, 9)] [52, 53, 54, 55, 56, 57, 58, 59, 60, 61, 62, 63, 64, 65, 66, 67, 68, 69, 70, 71, 72, 73, 74, 75, 76, 77, 78, 79, 80, 81, 82, 83, 84, 85, 86, 87, 88, 89, 90, 91] τ t52 := Fr_mu F31 M53 (by decide)
      exact r_vret S hr hlk X54 ⟨I55, F56, (HI_rem2 (j := 0) hHI hWI (by decide) ((M53.2 23 2 (Or.inl (by decide))).trans ((q29 23 2 (by decide)).trans rfl)) (by have n0 := congrArg Int32.toInt M53.1; have n0_ := congrArg Int32.toInt z2; have n1 := congrArg Int32.toInt ((M53.2 0 9 (Or.inr (by decide))).trans ((q29 0 9 (by decide)).trans z5)); have n1_ := congrArg Int32.toInt z5; omega) (show t52 (52 + 5 * 0) 8 = τ 30 8 from (((M53.2 52 8 (Or.inl (by decide))).trans (q30.trans z26)).trans (rfl.symm.trans z26).symm)) (oth8 0 (fun h => absurd rfl h) (fun _ => ((M53.2 57 8 (Or.inl (by decide))).trans ((q29 57 8 (by decide)).trans rfl))) (fun _ => ((M53.2 62 8 (Or.inl (by decide))).trans ((q29 62 8 (by decide)).trans rfl))) (fun _ => ((M53.2 67 8 (Or.inl (by decide))).trans ((q29 67 8 (by decide)).trans rfl))) (fun _ => ((M53.2 72 8 (Or.inl (by decide))).trans ((q29 72 8 (by decide)).trans rfl))) (fun _ => ((M53.2 77 8 (Or.inl (by decide))).trans ((q29 77 8 (by decide)).trans rfl))) (fun _ => ((M53.2 82 8 (Or.inl (by decide))).trans ((q29 82 8 (by decide)).trans rfl))) (fun _ => ((M53.2 87 8 (Or.inl (by decide))).trans ((q29 87 8 (by decide)).trans rfl)))))⟩ dX11_remember_62
    ·
      have r57 : R (0) (7) v4 := ⟨by omega, by omega⟩
      refine r_aload_n S dX11_remember_36 rfl (lv_at hl 0 rfl) ?_
      refine r_dup S dX11_remember_37 rfl ?_
      refine r_geti (K := 0) S X23 (Nat.le_of_ble_eq_true rfl) rfl lk11_116_9 (fun _ => ⟨_, rfl, rfl⟩) ((q29 0 9 (by decide)).trans z5) dX11_remember_38 ?_
      refine r_iconst S dX11_remember_41 (by decide) (fun v58 z59 => ?_)
      have r60 := R_eq z59
      refine r_iadd S dX11_remember_42 (fun v61 z62 => ?_)
      obtain ⟨e63, r64⟩ := i_add (lo := 1) (hi := 8) z62 r57 r60 rfl
      refine r_put (K := 0) (ty := .int) S X23 (Nat.le_of_ble_eq_true rfl) rfl lk11_116_9 (fun _ => ⟨_, rfl, Nat.le_of_ble_eq_true rfl, rfl⟩) (fun _ _ _ h => by cases h; exact ⟨rfl, rfl⟩) rfl rfl dX11_remember_43 (fun t65 H lc M66 X67 => ?_)
      have I68 := Inv_mu q28 M66 (show Rg (kd 0) 9 v61 from (R_of (lo := 0) (hi := 8) r64 rfl))
      have F69 : Fr [(0, 8), (0, 9)] [52, 53, 54, 55, 56, 57, 58, 59, 60, 61, 62, 63, 64, 65, 66, 67, 68, 69, 70, 71, 72, 73, 74, 75, 76, 77, 78, 79, 80, 81, 82, 83, 84, 85, 86, 87, 88, 89, 90, 91] τ t65 := Fr_mu F31 M66 (by decide)
      refine r_goto (tgt := 62) S dX11_remember_46 (by decide) ?_
      exact r_vret S hr hlk X67 ⟨I68, F69, (HI_rem1 (j := 0) hHI hWI (by decide) ((M66.2 23 2 (Or.inl (by decide))).trans ((q29 23 2 (by decide)).trans rfl)) ((M66.2 0 8 (Or.inr (by decide))).trans ((q29 0 8 (by decide)).trans rfl)) (by have n0 := congrArg Int32.toInt ((M66.2 0 8 (Or.inr (by decide))).trans ((q29 0 8 (by decide)).trans z2)); have n0_ := congrArg Int32.toInt z2; have n1 := congrArg Int32.toInt M66.1; have n1_ := congrArg Int32.toInt z5; omega) (by have n0 := congrArg Int32.toInt ((M66.2 0 8 (Or.inr (by decide))).trans ((q29 0 8 (by decide)).trans z2)); have n0_ := congrArg Int32.toInt z2; have n1 := congrArg Int32.toInt M66.1; have n1_ := congrArg Int32.toInt z5; omega) (show t65 (52 + 5 * 0) 8 = τ 30 8 from (((M66.2 52 8 (Or.inl (by decide))).trans (q30.trans z26)).trans (rfl.symm.trans z26).symm)) (oth8 0 (fun h => absurd rfl h) (fun _ => ((M66.2 57 8 (Or.inl (by decide))).trans ((q29 57 8 (by decide)).trans rfl))) (fun _ => ((M66.2 62 8 (Or.inl (by decide))).trans ((q29 62 8 (by decide)).trans rfl))) (fun _ => ((M66.2 67 8 (Or.inl (by decide))).trans ((q29 67 8 (by decide)).trans rfl))) (fun _ => ((M66.2 72 8 (Or.inl (by decide))).trans ((q29 72 8 (by decide)).trans rfl))) (fun _ => ((M66.2 77 8 (Or.inl (by decide))).trans ((q29 77 8 (by decide)).trans rfl))) (fun _ => ((M66.2 82 8 (Or.inl (by decide))).trans ((q29 82 8 (by decide)).trans rfl))) (fun _ => ((M66.2 87 8 (Or.inl (by decide))).trans ((q29 87 8 (by decide)).trans rfl)))))⟩ dX11_remember_62
  ·
    refine r_aload_n S dX11_remember_17 rfl (lv_at hl 0 rfl) ?_
    refine r_get (K := 0) (v := .ref (G.2.2.2.1 22)) S X (Nat.le_of_ble_eq_true rfl) rfl lk11_42_9 (fun _ => ⟨_, rfl, rfl⟩) dX11_remember_18 ?_
    refine r_get (K := 22) (v := .ref (G.2.2.2.1 30)) S X (Nat.le_of_ble_eq_true rfl) rfl lk11_129_8 (fun _ => ⟨_, rfl, rfl⟩) dX11_remember_21 ?_
    refine r_kv (q_V (As := [.ref (G.2.2.2.1 30)]) (rest := []) (K := 23) (ci := 3) S X (c_scopy_57_30 l G τ hI ) ck11_206 (Nat.le_of_ble_eq_true rfl) rfl (fun _ => ⟨_, rfl⟩) ⟨_, _, rfl⟩ ⟨Nat.le_of_ble_eq_true rfl, Nat.le_of_ble_eq_true rfl⟩ rfl hl.1 rfl (Nat.le_of_ble_eq_true rfl) dX11_remember_24 ⟨Nat.le_refl 0, Nat.le_refl 0⟩) X (fun t72 H lc q70 X71 => ?_)
    unfold po_scopy_57_30 at q70
    obtain ⟨v73, z74⟩ : ∃ x, τ 30 8 = x := ⟨_, rfl⟩
    have r75 : R (-1) (8) v73 := rd hI rfl z74
    obtain ⟨q76, q77, q78⟩ := q70
    have F79 : Fr [(0, 8), (0, 9)] [52, 53, 54, 55, 56, 57, 58, 59, 60, 61, 62, 63, 64, 65, 66, 67, 68, 69, 70, 71, 72, 73, 74, 75, 76, 77, 78, 79, 80, 81, 82, 83, 84, 85, 86, 87, 88, 89, 90, 91] τ t72 := Fr_call Fr_rfl q77 (by decide)
    refine r_aload_n S dX11_remember_27 rfl (lv_at hl 0 rfl) ?_
    refine r_geti (K := 0) S X71 (Nat.le_of_ble_eq_true rfl) rfl lk11_116_9 (fun _ => ⟨_, rfl, rfl⟩) ((q77 0 9 (by decide)).trans z5) dX11_remember_28 ?_
    refine r_bipush S dX11_remember_31 (by decide) (fun v80 z81 => ?_)
    have r82 := R_eq z81
    refine r_icmp_ge (tgt := 49) S dX11_remember_33 (by decide) (fun c83 => ?_) (fun c83 => ?_)
    ·
      have r84 : R (8) (8) v4 := ⟨by omega, by omega⟩
      refine r_aload_n S dX11_remember_49 rfl (lv_at hl 0 rfl) ?_
      refine r_aload_n S dX11_remember_50 rfl (lv_at hl 0 rfl) ?_
      refine r_geti (K := 0) S X71 (Nat.le_of_ble_eq_true rfl) rfl lk11_203_9 (fun _ => ⟨_, rfl, rfl⟩) ((q77 0 8 (by decide)).trans z2) dX11_remember_51 ?_
      refine r_iconst S dX11_remember_54 (by decide) (fun v85 z86 => ?_)
      have r87 := R_eq z86
      refine r_iadd S dX11_remember_55 (fun v88 z89 => ?_)
      obtain ⟨e90, r91⟩ := i_add (lo := 1) (hi := 8) z89 r3 r87 rfl
      refine r_bipush S dX11_remember_56 (by decide) (fun v92 z93 => ?_)
      have r94 := R_eq z93
      refine r_irem S dX11_remember_58 (by omega) (fun v95 z96 => ?_)
      have r98 : R (0) (7) v95 := i_rem0 z96 r91 r94 rfl
      have e99 : v95.toInt = v88.toInt % 8 := i_remc z96 r91 r94 rfl
      refine r_put (K := 0) (ty := .int) S X71 (Nat.le_of_ble_eq_true rfl) rfl lk11_203_9 (fun _ => ⟨_, rfl, Nat.le_of_ble_eq_true rfl, rfl⟩) (fun _ _ _ h => by cases h; exact ⟨rfl, rfl⟩) rfl rfl dX11_remember_59 (fun t100 H lc M101 X102 => ?_)
      have I103 := Inv_mu q76 M101 (show Rg (kd 0) 8 v95 from (R_of (lo := 0) (hi := 7) r98 rfl))
      have F104 : Fr [(0, 8), (0, 9)] [52, 53, 54, 55, 56, 57, 58, 59, 60, 61, 62, 63, 64, 65, 66, 67, 68, 69, 70, 71, 72, 73, 74, 75, 76, 77, 78, 79, 80, 81, 82, 83, 84, 85, 86, 87, 88, 89, 90, 91] τ t100 := Fr_mu F79 M101 (by decide)
      exact r_vret S hr hlk X102 ⟨I103, F104, (HI_rem2 (j := 1) hHI hWI (by decide) ((M101.2 23 2 (Or.inl (by decide))).trans ((q77 23 2 (by decide)).trans rfl)) (by have n0 := congrArg Int32.toInt M101.1; have n0_ := congrArg Int32.toInt z2; have n1 := congrArg Int32.toInt ((M101.2 0 9 (Or.inr (by decide))).trans ((q77 0 9 (by decide)).trans z5)); have n1_ := congrArg Int32.toInt z5; omega) (show t100 (52 + 5 * 1) 8 = τ 30 8 from (((M101.2 57 8 (Or.inl (by decide))).trans (q78.trans z74)).trans (rfl.symm.trans z74).symm)) (oth8 1 (fun _ => ((M101.2 52 8 (Or.inl (by decide))).trans ((q77 52 8 (by decide)).trans rfl))) (fun h => absurd rfl h) (fun _ => ((M101.2 62 8 (Or.inl (by decide))).trans ((q77 62 8 (by decide)).trans rfl))) (fun _ => ((M101.2 67 8 (Or.inl (by decide))).trans ((q77 67 8 (by decide)).trans rfl))) (fun _ => ((M101.2 72 8 (Or.inl (by decide))).trans ((q77 72 8 (by decide)).trans rfl))) (fun _ => ((M101.2 77 8 (Or.inl (by decide))).trans ((q77 77 8 (by decide)).trans rfl))) (fun _ => ((M101.2 82 8 (Or.inl (by decide))).trans ((q77 82 8 (by decide)).trans rfl))) (fun _ => ((M101.2 87 8 (Or.inl (by decide))).trans ((q77 87 8 (by decide)).trans rfl)))))⟩ dX11_remember_62
    ·
      have r105 : R (0) (7) v4 := ⟨by omega, by omega⟩
      refine r_aload_n S dX11_remember_36 rfl (lv_at hl 0 rfl) ?_
      refine r_dup S dX11_remember_37 rfl ?_
      refine r_geti (K := 0) S X71 (Nat.le_of_ble_eq_true rfl) rfl lk11_116_9 (fun _ => ⟨_, rfl, rfl⟩) ((q77 0 9 (by decide)).trans z5) dX11_remember_38 ?_
      refine r_iconst S dX11_remember_41 (by decide) (fun v106 z107 => ?_)
      have r108 := R_eq z107
      refine r_iadd S dX11_remember_42 (fun v109 z110 => ?_)
      obtain ⟨e111, r112⟩ := i_add (lo := 1) (hi := 8) z110 r105 r108 rfl
      refine r_put (K := 0) (ty := .int) S X71 (Nat.le_of_ble_eq_true rfl) rfl lk11_116_9 (fun _ => ⟨_, rfl, Nat.le_of_ble_eq_true rfl, rfl⟩) (fun _ _ _ h => by cases h; exact ⟨rfl, rfl⟩) rfl rfl dX11_remember_43 (fun t113 H lc M114 X115 => ?_)
      have I116 := Inv_mu q76 M114 (show Rg (kd 0) 9 v109 from (R_of (lo := 0) (hi := 8) r112 rfl))
      have F117 : Fr [(0, 8), (0, 9)] [52, 53, 54, 55, 56, 57, 58, 59, 60, 61, 62, 63, 64, 65, 66, 67, 68, 69, 70, 71, 72, 73, 74, 75, 76, 77, 78, 79, 80, 81, 82, 83, 84, 85, 86, 87, 88, 89, 90, 91] τ t113 := Fr_mu F79 M114 (by decide)
      refine r_goto (tgt := 62) S dX11_remember_46 (by decide) ?_
      exact r_vret S hr hlk X115 ⟨I116, F117, (HI_rem1 (j := 1) hHI hWI (by decide) ((M114.2 23 2 (Or.inl (by decide))).trans ((q77 23 2 (by decide)).trans rfl)) ((M114.2 0 8 (Or.inr (by decide))).trans ((q77 0 8 (by decide)).trans rfl)) (by have n0 := congrArg Int32.toInt ((M114.2 0 8 (Or.inr (by decide))).trans ((q77 0 8 (by decide)).trans z2)); have n0_ := congrArg Int32.toInt z2; have n1 := congrArg Int32.toInt M114.1; have n1_ := congrArg Int32.toInt z5; omega) (by have n0 := congrArg Int32.toInt ((M114.2 0 8 (Or.inr (by decide))).trans ((q77 0 8 (by decide)).trans z2)); have n0_ := congrArg Int32.toInt z2; have n1 := congrArg Int32.toInt M114.1; have n1_ := congrArg Int32.toInt z5; omega) (show t113 (52 + 5 * 1) 8 = τ 30 8 from (((M114.2 57 8 (Or.inl (by decide))).trans (q78.trans z74)).trans (rfl.symm.trans z74).symm)) (oth8 1 (fun _ => ((M114.2 52 8 (Or.inl (by decide))).trans ((q77 52 8 (by decide)).trans rfl))) (fun h => absurd rfl h) (fun _ => ((M114.2 62 8 (Or.inl (by decide))).trans ((q77 62 8 (by decide)).trans rfl))) (fun _ => ((M114.2 67 8 (Or.inl (by decide))).trans ((q77 67 8 (by decide)).trans rfl))) (fun _ => ((M114.2 72 8 (Or.inl (by decide))).trans ((q77 72 8 (by decide)).trans rfl))) (fun _ => ((M114.2 77 8 (Or.inl (by decide))).trans ((q77 77 8 (by decide)).trans rfl))) (fun _ => ((M114.2 82 8 (Or.inl (by decide))).trans ((q77 82 8 (by decide)).trans rfl))) (fun _ => ((M114.2 87 8 (Or.inl (by decide))).trans ((q77 87 8 (by decide)).trans rfl)))))⟩ dX11_remember_62
  ·
    refine r_aload_n S dX11_remember_17 rfl (lv_at hl 0 rfl) ?_
    refine r_get (K := 0) (v := .ref (G.2.2.2.1 22)) S X (Nat.le_of_ble_eq_true rfl) rfl lk11_42_9 (fun _ => ⟨_, rfl, rfl⟩) dX11_remember_18 ?_
    refine r_get (K := 22) (v := .ref (G.2.2.2.1 30)) S X (Nat.le_of_ble_eq_true rfl) rfl lk11_129_8 (fun _ => ⟨_, rfl, rfl⟩) dX11_remember_21 ?_
    refine r_kv (q_V (As := [.ref (G.2.2.2.1 30)]) (rest := []) (K := 23) (ci := 3) S X (c_scopy_62_30 l G τ hI ) ck11_206 (Nat.le_of_ble_eq_true rfl) rfl (fun _ => ⟨_, rfl⟩) ⟨_, _, rfl⟩ ⟨Nat.le_of_ble_eq_true rfl, Nat.le_of_ble_eq_true rfl⟩ rfl hl.1 rfl (Nat.le_of_ble_eq_true rfl) dX11_remember_24 ⟨Nat.le_refl 0, Nat.le_refl 0⟩) X (fun t120 H lc q118 X119 => ?_)
    unfold po_scopy_62_30 at q118
    obtain ⟨v121, z122⟩ : ∃ x, τ 30 8 = x := ⟨_, rfl⟩
    have r123 : R (-1) (8) v121 := rd hI rfl z122
    obtain ⟨q124, q125, q126⟩ := q118
    have F127 : Fr [(0, 8), (0, 9)] [52, 53, 54, 55, 56, 57, 58, 59, 60, 61, 62, 63, 64, 65, 66, 67, 68, 69, 70, 71, 72, 73, 74, 75, 76, 77, 78, 79, 80, 81, 82, 83, 84, 85, 86, 87, 88, 89, 90, 91] τ t120 := Fr_call Fr_rfl q125 (by decide)
    refine r_aload_n S dX11_remember_27 rfl (lv_at hl 0 rfl) ?_
    refine r_geti (K := 0) S X119 (Nat.le_of_ble_eq_true rfl) rfl lk11_116_9 (fun _ => ⟨_, rfl, rfl⟩) ((q125 0 9 (by decide)).trans z5) dX11_remember_28 ?_
    refine r_bipush S dX11_remember_31 (by decide) (fun v128 z129 => ?_)
    have r130 := R_eq z129
    refine r_icmp_ge (tgt := 49) S dX11_remember_33 (by decide) (fun c131 => ?_) (fun c131 => ?_)
    ·
      have r132 : R (8) (8) v4 := ⟨by omega, by omega⟩
      refine r_aload_n S dX11_remember_49 rfl (lv_at hl 0 rfl) ?_
      refine r_aload_n S dX11_remember_50 rfl (lv_at hl 0 rfl) ?_
      refine r_geti (K := 0) S X119 (Nat.le_of_ble_eq_true rfl) rfl lk11_203_9 (fun _ => ⟨_, rfl, rfl⟩) ((q125 0 8 (by decide)).trans z2) dX11_remember_51 ?_
      refine r_iconst S dX11_remember_54 (by decide) (fun v133 z134 => ?_)
      have r135 := R_eq z134
      refine r_iadd S dX11_remember_55 (fun v136 z137 => ?_)
      obtain ⟨e138, r139⟩ := i_add (lo := 1) (hi := 8) z137 r3 r135 rfl
      refine r_bipush S dX11_remember_56 (by decide) (fun v140 z141 => ?_)
      have r142 := R_eq z141
      refine r_irem S dX11_remember_58 (by omega) (fun v143 z144 => ?_)
      have r146 : R (0) (7) v143 := i_rem0 z144 r139 r142 rfl
      have e147 : v143.toInt = v136.toInt % 8 := i_remc z144 r139 r142 rfl
      refine r_put (K := 0) (ty := .int) S X119 (Nat.le_of_ble_eq_true rfl) rfl lk11_203_9 (fun _ => ⟨_, rfl, Nat.le_of_ble_eq_true rfl, rfl⟩) (fun _ _ _ h => by cases h; exact ⟨rfl, rfl⟩) rfl rfl dX11_remember_59 (fun t148 H lc M149 X150 => ?_)
      have I151 := Inv_mu q124 M149 (show Rg (kd 0) 8 v143 from (R_of (lo := 0) (hi := 7) r146 rfl))
      have F152 : Fr [(0, 8), (0, 9)] [52, 53, 54, 55, 56, 57, 58, 59, 60, 61, 62, 63, 64, 65, 66, 67, 68, 69, 70, 71, 72, 73, 74, 75, 76, 77, 78, 79, 80, 81, 82, 83, 84, 85, 86, 87, 88, 89, 90, 91] τ t148 := Fr_mu F127 M149 (by decide)
      exact r_vret S hr hlk X150 ⟨I151, F152, (HI_rem2 (j := 2) hHI hWI (by decide) ((M149.2 23 2 (Or.inl (by decide))).trans ((q125 23 2 (by decide)).trans rfl)) (by have n0 := congrArg Int32.toInt M149.1; have n0_ := congrArg Int32.toInt z2; have n1 := congrArg Int32.toInt ((M149.2 0 9 (Or.inr (by decide))).trans ((q125 0 9 (by decide)).trans z5)); have n1_ := congrArg Int32.toInt z5; omega) (show t148 (52 + 5 * 2) 8 = τ 30 8 from (((M149.2 62 8 (Or.inl (by decide))).trans (q126.trans z122)).trans (rfl.symm.trans z122).symm)) (oth8 2 (fun _ => ((M149.2 52 8 (Or.inl (by decide))).trans ((q125 52 8 (by decide)).trans rfl))) (fun _ => ((M149.2 57 8 (Or.inl (by decide))).trans ((q125 57 8 (by decide)).trans rfl))) (fun h => absurd rfl h) (fun _ => ((M149.2 67 8 (Or.inl (by decide))).trans ((q125 67 8 (by decide)).trans rfl))) (fun _ => ((M149.2 72 8 (Or.inl (by decide))).trans ((q125 72 8 (by decide)).trans rfl))) (fun _ => ((M149.2 77 8 (Or.inl (by decide))).trans ((q125 77 8 (by decide)).trans rfl))) (fun _ => ((M149.2 82 8 (Or.inl (by decide))).trans ((q125 82 8 (by decide)).trans rfl))) (fun _ => ((M149.2 87 8 (Or.inl (by decide))).trans ((q125 87 8 (by decide)).trans rfl)))))⟩ dX11_remember_62
    ·
      have r153 : R (0) (7) v4 := ⟨by omega, by omega⟩
      refine r_aload_n S dX11_remember_36 rfl (lv_at hl 0 rfl) ?_
      refine r_dup S dX11_remember_37 rfl ?_
      refine r_geti (K := 0) S X119 (Nat.le_of_ble_eq_true rfl) rfl lk11_116_9 (fun _ => ⟨_, rfl, rfl⟩) ((q125 0 9 (by decide)).trans z5) dX11_remember_38 ?_
      refine r_iconst S dX11_remember_41 (by decide) (fun v154 z155 => ?_)
      have r156 := R_eq z155
      refine r_iadd S dX11_remember_42 (fun v157 z158 => ?_)
      obtain ⟨e159, r160⟩ := i_add (lo := 1) (hi := 8) z158 r153 r156 rfl
      refine r_put (K := 0) (ty := .int) S X119 (Nat.le_of_ble_eq_true rfl) rfl lk11_116_9 (fun _ => ⟨_, rfl, Nat.le_of_ble_eq_true rfl, rfl⟩) (fun _ _ _ h => by cases h; exact ⟨rfl, rfl⟩) rfl rfl dX11_remember_43 (fun t161 H lc M162 X163 => ?_)
      have I164 := Inv_mu q124 M162 (show Rg (kd 0) 9 v157 from (R_of (lo := 0) (hi := 8) r160 rfl))
      have F165 : Fr [(0, 8), (0, 9)] [52, 53, 54, 55, 56, 57, 58, 59, 60, 61, 62, 63, 64, 65, 66, 67, 68, 69, 70, 71, 72, 73, 74, 75, 76, 77, 78, 79, 80, 81, 82, 83, 84, 85, 86, 87, 88, 89, 90, 91] τ t161 := Fr_mu F127 M162 (by decide)
      refine r_goto (tgt := 62) S dX11_remember_46 (by decide) ?_
      exact r_vret S hr hlk X163 ⟨I164, F165, (HI_rem1 (j := 2) hHI hWI (by decide) ((M162.2 23 2 (Or.inl (by decide))).trans ((q125 23 2 (by decide)).trans rfl)) ((M162.2 0 8 (Or.inr (by decide))).trans ((q125 0 8 (by decide)).trans rfl)) (by have n0 := congrArg Int32.toInt ((M162.2 0 8 (Or.inr (by decide))).trans ((q125 0 8 (by decide)).trans z2)); have n0_ := congrArg Int32.toInt z2; have n1 := congrArg Int32.toInt M162.1; have n1_ := congrArg Int32.toInt z5; omega) (by have n0 := congrArg Int32.toInt ((M162.2 0 8 (Or.inr (by decide))).trans ((q125 0 8 (by decide)).trans z2)); have n0_ := congrArg Int32.toInt z2; have n1 := congrArg Int32.toInt M162.1; have n1_ := congrArg Int32.toInt z5; omega) (show t161 (52 + 5 * 2) 8 = τ 30 8 from (((M162.2 62 8 (Or.inl (by decide))).trans (q126.trans z122)).trans (rfl.symm.trans z122).symm)) (oth8 2 (fun _ => ((M162.2 52 8 (Or.inl (by decide))).trans ((q125 52 8 (by decide)).trans rfl))) (fun _ => ((M162.2 57 8 (Or.inl (by decide))).trans ((q125 57 8 (by decide)).trans rfl))) (fun h => absurd rfl h) (fun _ => ((M162.2 67 8 (Or.inl (by decide))).trans ((q125 67 8 (by decide)).trans rfl))) (fun _ => ((M162.2 72 8 (Or.inl (by decide))).trans ((q125 72 8 (by decide)).trans rfl))) (fun _ => ((M162.2 77 8 (Or.inl (by decide))).trans ((q125 77 8 (by decide)).trans rfl))) (fun _ => ((M162.2 82 8 (Or.inl (by decide))).trans ((q125 82 8 (by decide)).trans rfl))) (fun _ => ((M162.2 87 8 (Or.inl (by decide))).trans ((q125 87 8 (by decide)).trans rfl)))))⟩ dX11_remember_62
  ·
    refine r_aload_n S dX11_remember_17 rfl (lv_at hl 0 rfl) ?_
    refine r_get (K := 0) (v := .ref (G.2.2.2.1 22)) S X (Nat.le_of_ble_eq_true rfl) rfl lk11_42_9 (fun _ => ⟨_, rfl, rfl⟩) dX11_remember_18 ?_
    refine r_get (K := 22) (v := .ref (G.2.2.2.1 30)) S X (Nat.le_of_ble_eq_true rfl) rfl lk11_129_8 (fun _ => ⟨_, rfl, rfl⟩) dX11_remember_21 ?_
    refine r_kv (q_V (As := [.ref (G.2.2.2.1 30)]) (rest := []) (K := 23) (ci := 3) S X (c_scopy_67_30 l G τ hI ) ck11_206 (Nat.le_of_ble_eq_true rfl) rfl (fun _ => ⟨_, rfl⟩) ⟨_, _, rfl⟩ ⟨Nat.le_of_ble_eq_true rfl, Nat.le_of_ble_eq_true rfl⟩ rfl hl.1 rfl (Nat.le_of_ble_eq_true rfl) dX11_remember_24 ⟨Nat.le_refl 0, Nat.le_refl 0⟩) X (fun t168 H lc q166 X167 => ?_)
    unfold po_scopy_67_30 at q166
    obtain ⟨v169, z170⟩ : ∃ x, τ 30 8 = x := ⟨_, rfl⟩
    have r171 : R (-1) (8) v169 := rd hI rfl z170
    obtain ⟨q172, q173, q174⟩ := q166
    have F175 : Fr [(0, 8), (0, 9)] [52, 53, 54, 55, 56, 57, 58, 59, 60, 61, 62, 63, 64, 65, 66, 67, 68, 69, 70, 71, 72, 73, 74, 75, 76, 77, 78, 79, 80, 81, 82, 83, 84, 85, 86, 87, 88, 89, 90, 91] τ t168 := Fr_call Fr_rfl q173 (by decide)
    refine r_aload_n S dX11_remember_27 rfl (lv_at hl 0 rfl) ?_
    refine r_geti (K := 0) S X167 (Nat.le_of_ble_eq_true rfl) rfl lk11_116_9 (fun _ => ⟨_, rfl, rfl⟩) ((q173 0 9 (by decide)).trans z5) dX11_remember_28 ?_
    refine r_bipush S dX11_remember_31 (by decide) (fun v176 z177 => ?_)
    have r178 := R_eq z177
    refine r_icmp_ge (tgt := 49) S dX11_remember_33 (by decide) (fun c179 => ?_) (fun c179 => ?_)
    ·
      have r180 : R (8) (8) v4 := ⟨by omega, by omega⟩
      refine r_aload_n S dX11_remember_49 rfl (lv_at hl 0 rfl) ?_
      refine r_aload_n S dX11_remember_50 rfl (lv_at hl 0 rfl) ?_
      refine r_geti (K := 0) S X167 (Nat.le_of_ble_eq_true rfl) rfl lk11_203_9 (fun _ => ⟨_, rfl, rfl⟩) ((q173 0 8 (by decide)).trans z2) dX11_remember_51 ?_
      refine r_iconst S dX11_remember_54 (by decide) (fun v181 z182 => ?_)
      have r183 := R_eq z182
      refine r_iadd S dX11_remember_55 (fun v184 z185 => ?_)
      obtain ⟨e186, r187⟩ := i_add (lo := 1) (hi := 8) z185 r3 r183 rfl
      refine r_bipush S dX11_remember_56 (by decide) (fun v188 z189 => ?_)
      have r190 := R_eq z189
      refine r_irem S dX11_remember_58 (by omega) (fun v191 z192 => ?_)
      have r194 : R (0) (7) v191 := i_rem0 z192 r187 r190 rfl
      have e195 : v191.toInt = v184.toInt % 8 := i_remc z192 r187 r190 rfl
      refine r_put (K := 0) (ty := .int) S X167 (Nat.le_of_ble_eq_true rfl) rfl lk11_203_9 (fun _ => ⟨_, rfl, Nat.le_of_ble_eq_true rfl, rfl⟩) (fun _ _ _ h => by cases h; exact ⟨rfl, rfl⟩) rfl rfl dX11_remember_59 (fun t196 H lc M197 X198 => ?_)
      have I199 := Inv_mu q172 M197 (show Rg (kd 0) 8 v191 from (R_of (lo := 0) (hi := 7) r194 rfl))
      have F200 : Fr [(0, 8), (0, 9)] [52, 53, 54, 55, 56, 57, 58, 59, 60, 61, 62, 63, 64, 65, 66, 67, 68, 69, 70, 71, 72, 73, 74, 75, 76, 77, 78, 79, 80, 81, 82, 83, 84, 85, 86, 87, 88, 89, 90, 91] τ t196 := Fr_mu F175 M197 (by decide)
      exact r_vret S hr hlk X198 ⟨I199, F200, (HI_rem2 (j := 3) hHI hWI (by decide) ((M197.2 23 2 (Or.inl (by decide))).trans ((q173 23 2 (by decide)).trans rfl)) (by have n0 := congrArg Int32.toInt M197.1; have n0_ := congrArg Int32.toInt z2; have n1 := congrArg Int32.toInt ((M197.2 0 9 (Or.inr (by decide))).trans ((q173 0 9 (by decide)).trans z5)); have n1_ := congrArg Int32.toInt z5; omega) (show t196 (52 + 5 * 3) 8 = τ 30 8 from (((M197.2 67 8 (Or.inl (by decide))).trans (q174.trans z170)).trans (rfl.symm.trans z170).symm)) (oth8 3 (fun _ => ((M197.2 52 8 (Or.inl (by decide))).trans ((q173 52 8 (by decide)).trans rfl))) (fun _ => ((M197.2 57 8 (Or.inl (by decide))).trans ((q173 57 8 (by decide)).trans rfl))) (fun _ => ((M197.2 62 8 (Or.inl (by decide))).trans ((q173 62 8 (by decide)).trans rfl))) (fun h => absurd rfl h) (fun _ => ((M197.2 72 8 (Or.inl (by decide))).trans ((q173 72 8 (by decide)).trans rfl))) (fun _ => ((M197.2 77 8 (Or.inl (by decide))).trans ((q173 77 8 (by decide)).trans rfl))) (fun _ => ((M197.2 82 8 (Or.inl (by decide))).trans ((q173 82 8 (by decide)).trans rfl))) (fun _ => ((M197.2 87 8 (Or.inl (by decide))).trans ((q173 87 8 (by decide)).trans rfl)))))⟩ dX11_remember_62
    ·
      have r201 : R (0) (7) v4 := ⟨by omega, by omega⟩
      refine r_aload_n S dX11_remember_36 rfl (lv_at hl 0 rfl) ?_
      refine r_dup S dX11_remember_37 rfl ?_
      refine r_geti (K := 0) S X167 (Nat.le_of_ble_eq_true rfl) rfl lk11_116_9 (fun _ => ⟨_, rfl, rfl⟩) ((q173 0 9 (by decide)).trans z5) dX11_remember_38 ?_
      refine r_iconst S dX11_remember_41 (by decide) (fun v202 z203 => ?_)
      have r204 := R_eq z203
      refine r_iadd S dX11_remember_42 (fun v205 z206 => ?_)
      obtain ⟨e207, r208⟩ := i_add (lo := 1) (hi := 8) z206 r201 r204 rfl
      refine r_put (K := 0) (ty := .int) S X167 (Nat.le_of_ble_eq_true rfl) rfl lk11_116_9 (fun _ => ⟨_, rfl, Nat.le_of_ble_eq_true rfl, rfl⟩) (fun _ _ _ h => by cases h; exact ⟨rfl, rfl⟩) rfl rfl dX11_remember_43 (fun t209 H lc M210 X211 => ?_)
      have I212 := Inv_mu q172 M210 (show Rg (kd 0) 9 v205 from (R_of (lo := 0) (hi := 8) r208 rfl))
      have F213 : Fr [(0, 8), (0, 9)] [52, 53, 54, 55, 56, 57, 58, 59, 60, 61, 62, 63, 64, 65, 66, 67, 68, 69, 70, 71, 72, 73, 74, 75, 76, 77, 78, 79, 80, 81, 82, 83, 84, 85, 86, 87, 88, 89, 90, 91] τ t209 := Fr_mu F175 M210 (by decide)
      refine r_goto (tgt := 62) S dX11_remember_46 (by decide) ?_
      exact r_vret S hr hlk X211 ⟨I212, F213, (HI_rem1 (j := 3) hHI hWI (by decide) ((M210.2 23 2 (Or.inl (by decide))).trans ((q173 23 2 (by decide)).trans rfl)) ((M210.2 0 8 (Or.inr (by decide))).trans ((q173 0 8 (by decide)).trans rfl)) (by have n0 := congrArg Int32.toInt ((M210.2 0 8 (Or.inr (by decide))).trans ((q173 0 8 (by decide)).trans z2)); have n0_ := congrArg Int32.toInt z2; have n1 := congrArg Int32.toInt M210.1; have n1_ := congrArg Int32.toInt z5; omega) (by have n0 := congrArg Int32.toInt ((M210.2 0 8 (Or.inr (by decide))).trans ((q173 0 8 (by decide)).trans z2)); have n0_ := congrArg Int32.toInt z2; have n1 := congrArg Int32.toInt M210.1; have n1_ := congrArg Int32.toInt z5; omega) (show t209 (52 + 5 * 3) 8 = τ 30 8 from (((M210.2 67 8 (Or.inl (by decide))).trans (q174.trans z170)).trans (rfl.symm.trans z170).symm)) (oth8 3 (fun _ => ((M210.2 52 8 (Or.inl (by decide))).trans ((q173 52 8 (by decide)).trans rfl))) (fun _ => ((M210.2 57 8 (Or.inl (by decide))).trans ((q173 57 8 (by decide)).trans rfl))) (fun _ => ((M210.2 62 8 (Or.inl (by decide))).trans ((q173 62 8 (by decide)).trans rfl))) (fun h => absurd rfl h) (fun _ => ((M210.2 72 8 (Or.inl (by decide))).trans ((q173 72 8 (by decide)).trans rfl))) (fun _ => ((M210.2 77 8 (Or.inl (by decide))).trans ((q173 77 8 (by decide)).trans rfl))) (fun _ => ((M210.2 82 8 (Or.inl (by decide))).trans ((q173 82 8 (by decide)).trans rfl))) (fun _ => ((M210.2 87 8 (Or.inl (by decide))).trans ((q173 87 8 (by decide)).trans rfl)))))⟩ dX11_remember_62
  ·
    refine r_aload_n S dX11_remember_17 rfl (lv_at hl 0 rfl) ?_
    refine r_get (K := 0) (v := .ref (G.2.2.2.1 22)) S X (Nat.le_of_ble_eq_true rfl) rfl lk11_42_9 (fun _ => ⟨_, rfl, rfl⟩) dX11_remember_18 ?_
    refine r_get (K := 22) (v := .ref (G.2.2.2.1 30)) S X (Nat.le_of_ble_eq_true rfl) rfl lk11_129_8 (fun _ => ⟨_, rfl, rfl⟩) dX11_remember_21 ?_
    refine r_kv (q_V (As := [.ref (G.2.2.2.1 30)]) (rest := []) (K := 23) (ci := 3) S X (c_scopy_72_30 l G τ hI ) ck11_206 (Nat.le_of_ble_eq_true rfl) rfl (fun _ => ⟨_, rfl⟩) ⟨_, _, rfl⟩ ⟨Nat.le_of_ble_eq_true rfl, Nat.le_of_ble_eq_true rfl⟩ rfl hl.1 rfl (Nat.le_of_ble_eq_true rfl) dX11_remember_24 ⟨Nat.le_refl 0, Nat.le_refl 0⟩) X (fun t216 H lc q214 X215 => ?_)
    unfold po_scopy_72_30 at q214
    obtain ⟨v217, z218⟩ : ∃ x, τ 30 8 = x := ⟨_, rfl⟩
    have r219 : R (-1) (8) v217 := rd hI rfl z218
    obtain ⟨q220, q221, q222⟩ := q214
    have F223 : Fr [(0, 8), (0, 9)] [52, 53, 54, 55, 56, 57, 58, 59, 60, 61, 62, 63, 64, 65, 66, 67, 68, 69, 70, 71, 72, 73, 74, 75, 76, 77, 78, 79, 80, 81, 82, 83, 84, 85, 86, 87, 88, 89, 90, 91] τ t216 := Fr_call Fr_rfl q221 (by decide)
    refine r_aload_n S dX11_remember_27 rfl (lv_at hl 0 rfl) ?_
    refine r_geti (K := 0) S X215 (Nat.le_of_ble_eq_true rfl) rfl lk11_116_9 (fun _ => ⟨_, rfl, rfl⟩) ((q221 0 9 (by decide)).trans z5) dX11_remember_28 ?_
    refine r_bipush S dX11_remember_31 (by decide) (fun v224 z225 => ?_)
    have r226 := R_eq z225
    refine r_icmp_ge (tgt := 49) S dX11_remember_33 (by decide) (fun c227 => ?_) (fun c227 => ?_)
    ·
      have r228 : R (8) (8) v4 := ⟨by omega, by omega⟩
      refine r_aload_n S dX11_remember_49 rfl (lv_at hl 0 rfl) ?_
      refine r_aload_n S dX11_remember_50 rfl (lv_at hl 0 rfl) ?_
      refine r_geti (K := 0) S X215 (Nat.le_of_ble_eq_true rfl) rfl lk11_203_9 (fun _ => ⟨_, rfl, rfl⟩) ((q221 0 8 (by decide)).trans z2) dX11_remember_51 ?_
      refine r_iconst S dX11_remember_54 (by decide) (fun v229 z230 => ?_)
      have r231 := R_eq z230
      refine r_iadd S dX11_remember_55 (fun v232 z233 => ?_)
      obtain ⟨e234, r235⟩ := i_add (lo := 1) (hi := 8) z233 r3 r231 rfl
      refine r_bipush S dX11_remember_56 (by decide) (fun v236 z237 => ?_)
      have r238 := R_eq z237
      refine r_irem S dX11_remember_58 (by omega) (fun v239 z240 => ?_)
      have r242 : R (0) (7) v239 := i_rem0 z240 r235 r238 rfl
      have e243 : v239.toInt = v232.toInt % 8 := i_remc z240 r235 r238 rfl
      refine r_put (K := 0) (ty := .int) S X215 (Nat.le_of_ble_eq_true rfl) rfl lk11_203_9 (fun _ => ⟨_, rfl, Nat.le_of_ble_eq_true rfl, rfl⟩) (fun _ _ _ h => by cases h; exact ⟨rfl, rfl⟩) rfl rfl dX11_remember_59 (fun t244 H lc M245 X246 => ?_)
      have I247 := Inv_mu q220 M245 (show Rg (kd 0) 8 v239 from (R_of (lo := 0) (hi := 7) r242 rfl))
      have F248 : Fr [(0, 8), (0, 9)] [52, 53, 54, 55, 56, 57, 58, 59, 60, 61, 62, 63, 64, 65, 66, 67, 68, 69, 70, 71, 72, 73, 74, 75, 76, 77, 78, 79, 80, 81, 82, 83, 84, 85, 86, 87, 88, 89, 90, 91] τ t244 := Fr_mu F223 M245 (by decide)
      exact r_vret S hr hlk X246 ⟨I247, F248, (HI_rem2 (j := 4) hHI hWI (by decide) ((M245.2 23 2 (Or.inl (by decide))).trans ((q221 23 2 (by decide)).trans rfl)) (by have n0 := congrArg Int32.toInt M245.1; have n0_ := congrArg Int32.toInt z2; have n1 := congrArg Int32.toInt ((M245.2 0 9 (Or.inr (by decide))).trans ((q221 0 9 (by decide)).trans z5)); have n1_ := congrArg Int32.toInt z5; omega) (show t244 (52 + 5 * 4) 8 = τ 30 8 from (((M245.2 72 8 (Or.inl (by decide))).trans (q222.trans z218)).trans (rfl.symm.trans z218).symm)) (oth8 4 (fun _ => ((M245.2 52 8 (Or.inl (by decide))).trans ((q221 52 8 (by decide)).trans rfl))) (fun _ => ((M245.2 57 8 (Or.inl (by decide))).trans ((q221 57 8 (by decide)).trans rfl))) (fun _ => ((M245.2 62 8 (Or.inl (by decide))).trans ((q221 62 8 (by decide)).trans rfl))) (fun _ => ((M245.2 67 8 (Or.inl (by decide))).trans ((q221 67 8 (by decide)).trans rfl))) (fun h => absurd rfl h) (fun _ => ((M245.2 77 8 (Or.inl (by decide))).trans ((q221 77 8 (by decide)).trans rfl))) (fun _ => ((M245.2 82 8 (Or.inl (by decide))).trans ((q221 82 8 (by decide)).trans rfl))) (fun _ => ((M245.2 87 8 (Or.inl (by decide))).trans ((q221 87 8 (by decide)).trans rfl)))))⟩ dX11_remember_62
    ·
      have r249 : R (0) (7) v4 := ⟨by omega, by omega⟩
      refine r_aload_n S dX11_remember_36 rfl (lv_at hl 0 rfl) ?_
      refine r_dup S dX11_remember_37 rfl ?_
      refine r_geti (K := 0) S X215 (Nat.le_of_ble_eq_true rfl) rfl lk11_116_9 (fun _ => ⟨_, rfl, rfl⟩) ((q221 0 9 (by decide)).trans z5) dX11_remember_38 ?_
      refine r_iconst S dX11_remember_41 (by decide) (fun v250 z251 => ?_)
      have r252 := R_eq z251
      refine r_iadd S dX11_remember_42 (fun v253 z254 => ?_)
      obtain ⟨e255, r256⟩ := i_add (lo := 1) (hi := 8) z254 r249 r252 rfl
      refine r_put (K := 0) (ty := .int) S X215 (Nat.le_of_ble_eq_true rfl) rfl lk11_116_9 (fun _ => ⟨_, rfl, Nat.le_of_ble_eq_true rfl, rfl⟩) (fun _ _ _ h => by cases h; exact ⟨rfl, rfl⟩) rfl rfl dX11_remember_43 (fun t257 H lc M258 X259 => ?_)
      have I260 := Inv_mu q220 M258 (show Rg (kd 0) 9 v253 from (R_of (lo := 0) (hi := 8) r256 rfl))
      have F261 : Fr [(0, 8), (0, 9)] [52, 53, 54, 55, 56, 57, 58, 59, 60, 61, 62, 63, 64, 65, 66, 67, 68, 69, 70, 71, 72, 73, 74, 75, 76, 77, 78, 79, 80, 81, 82, 83, 84, 85, 86, 87, 88, 89, 90, 91] τ t257 := Fr_mu F223 M258 (by decide)
      refine r_goto (tgt := 62) S dX11_remember_46 (by decide) ?_
      exact r_vret S hr hlk X259 ⟨I260, F261, (HI_rem1 (j := 4) hHI hWI (by decide) ((M258.2 23 2 (Or.inl (by decide))).trans ((q221 23 2 (by decide)).trans rfl)) ((M258.2 0 8 (Or.inr (by decide))).trans ((q221 0 8 (by decide)).trans rfl)) (by have n0 := congrArg Int32.toInt ((M258.2 0 8 (Or.inr (by decide))).trans ((q221 0 8 (by decide)).trans z2)); have n0_ := congrArg Int32.toInt z2; have n1 := congrArg Int32.toInt M258.1; have n1_ := congrArg Int32.toInt z5; omega) (by have n0 := congrArg Int32.toInt ((M258.2 0 8 (Or.inr (by decide))).trans ((q221 0 8 (by decide)).trans z2)); have n0_ := congrArg Int32.toInt z2; have n1 := congrArg Int32.toInt M258.1; have n1_ := congrArg Int32.toInt z5; omega) (show t257 (52 + 5 * 4) 8 = τ 30 8 from (((M258.2 72 8 (Or.inl (by decide))).trans (q222.trans z218)).trans (rfl.symm.trans z218).symm)) (oth8 4 (fun _ => ((M258.2 52 8 (Or.inl (by decide))).trans ((q221 52 8 (by decide)).trans rfl))) (fun _ => ((M258.2 57 8 (Or.inl (by decide))).trans ((q221 57 8 (by decide)).trans rfl))) (fun _ => ((M258.2 62 8 (Or.inl (by decide))).trans ((q221 62 8 (by decide)).trans rfl))) (fun _ => ((M258.2 67 8 (Or.inl (by decide))).trans ((q221 67 8 (by decide)).trans rfl))) (fun h => absurd rfl h) (fun _ => ((M258.2 77 8 (Or.inl (by decide))).trans ((q221 77 8 (by decide)).trans rfl))) (fun _ => ((M258.2 82 8 (Or.inl (by decide))).trans ((q221 82 8 (by decide)).trans rfl))) (fun _ => ((M258.2 87 8 (Or.inl (by decide))).trans ((q221 87 8 (by decide)).trans rfl)))))⟩ dX11_remember_62
  ·
    refine r_aload_n S dX11_remember_17 rfl (lv_at hl 0 rfl) ?_
    refine r_get (K := 0) (v := .ref (G.2.2.2.1 22)) S X (Nat.le_of_ble_eq_true rfl) rfl lk11_42_9 (fun _ => ⟨_, rfl, rfl⟩) dX11_remember_18 ?_
    refine r_get (K := 22) (v := .ref (G.2.2.2.1 30)) S X (Nat.le_of_ble_eq_true rfl) rfl lk11_129_8 (fun _ => ⟨_, rfl, rfl⟩) dX11_remember_21 ?_
    refine r_kv (q_V (As := [.ref (G.2.2.2.1 30)]) (rest := []) (K := 23) (ci := 3) S X (c_scopy_77_30 l G τ hI ) ck11_206 (Nat.le_of_ble_eq_true rfl) rfl (fun _ => ⟨_, rfl⟩) ⟨_, _, rfl⟩ ⟨Nat.le_of_ble_eq_true rfl, Nat.le_of_ble_eq_true rfl⟩ rfl hl.1 rfl (Nat.le_of_ble_eq_true rfl) dX11_remember_24 ⟨Nat.le_refl 0, Nat.le_refl 0⟩) X (fun t264 H lc q262 X263 => ?_)
    unfold po_scopy_77_30 at q262
    obtain ⟨v265, z266⟩ : ∃ x, τ 30 8 = x := ⟨_, rfl⟩
    have r267 : R (-1) (8) v265 := rd hI rfl z266
    obtain ⟨q268, q269, q270⟩ := q262
    have F271 : Fr [(0, 8), (0, 9)] [52, 53, 54, 55, 56, 57, 58, 59, 60, 61, 62, 63, 64, 65, 66, 67, 68, 69, 70, 71, 72, 73, 74, 75, 76, 77, 78, 79, 80, 81, 82, 83, 84, 85, 86, 87, 88, 89, 90, 91] τ t264 := Fr_call Fr_rfl q269 (by decide)
    refine r_aload_n S dX11_remember_27 rfl (lv_at hl 0 rfl) ?_
    refine r_geti (K := 0) S X263 (Nat.le_of_ble_eq_true rfl) rfl lk11_116_9 (fun _ => ⟨_, rfl, rfl⟩) ((q269 0 9 (by decide)).trans z5) dX11_remember_28 ?_
    refine r_bipush S dX11_remember_31 (by decide) (fun v272 z273 => ?_)
    have r274 := R_eq z273
    refine r_icmp_ge (tgt := 49) S dX11_remember_33 (by decide) (fun c275 => ?_) (fun c275 => ?_)
    ·
      have r276 : R (8) (8) v4 := ⟨by omega, by omega⟩
      refine r_aload_n S dX11_remember_49 rfl (lv_at hl 0 rfl) ?_
      refine r_aload_n S dX11_remember_50 rfl (lv_at hl 0 rfl) ?_
      refine r_geti (K := 0) S X263 (Nat.le_of_ble_eq_true rfl) rfl lk11_203_9 (fun _ => ⟨_, rfl, rfl⟩) ((q269 0 8 (by decide)).trans z2) dX11_remember_51 ?_
      refine r_iconst S dX11_remember_54 (by decide) (fun v277 z278 => ?_)
      have r279 := R_eq z278
      refine r_iadd S dX11_remember_55 (fun v280 z281 => ?_)
      obtain ⟨e282, r283⟩ := i_add (lo := 1) (hi := 8) z281 r3 r279 rfl
      refine r_bipush S dX11_remember_56 (by decide) (fun v284 z285 => ?_)
      have r286 := R_eq z285
      refine r_irem S dX11_remember_58 (by omega) (fun v287 z288 => ?_)
      have r290 : R (0) (7) v287 := i_rem0 z288 r283 r286 rfl
      have e291 : v287.toInt = v280.toInt % 8 := i_remc z288 r283 r286 rfl
      refine r_put (K := 0) (ty := .int) S X263 (Nat.le_of_ble_eq_true rfl) rfl lk11_203_9 (fun _ => ⟨_, rfl, Nat.le_of_ble_eq_true rfl, rfl⟩) (fun _ _ _ h => by cases h; exact ⟨rfl, rfl⟩) rfl rfl dX11_remember_59 (fun t292 H lc M293 X294 => ?_)
      have I295 := Inv_mu q268 M293 (show Rg (kd 0) 8 v287 from (R_of (lo := 0) (hi := 7) r290 rfl))
      have F296 : Fr [(0, 8), (0, 9)] [52, 53, 54, 55, 56, 57, 58, 59, 60, 61, 62, 63, 64, 65, 66, 67, 68, 69, 70, 71, 72, 73, 74, 75, 76, 77, 78, 79, 80, 81, 82, 83, 84, 85, 86, 87, 88, 89, 90, 91] τ t292 := Fr_mu F271 M293 (by decide)
      exact r_vret S hr hlk X294 ⟨I295, F296, (HI_rem2 (j := 5) hHI hWI (by decide) ((M293.2 23 2 (Or.inl (by decide))).trans ((q269 23 2 (by decide)).trans rfl)) (by have n0 := congrArg Int32.toInt M293.1; have n0_ := congrArg Int32.toInt z2; have n1 := congrArg Int32.toInt ((M293.2 0 9 (Or.inr (by decide))).trans ((q269 0 9 (by decide)).trans z5)); have n1_ := congrArg Int32.toInt z5; omega) (show t292 (52 + 5 * 5) 8 = τ 30 8 from (((M293.2 77 8 (Or.inl (by decide))).trans (q270.trans z266)).trans (rfl.symm.trans z266).symm)) (oth8 5 (fun _ => ((M293.2 52 8 (Or.inl (by decide))).trans ((q269 52 8 (by decide)).trans rfl))) (fun _ => ((M293.2 57 8 (Or.inl (by decide))).trans ((q269 57 8 (by decide)).trans rfl))) (fun _ => ((M293.2 62 8 (Or.inl (by decide))).trans ((q269 62 8 (by decide)).trans rfl))) (fun _ => ((M293.2 67 8 (Or.inl (by decide))).trans ((q269 67 8 (by decide)).trans rfl))) (fun _ => ((M293.2 72 8 (Or.inl (by decide))).trans ((q269 72 8 (by decide)).trans rfl))) (fun h => absurd rfl h) (fun _ => ((M293.2 82 8 (Or.inl (by decide))).trans ((q269 82 8 (by decide)).trans rfl))) (fun _ => ((M293.2 87 8 (Or.inl (by decide))).trans ((q269 87 8 (by decide)).trans rfl)))))⟩ dX11_remember_62
    ·
      have r297 : R (0) (7) v4 := ⟨by omega, by omega⟩
      refine r_aload_n S dX11_remember_36 rfl (lv_at hl 0 rfl) ?_
      refine r_dup S dX11_remember_37 rfl ?_
      refine r_geti (K := 0) S X263 (Nat.le_of_ble_eq_true rfl) rfl lk11_116_9 (fun _ => ⟨_, rfl, rfl⟩) ((q269 0 9 (by decide)).trans z5) dX11_remember_38 ?_
      refine r_iconst S dX11_remember_41 (by decide) (fun v298 z299 => ?_)
      have r300 := R_eq z299
      refine r_iadd S dX11_remember_42 (fun v301 z302 => ?_)
      obtain ⟨e303, r304⟩ := i_add (lo := 1) (hi := 8) z302 r297 r300 rfl
      refine r_put (K := 0) (ty := .int) S X263 (Nat.le_of_ble_eq_true rfl) rfl lk11_116_9 (fun _ => ⟨_, rfl, Nat.le_of_ble_eq_true rfl, rfl⟩) (fun _ _ _ h => by cases h; exact ⟨rfl, rfl⟩) rfl rfl dX11_remember_43 (fun t305 H lc M306 X307 => ?_)
      have I308 := Inv_mu q268 M306 (show Rg (kd 0) 9 v301 from (R_of (lo := 0) (hi := 8) r304 rfl))
      have F309 : Fr [(0, 8), (0, 9)] [52, 53, 54, 55, 56, 57, 58, 59, 60, 61, 62, 63, 64, 65, 66, 67, 68, 69, 70, 71, 72, 73, 74, 75, 76, 77, 78, 79, 80, 81, 82, 83, 84, 85, 86, 87, 88, 89, 90, 91] τ t305 := Fr_mu F271 M306 (by decide)
      refine r_goto (tgt := 62) S dX11_remember_46 (by decide) ?_
      exact r_vret S hr hlk X307 ⟨I308, F309, (HI_rem1 (j := 5) hHI hWI (by decide) ((M306.2 23 2 (Or.inl (by decide))).trans ((q269 23 2 (by decide)).trans rfl)) ((M306.2 0 8 (Or.inr (by decide))).trans ((q269 0 8 (by decide)).trans rfl)) (by have n0 := congrArg Int32.toInt ((M306.2 0 8 (Or.inr (by decide))).trans ((q269 0 8 (by decide)).trans z2)); have n0_ := congrArg Int32.toInt z2; have n1 := congrArg Int32.toInt M306.1; have n1_ := congrArg Int32.toInt z5; omega) (by have n0 := congrArg Int32.toInt ((M306.2 0 8 (Or.inr (by decide))).trans ((q269 0 8 (by decide)).trans z2)); have n0_ := congrArg Int32.toInt z2; have n1 := congrArg Int32.toInt M306.1; have n1_ := congrArg Int32.toInt z5; omega) (show t305 (52 + 5 * 5) 8 = τ 30 8 from (((M306.2 77 8 (Or.inl (by decide))).trans (q270.trans z266)).trans (rfl.symm.trans z266).symm)) (oth8 5 (fun _ => ((M306.2 52 8 (Or.inl (by decide))).trans ((q269 52 8 (by decide)).trans rfl))) (fun _ => ((M306.2 57 8 (Or.inl (by decide))).trans ((q269 57 8 (by decide)).trans rfl))) (fun _ => ((M306.2 62 8 (Or.inl (by decide))).trans ((q269 62 8 (by decide)).trans rfl))) (fun _ => ((M306.2 67 8 (Or.inl (by decide))).trans ((q269 67 8 (by decide)).trans rfl))) (fun _ => ((M306.2 72 8 (Or.inl (by decide))).trans ((q269 72 8 (by decide)).trans rfl))) (fun h => absurd rfl h) (fun _ => ((M306.2 82 8 (Or.inl (by decide))).trans ((q269 82 8 (by decide)).trans rfl))) (fun _ => ((M306.2 87 8 (Or.inl (by decide))).trans ((q269 87 8 (by decide)).trans rfl)))))⟩ dX11_remember_62
  ·
    refine r_aload_n S dX11_remember_17 rfl (lv_at hl 0 rfl) ?_
    refine r_get (K := 0) (v := .ref (G.2.2.2.1 22)) S X (Nat.le_of_ble_eq_true rfl) rfl lk11_42_9 (fun _ => ⟨_, rfl, rfl⟩) dX11_remember_18 ?_
    refine r_get (K := 22) (v := .ref (G.2.2.2.1 30)) S X (Nat.le_of_ble_eq_true rfl) rfl lk11_129_8 (fun _ => ⟨_, rfl, rfl⟩) dX11_remember_21 ?_
    refine r_kv (q_V (As := [.ref (G.2.2.2.1 30)]) (rest := []) (K := 23) (ci := 3) S X (c_scopy_82_30 l G τ hI ) ck11_206 (Nat.le_of_ble_eq_true rfl) rfl (fun _ => ⟨_, rfl⟩) ⟨_, _, rfl⟩ ⟨Nat.le_of_ble_eq_true rfl, Nat.le_of_ble_eq_true rfl⟩ rfl hl.1 rfl (Nat.le_of_ble_eq_true rfl) dX11_remember_24 ⟨Nat.le_refl 0, Nat.le_refl 0⟩) X (fun t312 H lc q310 X311 => ?_)
    unfold po_scopy_82_30 at q310
    obtain ⟨v313, z314⟩ : ∃ x, τ 30 8 = x := ⟨_, rfl⟩
    have r315 : R (-1) (8) v313 := rd hI rfl z314
    obtain ⟨q316, q317, q318⟩ := q310
    have F319 : Fr [(0, 8), (0, 9)] [52, 53, 54, 55, 56, 57, 58, 59, 60, 61, 62, 63, 64, 65, 66, 67, 68, 69, 70, 71, 72, 73, 74, 75, 76, 77, 78, 79, 80, 81, 82, 83, 84, 85, 86, 87, 88, 89, 90, 91] τ t312 := Fr_call Fr_rfl q317 (by decide)
    refine r_aload_n S dX11_remember_27 rfl (lv_at hl 0 rfl) ?_
    refine r_geti (K := 0) S X311 (Nat.le_of_ble_eq_true rfl) rfl lk11_116_9 (fun _ => ⟨_, rfl, rfl⟩) ((q317 0 9 (by decide)).trans z5) dX11_remember_28 ?_
    refine r_bipush S dX11_remember_31 (by decide) (fun v320 z321 => ?_)
    have r322 := R_eq z321
    refine r_icmp_ge (tgt := 49) S dX11_remember_33 (by decide) (fun c323 => ?_) (fun c323 => ?_)
    ·
      have r324 : R (8) (8) v4 := ⟨by omega, by omega⟩
      refine r_aload_n S dX11_remember_49 rfl (lv_at hl 0 rfl) ?_
      refine r_aload_n S dX11_remember_50 rfl (lv_at hl 0 rfl) ?_
      refine r_geti (K := 0) S X311 (Nat.le_of_ble_eq_true rfl) rfl lk11_203_9 (fun _ => ⟨_, rfl, rfl⟩) ((q317 0 8 (by decide)).trans z2) dX11_remember_51 ?_
      refine r_iconst S dX11_remember_54 (by decide) (fun v325 z326 => ?_)
      have r327 := R_eq z326
      refine r_iadd S dX11_remember_55 (fun v328 z329 => ?_)
      obtain ⟨e330, r331⟩ := i_add (lo := 1) (hi := 8) z329 r3 r327 rfl
      refine r_bipush S dX11_remember_56 (by decide) (fun v332 z333 => ?_)
      have r334 := R_eq z333
      refine r_irem S dX11_remember_58 (by omega) (fun v335 z336 => ?_)
      have r338 : R (0) (7) v335 := i_rem0 z336 r331 r334 rfl
      have e339 : v335.toInt = v328.toInt % 8 := i_remc z336 r331 r334 rfl
      refine r_put (K := 0) (ty := .int) S X311 (Nat.le_of_ble_eq_true rfl) rfl lk11_203_9 (fun _ => ⟨_, rfl, Nat.le_of_ble_eq_true rfl, rfl⟩) (fun _ _ _ h => by cases h; exact ⟨rfl, rfl⟩) rfl rfl dX11_remember_59 (fun t340 H lc M341 X342 => ?_)
      have I343 := Inv_mu q316 M341 (show Rg (kd 0) 8 v335 from (R_of (lo := 0) (hi := 7) r338 rfl))
      have F344 : Fr [(0, 8), (0, 9)] [52, 53, 54, 55, 56, 57, 58, 59, 60, 61, 62, 63, 64, 65, 66, 67, 68, 69, 70, 71, 72, 73, 74, 75, 76, 77, 78, 79, 80, 81, 82, 83, 84, 85, 86, 87, 88, 89, 90, 91] τ t340 := Fr_mu F319 M341 (by decide)
      exact r_vret S hr hlk X342 ⟨I343, F344, (HI_rem2 (j := 6) hHI hWI (by decide) ((M341.2 23 2 (Or.inl (by decide))).trans ((q317 23 2 (by decide)).trans rfl)) (by have n0 := congrArg Int32.toInt M341.1; have n0_ := congrArg Int32.toInt z2; have n1 := congrArg Int32.toInt ((M341.2 0 9 (Or.inr (by decide))).trans ((q317 0 9 (by decide)).trans z5)); have n1_ := congrArg Int32.toInt z5; omega) (show t340 (52 + 5 * 6) 8 = τ 30 8 from (((M341.2 82 8 (Or.inl (by decide))).trans (q318.trans z314)).trans (rfl.symm.trans z314).symm)) (oth8 6 (fun _ => ((M341.2 52 8 (Or.inl (by decide))).trans ((q317 52 8 (by decide)).trans rfl))) (fun _ => ((M341.2 57 8 (Or.inl (by decide))).trans ((q317 57 8 (by decide)).trans rfl))) (fun _ => ((M341.2 62 8 (Or.inl (by decide))).trans ((q317 62 8 (by decide)).trans rfl))) (fun _ => ((M341.2 67 8 (Or.inl (by decide))).trans ((q317 67 8 (by decide)).trans rfl))) (fun _ => ((M341.2 72 8 (Or.inl (by decide))).trans ((q317 72 8 (by decide)).trans rfl))) (fun _ => ((M341.2 77 8 (Or.inl (by decide))).trans ((q317 77 8 (by decide)).trans rfl))) (fun h => absurd rfl h) (fun _ => ((M341.2 87 8 (Or.inl (by decide))).trans ((q317 87 8 (by decide)).trans rfl)))))⟩ dX11_remember_62
    ·
      have r345 : R (0) (7) v4 := ⟨by omega, by omega⟩
      refine r_aload_n S dX11_remember_36 rfl (lv_at hl 0 rfl) ?_
      refine r_dup S dX11_remember_37 rfl ?_
      refine r_geti (K := 0) S X311 (Nat.le_of_ble_eq_true rfl) rfl lk11_116_9 (fun _ => ⟨_, rfl, rfl⟩) ((q317 0 9 (by decide)).trans z5) dX11_remember_38 ?_
      refine r_iconst S dX11_remember_41 (by decide) (fun v346 z347 => ?_)
      have r348 := R_eq z347
      refine r_iadd S dX11_remember_42 (fun v349 z350 => ?_)
      obtain ⟨e351, r352⟩ := i_add (lo := 1) (hi := 8) z350 r345 r348 rfl
      refine r_put (K := 0) (ty := .int) S X311 (Nat.le_of_ble_eq_true rfl) rfl lk11_116_9 (fun _ => ⟨_, rfl, Nat.le_of_ble_eq_true rfl, rfl⟩) (fun _ _ _ h => by cases h; exact ⟨rfl, rfl⟩) rfl rfl dX11_remember_43 (fun t353 H lc M354 X355 => ?_)
      have I356 := Inv_mu q316 M354 (show Rg (kd 0) 9 v349 from (R_of (lo := 0) (hi := 8) r352 rfl))
      have F357 : Fr [(0, 8), (0, 9)] [52, 53, 54, 55, 56, 57, 58, 59, 60, 61, 62, 63, 64, 65, 66, 67, 68, 69, 70, 71, 72, 73, 74, 75, 76, 77, 78, 79, 80, 81, 82, 83, 84, 85, 86, 87, 88, 89, 90, 91] τ t353 := Fr_mu F319 M354 (by decide)
      refine r_goto (tgt := 62) S dX11_remember_46 (by decide) ?_
      exact r_vret S hr hlk X355 ⟨I356, F357, (HI_rem1 (j := 6) hHI hWI (by decide) ((M354.2 23 2 (Or.inl (by decide))).trans ((q317 23 2 (by decide)).trans rfl)) ((M354.2 0 8 (Or.inr (by decide))).trans ((q317 0 8 (by decide)).trans rfl)) (by have n0 := congrArg Int32.toInt ((M354.2 0 8 (Or.inr (by decide))).trans ((q317 0 8 (by decide)).trans z2)); have n0_ := congrArg Int32.toInt z2; have n1 := congrArg Int32.toInt M354.1; have n1_ := congrArg Int32.toInt z5; omega) (by have n0 := congrArg Int32.toInt ((M354.2 0 8 (Or.inr (by decide))).trans ((q317 0 8 (by decide)).trans z2)); have n0_ := congrArg Int32.toInt z2; have n1 := congrArg Int32.toInt M354.1; have n1_ := congrArg Int32.toInt z5; omega) (show t353 (52 + 5 * 6) 8 = τ 30 8 from (((M354.2 82 8 (Or.inl (by decide))).trans (q318.trans z314)).trans (rfl.symm.trans z314).symm)) (oth8 6 (fun _ => ((M354.2 52 8 (Or.inl (by decide))).trans ((q317 52 8 (by decide)).trans rfl))) (fun _ => ((M354.2 57 8 (Or.inl (by decide))).trans ((q317 57 8 (by decide)).trans rfl))) (fun _ => ((M354.2 62 8 (Or.inl (by decide))).trans ((q317 62 8 (by decide)).trans rfl))) (fun _ => ((M354.2 67 8 (Or.inl (by decide))).trans ((q317 67 8 (by decide)).trans rfl))) (fun _ => ((M354.2 72 8 (Or.inl (by decide))).trans ((q317 72 8 (by decide)).trans rfl))) (fun _ => ((M354.2 77 8 (Or.inl (by decide))).trans ((q317 77 8 (by decide)).trans rfl))) (fun h => absurd rfl h) (fun _ => ((M354.2 87 8 (Or.inl (by decide))).trans ((q317 87 8 (by decide)).trans rfl)))))⟩ dX11_remember_62
  ·
    refine r_aload_n S dX11_remember_17 rfl (lv_at hl 0 rfl) ?_
    refine r_get (K := 0) (v := .ref (G.2.2.2.1 22)) S X (Nat.le_of_ble_eq_true rfl) rfl lk11_42_9 (fun _ => ⟨_, rfl, rfl⟩) dX11_remember_18 ?_
    refine r_get (K := 22) (v := .ref (G.2.2.2.1 30)) S X (Nat.le_of_ble_eq_true rfl) rfl lk11_129_8 (fun _ => ⟨_, rfl, rfl⟩) dX11_remember_21 ?_
    refine r_kv (q_V (As := [.ref (G.2.2.2.1 30)]) (rest := []) (K := 23) (ci := 3) S X (c_scopy_87_30 l G τ hI ) ck11_206 (Nat.le_of_ble_eq_true rfl) rfl (fun _ => ⟨_, rfl⟩) ⟨_, _, rfl⟩ ⟨Nat.le_of_ble_eq_true rfl, Nat.le_of_ble_eq_true rfl⟩ rfl hl.1 rfl (Nat.le_of_ble_eq_true rfl) dX11_remember_24 ⟨Nat.le_refl 0, Nat.le_refl 0⟩) X (fun t360 H lc q358 X359 => ?_)
    unfold po_scopy_87_30 at q358
    obtain ⟨v361, z362⟩ : ∃ x, τ 30 8 = x := ⟨_, rfl⟩
    have r363 : R (-1) (8) v361 := rd hI rfl z362
    obtain ⟨q364, q365, q366⟩ := q358
    have F367 : Fr [(0, 8), (0, 9)] [52, 53, 54, 55, 56, 57, 58, 59, 60, 61, 62, 63, 64, 65, 66, 67, 68, 69, 70, 71, 72, 73, 74, 75, 76, 77, 78, 79, 80, 81, 82, 83, 84, 85, 86, 87, 88, 89, 90, 91] τ t360 := Fr_call Fr_rfl q365 (by decide)
    refine r_aload_n S dX11_remember_27 rfl (lv_at hl 0 rfl) ?_
    refine r_geti (K := 0) S X359 (Nat.le_of_ble_eq_true rfl) rfl lk11_116_9 (fun _ => ⟨_, rfl, rfl⟩) ((q365 0 9 (by decide)).trans z5) dX11_remember_28 ?_
    refine r_bipush S dX11_remember_31 (by decide) (fun v368 z369 => ?_)
    have r370 := R_eq z369
    refine r_icmp_ge (tgt := 49) S dX11_remember_33 (by decide) (fun c371 => ?_) (fun c371 => ?_)
    ·
      have r372 : R (8) (8) v4 := ⟨by omega, by omega⟩
      refine r_aload_n S dX11_remember_49 rfl (lv_at hl 0 rfl) ?_
      refine r_aload_n S dX11_remember_50 rfl (lv_at hl 0 rfl) ?_
      refine r_geti (K := 0) S X359 (Nat.le_of_ble_eq_true rfl) rfl lk11_203_9 (fun _ => ⟨_, rfl, rfl⟩) ((q365 0 8 (by decide)).trans z2) dX11_remember_51 ?_
      refine r_iconst S dX11_remember_54 (by decide) (fun v373 z374 => ?_)
      have r375 := R_eq z374
      refine r_iadd S dX11_remember_55 (fun v376 z377 => ?_)
      obtain ⟨e378, r379⟩ := i_add (lo := 1) (hi := 8) z377 r3 r375 rfl
      refine r_bipush S dX11_remember_56 (by decide) (fun v380 z381 => ?_)
      have r382 := R_eq z381
      refine r_irem S dX11_remember_58 (by omega) (fun v383 z384 => ?_)
      have r386 : R (0) (7) v383 := i_rem0 z384 r379 r382 rfl
      have e387 : v383.toInt = v376.toInt % 8 := i_remc z384 r379 r382 rfl
      refine r_put (K := 0) (ty := .int) S X359 (Nat.le_of_ble_eq_true rfl) rfl lk11_203_9 (fun _ => ⟨_, rfl, Nat.le_of_ble_eq_true rfl, rfl⟩) (fun _ _ _ h => by cases h; exact ⟨rfl, rfl⟩) rfl rfl dX11_remember_59 (fun t388 H lc M389 X390 => ?_)
      have I391 := Inv_mu q364 M389 (show Rg (kd 0) 8 v383 from (R_of (lo := 0) (hi := 7) r386 rfl))
      have F392 : Fr [(0, 8), (0, 9)] [52, 53, 54, 55, 56, 57, 58, 59, 60, 61, 62, 63, 64, 65, 66, 67, 68, 69, 70, 71, 72, 73, 74, 75, 76, 77, 78, 79, 80, 81, 82, 83, 84, 85, 86, 87, 88, 89, 90, 91] τ t388 := Fr_mu F367 M389 (by decide)
      exact r_vret S hr hlk X390 ⟨I391, F392, (HI_rem2 (j := 7) hHI hWI (by decide) ((M389.2 23 2 (Or.inl (by decide))).trans ((q365 23 2 (by decide)).trans rfl)) (by have n0 := congrArg Int32.toInt M389.1; have n0_ := congrArg Int32.toInt z2; have n1 := congrArg Int32.toInt ((M389.2 0 9 (Or.inr (by decide))).trans ((q365 0 9 (by decide)).trans z5)); have n1_ := congrArg Int32.toInt z5; omega) (show t388 (52 + 5 * 7) 8 = τ 30 8 from (((M389.2 87 8 (Or.inl (by decide))).trans (q366.trans z362)).trans (rfl.symm.trans z362).symm)) (oth8 7 (fun _ => ((M389.2 52 8 (Or.inl (by decide))).trans ((q365 52 8 (by decide)).trans rfl))) (fun _ => ((M389.2 57 8 (Or.inl (by decide))).trans ((q365 57 8 (by decide)).trans rfl))) (fun _ => ((M389.2 62 8 (Or.inl (by decide))).trans ((q365 62 8 (by decide)).trans rfl))) (fun _ => ((M389.2 67 8 (Or.inl (by decide))).trans ((q365 67 8 (by decide)).trans rfl))) (fun _ => ((M389.2 72 8 (Or.inl (by decide))).trans ((q365 72 8 (by decide)).trans rfl))) (fun _ => ((M389.2 77 8 (Or.inl (by decide))).trans ((q365 77 8 (by decide)).trans rfl))) (fun _ => ((M389.2 82 8 (Or.inl (by decide))).trans ((q365 82 8 (by decide)).trans rfl))) (fun h => absurd rfl h)))⟩ dX11_remember_62
    ·
      have r393 : R (0) (7) v4 := ⟨by omega, by omega⟩
      refine r_aload_n S dX11_remember_36 rfl (lv_at hl 0 rfl) ?_
      refine r_dup S dX11_remember_37 rfl ?_
      refine r_geti (K := 0) S X359 (Nat.le_of_ble_eq_true rfl) rfl lk11_116_9 (fun _ => ⟨_, rfl, rfl⟩) ((q365 0 9 (by decide)).trans z5) dX11_remember_38 ?_
      refine r_iconst S dX11_remember_41 (by decide) (fun v394 z395 => ?_)
      have r396 := R_eq z395
      refine r_iadd S dX11_remember_42 (fun v397 z398 => ?_)
      obtain ⟨e399, r400⟩ := i_add (lo := 1) (hi := 8) z398 r393 r396 rfl
      refine r_put (K := 0) (ty := .int) S X359 (Nat.le_of_ble_eq_true rfl) rfl lk11_116_9 (fun _ => ⟨_, rfl, Nat.le_of_ble_eq_true rfl, rfl⟩) (fun _ _ _ h => by cases h; exact ⟨rfl, rfl⟩) rfl rfl dX11_remember_43 (fun t401 H lc M402 X403 => ?_)
      have I404 := Inv_mu q364 M402 (show Rg (kd 0) 9 v397 from (R_of (lo := 0) (hi := 8) r400 rfl))
      have F405 : Fr [(0, 8), (0, 9)] [52, 53, 54, 55, 56, 57, 58, 59, 60, 61, 62, 63, 64, 65, 66, 67, 68, 69, 70, 71, 72, 73, 74, 75, 76, 77, 78, 79, 80, 81, 82, 83, 84, 85, 86, 87, 88, 89, 90, 91] τ t401 := Fr_mu F367 M402 (by decide)
      refine r_goto (tgt := 62) S dX11_remember_46 (by decide) ?_
      exact r_vret S hr hlk X403 ⟨I404, F405, (HI_rem1 (j := 7) hHI hWI (by decide) ((M402.2 23 2 (Or.inl (by decide))).trans ((q365 23 2 (by decide)).trans rfl)) ((M402.2 0 8 (Or.inr (by decide))).trans ((q365 0 8 (by decide)).trans rfl)) (by have n0 := congrArg Int32.toInt ((M402.2 0 8 (Or.inr (by decide))).trans ((q365 0 8 (by decide)).trans z2)); have n0_ := congrArg Int32.toInt z2; have n1 := congrArg Int32.toInt M402.1; have n1_ := congrArg Int32.toInt z5; omega) (by have n0 := congrArg Int32.toInt ((M402.2 0 8 (Or.inr (by decide))).trans ((q365 0 8 (by decide)).trans z2)); have n0_ := congrArg Int32.toInt z2; have n1 := congrArg Int32.toInt M402.1; have n1_ := congrArg Int32.toInt z5; omega) (show t401 (52 + 5 * 7) 8 = τ 30 8 from (((M402.2 87 8 (Or.inl (by decide))).trans (q366.trans z362)).trans (rfl.symm.trans z362).symm)) (oth8 7 (fun _ => ((M402.2 52 8 (Or.inl (by decide))).trans ((q365 52 8 (by decide)).trans rfl))) (fun _ => ((M402.2 57 8 (Or.inl (by decide))).trans ((q365 57 8 (by decide)).trans rfl))) (fun _ => ((M402.2 62 8 (Or.inl (by decide))).trans ((q365 62 8 (by decide)).trans rfl))) (fun _ => ((M402.2 67 8 (Or.inl (by decide))).trans ((q365 67 8 (by decide)).trans rfl))) (fun _ => ((M402.2 72 8 (Or.inl (by decide))).trans ((q365 72 8 (by decide)).trans rfl))) (fun _ => ((M402.2 77 8 (Or.inl (by decide))).trans ((q365 77 8 (by decide)).trans rfl))) (fun _ => ((M402.2 82 8 (Or.inl (by decide))).trans ((q365 82 8 (by decide)).trans rfl))) (fun h => absurd rfl h)))⟩ dX11_remember_62
def po_X11_undo (τ : Tau)     (r : Int32) (u : Tau) : Prop := Inv u ∧ Fr [(0, 9), (30, 4), (30, 5), (30, 6), (30, 7), (30, 8), (30, 9), (30, 10)] [31, 32, 33, 34] τ u ∧ WI u ∧ HI u
set_option maxHeartbeats 4000000 in
set_option maxRecDepth 100000 in
theorem c_X11_undo (l : Launch) (G : Gx) (τ : Tau) (hI : Inv τ) (hWI : WI τ) (hHI : HI τ) : Ci l G yX11_undo cX11_undo 1 (some .int) 2 81 [.ref (G.2.2.2.1 0)] τ (po_X11_undo τ    ) := by
  unfold Ci
  refine C_of (own := RX11) (by decide) rfl (Nat.le_of_ble_eq_true rfl) ?_
  intro p e s m below meth c ls S hr hlk X hl
  have hl : lv_has ls 1 [(0, .ref (G.2.2.2.1 0))] := hl
  refine r_aload_n S dX11_undo_0 rfl (lv_at hl 0 rfl) ?_
  refine r_getn (K := 0) S X (Nat.le_of_ble_eq_true rfl) rfl lk11_116_9 (fun _ => ⟨_, rfl, rfl⟩) dX11_undo_1 (fun v1 z2 => ?_)
  have r3 : R (0) (8) v1 := rd hI rfl z2
  refine r_if_gt (tgt := 9) S dX11_undo_4 (by decide) (fun c4 => ?_) (fun c4 => ?_)
  ·
    have r5 : R (1) (8) v1 := ⟨by omega, by omega⟩
    refine r_aload_n S dX11_undo_9 rfl (lv_at hl 0 rfl) ?_
    refine r_dup S dX11_undo_10 rfl ?_
    refine r_geti (K := 0) S X (Nat.le_of_ble_eq_true rfl) rfl lk11_116_9 (fun _ => ⟨_, rfl, rfl⟩) z2 dX11_undo_11 ?_
    refine r_iconst S dX11_undo_14 (by decide) (fun v6 z7 => ?_)
    have r8 := R_eq z7
    refine r_isub S dX11_undo_15 (fun v9 z10 => ?_)
    obtain ⟨e11, r12⟩ := i_sub (lo := 0) (hi := 7) z10 r5 r8 rfl
    refine r_put (K := 0) (ty := .int) S X (Nat.le_of_ble_eq_true rfl) rfl lk11_116_9 (fun _ => ⟨_, rfl, Nat.le_of_ble_eq_true rfl, rfl⟩) (fun _ _ _ h => by cases h; exact ⟨rfl, rfl⟩) rfl rfl dX11_undo_16 (fun t13 H lc M14 X15 => ?_)
    have I16 := Inv_mu hI M14 (show Rg (kd 0) 9 v9 from (R_of (lo := 0) (hi := 8) r12 rfl))
    have F17 : Fr [(0, 9), (30, 4), (30, 5), (30, 6), (30, 7), (30, 8), (30, 9), (30, 10)] [31, 32, 33, 34] τ t13 := Fr_mu Fr_rfl M14 (by decide)
    refine r_aload_n S dX11_undo_19 rfl (lv_at hl 0 rfl) ?_
    refine r_get (K := 0) (v := .ref (G.2.2.2.1 22)) S X15 (Nat.le_of_ble_eq_true rfl) rfl lk11_42_9 (fun _ => ⟨_, rfl, rfl⟩) dX11_undo_20 ?_
    refine r_get (K := 22) (v := .ref (G.2.2.2.1 30)) S X15 (Nat.le_of_ble_eq_true rfl) rfl lk11_129_8 (fun _ => ⟨_, rfl, rfl⟩) dX11_undo_23 ?_
    refine r_aload_n S dX11_undo_26 rfl (lv_at hl 0 rfl) ?_
    refine r_get (K := 0) (v := .ref (G.2.2.2.1 51)) S X15 (Nat.le_of_ble_eq_true rfl) rfl lk11_60_9 (fun _ => ⟨_, rfl, rfl⟩) dX11_undo_27 ?_
    refine r_aload_n S dX11_undo_30 rfl (lv_at hl 0 rfl) ?_
    refine r_getn (K := 0) S X15 (Nat.le_of_ble_eq_true rfl) rfl lk11_203_9 (fun _ => ⟨_, rfl, rfl⟩) dX11_undo_31 (fun v18 z19 => ?_)
    have r20 : R (0) (7) v18 := rd I16 rfl z19
    refine r_aload_n S dX11_undo_34 rfl (lv_at hl 0 rfl) ?_
    refine r_geti (K := 0) S X15 (Nat.le_of_ble_eq_true rfl) rfl lk11_116_9 (fun _ => ⟨_, rfl, rfl⟩) M14.1 dX11_undo_35 ?_
    refine r_iadd S dX11_undo_38 (fun v21 z22 => ?_)
    obtain ⟨e23, r24⟩ := i_add (lo := 0) (hi := 14) z22 r20 r12 rfl
    refine r_bipush S dX11_undo_39 (by decide) (fun v25 z26 => ?_)
    have r27 := R_eq z26
    refine r_irem S dX11_undo_41 (by omega) (fun v28 z29 => ?_)
    have r31 : R (0) (7) v28 := i_rem0 z29 r24 r27 rfl
    have e32 : v28.toInt = v21.toInt % 8 := i_remc z29 r24 r27 rfl
    refine r_aldS S X15 (ix_of r31 rfl) dX11_undo_42 (fun n33 h34 h35 => ?_)
    rcases (show n33 = 0 ∨ n33 = 1 ∨ n33 = 2 ∨ n33 = 3 ∨ n33 = 4 ∨ n33 = 5 ∨ n33 = 6 ∨ n33 = 7 by omega) with rfl | rfl | rfl | rfl | rfl | rfl | rfl | rfl
    ·
      refine r_kv (q_V (As := [.ref (G.2.2.2.1 52)]) (rest := []) (K := 23) (ci := 3) S X15 (c_scopy_30_52 l G t13 I16 ) ck11_206 (Nat.le_of_ble_eq_true rfl) rfl (fun _ => ⟨_, rfl⟩) ⟨_, _, rfl⟩ ⟨Nat.le_of_ble_eq_true rfl, Nat.le_of_ble_eq_true rfl⟩ rfl hl.1 rfl (Nat.le_of_ble_eq_true rfl) dX11_undo_43 ⟨Nat.le_refl 0, Nat.le_refl 0⟩) X15 (fun t38 H lc q36 X37 => ?_)
      unfold po_scopy_30_52 at q36
      obtain ⟨v39, z40⟩ : ∃ x, t13 52 8 = x := ⟨_, rfl⟩
      have r41 : R (-1) (8) v39 := rd I16 rfl z40
      obtain ⟨q42, q43, q44⟩ := q36
      have F45 : Fr [(0, 9), (30, 4), (30, 5), (30, 6), (30, 7), (30, 8), (30, 9), (30, 10)] [31, 32, 33, 34] τ t38 := Fr_call F17 q43 (by decide)
      refine r_aload_n S dX11_undo_46 rfl (lv_at hl 0 rfl) ?_
      refine r_geti (K := 0) S X37 (Nat.le_of_ble_eq_true rfl) rfl lk11_116_9 (fun _ => ⟨_, rfl, rfl⟩) ((q43 0 9 (by decide)).trans M14.1) dX11_undo_47 ?_
      exact r_ret S hr hlk X37 ⟨q42, F45, (WI_undo (j := 0) hHI (by decide) ((q43 23 2 (by decide)).trans ((M14.2 23 2 (Or.inl (by decide))).trans rfl)) (show t38 30 8 = τ (52 + 5 * 0) 8 from ((q44.trans z40).trans (((M14.2 52 8 (Or.inl (by decide))).trans rfl).symm.trans z40).symm)) (by have n0 := congrArg Int32.toInt ((q43 0 8 (by decide)).trans z19); have n0_ := congrArg Int32.toInt (((M14.2 0 8 (Or.inr (by decide))).trans rfl).symm.trans z19); have n1 := congrArg Int32.toInt ((q43 0 9 (by decide)).trans M14.1); have n1_ := congrArg Int32.toInt z2; omega) (by have n0 := congrArg Int32.toInt ((q43 0 8 (by decide)).trans z19); have n0_ := congrArg Int32.toInt (((M14.2 0 8 (Or.inr (by decide))).trans rfl).symm.trans z19); have n1 := congrArg Int32.toInt ((q43 0 9 (by decide)).trans M14.1); have n1_ := congrArg Int32.toInt z2; omega)), (HI_undo hHI ((q43 23 2 (by decide)).trans ((M14.2 23 2 (Or.inl (by decide))).trans rfl)) ((q43 0 8 (by decide)).trans ((M14.2 0 8 (Or.inr (by decide))).trans rfl)) (by have n0 := congrArg Int32.toInt ((q43 0 8 (by decide)).trans z19); have n0_ := congrArg Int32.toInt (((M14.2 0 8 (Or.inr (by decide))).trans rfl).symm.trans z19); have n1 := congrArg Int32.toInt ((q43 0 9 (by decide)).trans M14.1); have n1_ := congrArg Int32.toInt z2; omega) (oth8 8 (fun _ => ((q43 52 8 (by decide)).trans ((M14.2 52 8 (Or.inl (by decide))).trans rfl))) (fun _ => ((q43 57 8 (by decide)).trans ((M14.2 57 8 (Or.inl (by decide))).trans rfl))) (fun _ => ((q43 62 8 (by decide)).trans ((M14.2 62 8 (Or.inl (by decide))).trans rfl))) (fun _ => ((q43 67 8 (by decide)).trans ((M14.2 67 8 (Or.inl (by decide))).trans rfl))) (fun _ => ((q43 72 8 (by decide)).trans ((M14.2 72 8 (Or.inl (by decide))).trans rfl))) (fun _ => ((q43 77 8 (by decide)).trans ((M14.2 77 8 (Or.inl (by decide))).trans rfl))) (fun _ => ((q43 82 8 (by decide)).trans ((M14.2 82 8 (Or.inl (by decide))).trans rfl))) (fun _ => ((q43 87 8 (by decide)).trans ((M14.2 87 8 (Or.inl (by decide))).trans rfl)))))⟩ rfl dX11_undo_50
    ·
      refine r_kv (q_V (As := [.ref (G.2.2.2.1 57)]) (rest := []) (K := 23) (ci := 3) S X15 (c_scopy_30_57 l G t13 I16 ) ck11_206 (Nat.le_of_ble_eq_true rfl) rfl (fun _ => ⟨_, rfl⟩) ⟨_, _, rfl⟩ ⟨Nat.le_of_ble_eq_true rfl, Nat.le_of_ble_eq_true rfl⟩ rfl hl.1 rfl (Nat.le_of_ble_eq_true rfl) dX11_undo_43 ⟨Nat.le_refl 0, Nat.le_refl 0⟩) X15 (fun t48 H lc q46 X47 => ?_)
      unfold po_scopy_30_57 at q46
      obtain ⟨v49, z50⟩ : ∃ x, t13 57 8 = x := ⟨_, rfl⟩
      have r51 : R (-1) (8) v49 := rd I16 rfl z50
      obtain ⟨q52, q53, q54⟩ := q46
      have F55 : Fr [(0, 9), (30, 4), (30, 5), (30, 6), (30, 7), (30, 8), (30, 9), (30, 10)] [31, 32, 33, 34] τ t48 := Fr_call F17 q53 (by decide)
      refine r_aload_n S dX11_undo_46 rfl (lv_at hl 0 rfl) ?_
      refine r_geti (K := 0) S X47 (Nat.le_of_ble_eq_true rfl) rfl lk11_116_9 (fun _ => ⟨_, rfl, rfl⟩) ((q53 0 9 (by decide)).trans M14.1) dX11_undo_47 ?_
      exact r_ret S hr hlk X47 ⟨q52, F55, (WI_undo (j := 1) hHI (by decide) ((q53 23 2 (by decide)).trans ((M14.2 23 2 (Or.inl (by decide))).trans rfl)) (show t48 30 8 = τ (52 + 5 * 1) 8 from ((q54.trans z50).trans (((M14.2 57 8 (Or.inl (by decide))).trans rfl).symm.trans z50).symm)) (by have n0 := congrArg Int32.toInt ((q53 0 8 (by decide)).trans z19); have n0_ := congrArg Int32.toInt (((M14.2 0 8 (Or.inr (by decide))).trans rfl).symm.trans z19); have n1 := congrArg Int32.toInt ((q53 0 9 (by decide)).trans M14.1); have n1_ := congrArg Int32.toInt z2; omega) (by have n0 := congrArg Int32.toInt ((q53 0 8 (by decide)).trans z19); have n0_ := congrArg Int32.toInt (((M14.2 0 8 (Or.inr (by decide))).trans rfl).symm.trans z19); have n1 := congrArg Int32.toInt ((q53 0 9 (by decide)).trans M14.1); have n1_ := congrArg Int32.toInt z2; omega)), (HI_undo hHI ((q53 23 2 (by decide)).trans ((M14.2 23 2 (Or.inl (by decide))).trans rfl)) ((q53 0 8 (by decide)).trans ((M14.2 0 8 (Or.inr (by decide))).trans rfl)) (by have n0 := congrArg Int32.toInt ((q53 0 8 (by decide)).trans z19); have n0_ := congrArg Int32.toInt (((M14.2 0 8 (Or.inr (by decide))).trans rfl).symm.trans z19); have n1 := congrArg Int32.toInt ((q53 0 9 (by decide)).trans M14.1); have n1_ := congrArg Int32.toInt z2; omega) (oth8 8 (fun _ => ((q53 52 8 (by decide)).trans ((M14.2 52 8 (Or.inl (by decide))).trans rfl))) (fun _ => ((q53 57 8 (by decide)).trans ((M14.2 57 8 (Or.inl (by decide))).trans rfl))) (fun _ => ((q53 62 8 (by decide)).trans ((M14.2 62 8 (Or.inl (by decide))).trans rfl))) (fun _ => ((q53 67 8 (by decide)).trans ((M14.2 67 8 (Or.inl (by decide))).trans rfl))) (fun _ => ((q53 72 8 (by decide)).trans ((M14.2 72 8 (Or.inl (by decide))).trans rfl))) (fun _ => ((q53 77 8 (by decide)).trans ((M14.2 77 8 (Or.inl (by decide))).trans rfl))) (fun _ => ((q53 82 8 (by decide)).trans ((M14.2 82 8 (Or.inl (by decide))).trans rfl))) (fun _ => ((q53 87 8 (by decide)).trans ((M14.2 87 8 (Or.inl (by decide))).trans rfl)))))⟩ rfl dX11_undo_50
    ·
      refine r_kv (q_V (As := [.ref (G.2.2.2.1 62)]) (rest := []) (K := 23) (ci := 3) S X15 (c_scopy_30_62 l G t13 I16 ) ck11_206 (Nat.le_of_ble_eq_true rfl) rfl (fun _ => ⟨_, rfl⟩) ⟨_, _, rfl⟩ ⟨Nat.le_of_ble_eq_true rfl, Nat.le_of_ble_eq_true rfl⟩ rfl hl.1 rfl (Nat.le_of_ble_eq_true rfl) dX11_undo_43 ⟨Nat.le_refl 0, Nat.le_refl 0⟩) X15 (fun t58 H lc q56 X57 => ?_)
      unfold po_scopy_30_62 at q56
      obtain ⟨v59, z60⟩ : ∃ x, t13 62 8 = x := ⟨_, rfl⟩
      have r61 : R (-1) (8) v59 := rd I16 rfl z60
      obtain ⟨q62, q63, q64⟩ := q56
      have F65 : Fr [(0, 9), (30, 4), (30, 5), (30, 6), (30, 7), (30, 8), (30, 9), (30, 10)] [31, 32, 33, 34] τ t58 := Fr_call F17 q63 (by decide)
      refine r_aload_n S dX11_undo_46 rfl (lv_at hl 0 rfl) ?_
      refine r_geti (K := 0) S X57 (Nat.le_of_ble_eq_true rfl) rfl lk11_116_9 (fun _ => ⟨_, rfl, rfl⟩) ((q63 0 9 (by decide)).trans M14.1) dX11_undo_47 ?_
      exact r_ret S hr hlk X57 ⟨q62, F65, (WI_undo (j := 2) hHI (by decide) ((q63 23 2 (by decide)).trans ((M14.2 23 2 (Or.inl (by decide))).trans rfl)) (show t58 30 8 = τ (52 + 5 * 2) 8 from ((q64.trans z60).trans (((M14.2 62 8 (Or.inl (by decide))).trans rfl).symm.trans z60).symm)) (by have n0 := congrArg Int32.toInt ((q63 0 8 (by decide)).trans z19); have n0_ := congrArg Int32.toInt (((M14.2 0 8 (Or.inr (by decide))).trans rfl).symm.trans z19); have n1 := congrArg Int32.toInt ((q63 0 9 (by decide)).trans M14.1); have n1_ := congrArg Int32.toInt z2; omega) (by have n0 := congrArg Int32.toInt ((q63 0 8 (by decide)).trans z19); have n0_ := congrArg Int32.toInt (((M14.2 0 8 (Or.inr (by decide))).trans rfl).symm.trans z19); have n1 := congrArg Int32.toInt ((q63 0 9 (by decide)).trans M14.1); have n1_ := congrArg Int32.toInt z2; omega)), (HI_undo hHI ((q63 23 2 (by decide)).trans ((M14.2 23 2 (Or.inl (by decide))).trans rfl)) ((q63 0 8 (by decide)).trans ((M14.2 0 8 (Or.inr (by decide))).trans rfl)) (by have n0 := congrArg Int32.toInt ((q63 0 8 (by decide)).trans z19); have n0_ := congrArg Int32.toInt (((M14.2 0 8 (Or.inr (by decide))).trans rfl).symm.trans z19); have n1 := congrArg Int32.toInt ((q63 0 9 (by decide)).trans M14.1); have n1_ := congrArg Int32.toInt z2; omega) (oth8 8 (fun _ => ((q63 52 8 (by decide)).trans ((M14.2 52 8 (Or.inl (by decide))).trans rfl))) (fun _ => ((q63 57 8 (by decide)).trans ((M14.2 57 8 (Or.inl (by decide))).trans rfl))) (fun _ => ((q63 62 8 (by decide)).trans ((M14.2 62 8 (Or.inl (by decide))).trans rfl))) (fun _ => ((q63 67 8 (by decide)).trans ((M14.2 67 8 (Or.inl (by decide))).trans rfl))) (fun _ => ((q63 72 8 (by decide)).trans ((M14.2 72 8 (Or.inl (by decide))).trans rfl))) (fun _ => ((q63 77 8 (by decide)).trans ((M14.2 77 8 (Or.inl (by decide))).trans rfl))) (fun _ => ((q63 82 8 (by decide)).trans ((M14.2 82 8 (Or.inl (by decide))).trans rfl))) (fun _ => ((q63 87 8 (by decide)).trans ((M14.2 87 8 (Or.inl (by decide))).trans rfl)))))⟩ rfl dX11_undo_50
    ·
      refine r_kv (q_V (As := [.ref (G.2.2.2.1 67)]) (rest := []) (K := 23) (ci := 3) S X15 (c_scopy_30_67 l G t13 I16 ) ck11_206 (Nat.le_of_ble_eq_true rfl) rfl (fun _ => ⟨_, rfl⟩) ⟨_, _, rfl⟩ ⟨Nat.le_of_ble_eq_true rfl, Nat.le_of_ble_eq_true rfl⟩ rfl hl.1 rfl (Nat.le_of_ble_eq_true rfl) dX11_undo_43 ⟨Nat.le_refl 0, Nat.le_refl 0⟩) X15 (fun t68 H lc q66 X67 => ?_)
      unfold po_scopy_30_67 at q66
      obtain ⟨v69, z70⟩ : ∃ x, t13 67 8 = x := ⟨_, rfl⟩
      have r71 : R (-1) (8) v69 := rd I16 rfl z70
      obtain ⟨q72, q73, q74⟩ := q66
      have F75 : Fr [(0, 9), (30, 4), (30, 5), (30, 6), (30, 7), (30, 8), (30, 9), (30, 10)] [31, 32, 33, 34] τ t68 := Fr_call F17 q73 (by decide)
      refine r_aload_n S dX11_undo_46 rfl (lv_at hl 0 rfl) ?_
      refine r_geti (K := 0) S X67 (Nat.le_of_ble_eq_true rfl) rfl lk11_116_9 (fun _ => ⟨_, rfl, rfl⟩) ((q73 0 9 (by decide)).trans M14.1) dX11_undo_47 ?_
      exact r_ret S hr hlk X67 ⟨q72, F75, (WI_undo (j := 3) hHI (by decide) ((q73 23 2 (by decide)).trans ((M14.2 23 2 (Or.inl (by decide))).trans rfl)) (show t68 30 8 = τ (52 + 5 * 3) 8 from ((q74.trans z70).trans (((M14.2 67 8 (Or.inl (by decide))).trans rfl).symm.trans z70).symm)) (by have n0 := congrArg Int32.toInt ((q73 0 8 (by decide)).trans z19); have n0_ := congrArg Int32.toInt (((M14.2 0 8 (Or.inr (by decide))).trans rfl).symm.trans z19); have n1 := congrArg Int32.toInt ((q73 0 9 (by decide)).trans M14.1); have n1_ := congrArg Int32.toInt z2; omega) (by have n0 := congrArg Int32.toInt ((q73 0 8 (by decide)).trans z19); have n0_ := congrArg Int32.toInt (((M14.2 0 8 (Or.inr (by decide))).trans rfl).symm.trans z19); have n1 := congrArg Int32.toInt ((q73 0 9 (by decide)).trans M14.1); have n1_ := congrArg Int32.toInt z2; omega)), (HI_undo hHI ((q73 23 2 (by decide)).trans ((M14.2 23 2 (Or.inl (by decide))).trans rfl)) ((q73 0 8 (by decide)).trans ((M14.2 0 8 (Or.inr (by decide))).trans rfl)) (by have n0 := congrArg Int32.toInt ((q73 0 8 (by decide)).trans z19); have n0_ := congrArg Int32.toInt (((M14.2 0 8 (Or.inr (by decide))).trans rfl).symm.trans z19); have n1 := congrArg Int32.toInt ((q73 0 9 (by decide)).trans M14.1); have n1_ := congrArg Int32.toInt z2; omega) (oth8 8 (fun _ => ((q73 52 8 (by decide)).trans ((M14.2 52 8 (Or.inl (by decide))).trans rfl))) (fun _ => ((q73 57 8 (by decide)).trans ((M14.2 57 8 (Or.inl (by decide))).trans rfl))) (fun _ => ((q73 62 8 (by decide)).trans ((M14.2 62 8 (Or.inl (by decide))).trans rfl))) (fun _ => ((q73 67 8 (by decide)).trans ((M14.2 67 8 (Or.inl (by decide))).trans rfl))) (fun _ => ((q73 72 8 (by decide)).trans ((M14.2 72 8 (Or.inl (by decide))).trans rfl))) (fun _ => ((q73 77 8 (by decide)).trans ((M14.2 77 8 (Or.inl (by decide))).trans rfl))) (fun _ => ((q73 82 8 (by decide)).trans ((M14.2 82 8 (Or.inl (by decide))).trans rfl))) (fun _ => ((q73 87 8 (by decide)).trans ((M14.2 87 8 (Or.inl (by decide))).trans rfl)))))⟩ rfl dX11_undo_50
    ·
      refine r_kv (q_V (As := [.ref (G.2.2.2.1 72)]) (rest := []) (K := 23) (ci := 3) S X15 (c_scopy_30_72 l G t13 I16 ) ck11_206 (Nat.le_of_ble_eq_true rfl) rfl (fun _ => ⟨_, rfl⟩) ⟨_, _, rfl⟩ ⟨Nat.le_of_ble_eq_true rfl, Nat.le_of_ble_eq_true rfl⟩ rfl hl.1 rfl (Nat.le_of_ble_eq_true rfl) dX11_undo_43 ⟨Nat.le_refl 0, Nat.le_refl 0⟩) X15 (fun t78 H lc q76 X77 => ?_)
      unfold po_scopy_30_72 at q76
      obtain ⟨v79, z80⟩ : ∃ x, t13 72 8 = x := ⟨_, rfl⟩
      have r81 : R (-1) (8) v79 := rd I16 rfl z80
      obtain ⟨q82, q83, q84⟩ := q76
      have F85 : Fr [(0, 9), (30, 4), (30, 5), (30, 6), (30, 7), (30, 8), (30, 9), (30, 10)] [31, 32, 33, 34] τ t78 := Fr_call F17 q83 (by decide)
      refine r_aload_n S dX11_undo_46 rfl (lv_at hl 0 rfl) ?_
      refine r_geti (K := 0) S X77 (Nat.le_of_ble_eq_true rfl) rfl lk11_116_9 (fun _ => ⟨_, rfl, rfl⟩) ((q83 0 9 (by decide)).trans M14.1) dX11_undo_47 ?_
      exact r_ret S hr hlk X77 ⟨q82, F85, (WI_undo (j := 4) hHI (by decide) ((q83 23 2 (by decide)).trans ((M14.2 23 2 (Or.inl (by decide))).trans rfl)) (show t78 30 8 = τ (52 + 5 * 4) 8 from ((q84.trans z80).trans (((M14.2 72 8 (Or.inl (by decide))).trans rfl).symm.trans z80).symm)) (by have n0 := congrArg Int32.toInt ((q83 0 8 (by decide)).trans z19); have n0_ := congrArg Int32.toInt (((M14.2 0 8 (Or.inr (by decide))).trans rfl).symm.trans z19); have n1 := congrArg Int32.toInt ((q83 0 9 (by decide)).trans M14.1); have n1_ := congrArg Int32.toInt z2; omega) (by have n0 := congrArg Int32.toInt ((q83 0 8 (by decide)).trans z19); have n0_ := congrArg Int32.toInt (((M14.2 0 8 (Or.inr (by decide))).trans rfl).symm.trans z19); have n1 := congrArg Int32.toInt ((q83 0 9 (by decide)).trans M14.1); have n1_ := congrArg Int32.toInt z2; omega)), (HI_undo hHI ((q83 23 2 (by decide)).trans ((M14.2 23 2 (Or.inl (by decide))).trans rfl)) ((q83 0 8 (by decide)).trans ((M14.2 0 8 (Or.inr (by decide))).trans rfl)) (by have n0 := congrArg Int32.toInt ((q83 0 8 (by decide)).trans z19); have n0_ := congrArg Int32.toInt (((M14.2 0 8 (Or.inr (by decide))).trans rfl).symm.trans z19); have n1 := congrArg Int32.toInt ((q83 0 9 (by decide)).trans M14.1); have n1_ := congrArg Int32.toInt z2; omega) (oth8 8 (fun _ => ((q83 52 8 (by decide)).trans ((M14.2 52 8 (Or.inl (by decide))).trans rfl))) (fun _ => ((q83 57 8 (by decide)).trans ((M14.2 57 8 (Or.inl (by decide))).trans rfl))) (fun _ => ((q83 62 8 (by decide)).trans ((M14.2 62 8 (Or.inl (by decide))).trans rfl))) (fun _ => ((q83 67 8 (by decide)).trans ((M14.2 67 8 (Or.inl (by decide))).trans rfl))) (fun _ => ((q83 72 8 (by decide)).trans ((M14.2 72 8 (Or.inl (by decide))).trans rfl))) (fun _ => ((q83 77 8 (by decide)).trans ((M14.2 77 8 (Or.inl (by decide))).trans rfl))) (fun _ => ((q83 82 8 (by decide)).trans ((M14.2 82 8 (Or.inl (by decide))).trans rfl))) (fun _ => ((q83 87 8 (by decide)).trans ((M14.2 87 8 (Or.inl (by decide))).trans rfl)))))⟩ rfl dX11_undo_50
    ·
      refine r_kv (q_V (As := [.ref (G.2.2.2.1 77)]) (rest := []) (K := 23) (ci := 3) S X15 (c_scopy_30_77 l G t13 I16 ) ck11_206 (Nat.le_of_ble_eq_true rfl) rfl (fun _ => ⟨_, rfl⟩) ⟨_, _, rfl⟩ ⟨Nat.le_of_ble_eq_true rfl, Nat.le_of_ble_eq_true rfl⟩ rfl hl.1 rfl (Nat.le_of_ble_eq_true rfl) dX11_undo_43 ⟨Nat.le_refl 0, Nat.le_refl 0⟩) X15 (fun t88 H lc q86 X87 => ?_)
      unfold po_scopy_30_77 at q86
      obtain ⟨v89, z90⟩ : ∃ x, t13 77 8 = x := ⟨_, rfl⟩
      have r91 : R (-1) (8) v89 := rd I16 rfl z90
      obtain ⟨q92, q93, q94⟩ := q86
      have F95 : Fr [(0, 9), (30, 4), (30, 5), (30, 6), (30, 7), (30, 8), (30, 9), (30, 10)] [31, 32, 33, 34] τ t88 := Fr_call F17 q93 (by decide)
      refine r_aload_n S dX11_undo_46 rfl (lv_at hl 0 rfl) ?_
      refine r_geti (K := 0) S X87 (Nat.le_of_ble_eq_true rfl) rfl lk11_116_9 (fun _ => ⟨_, rfl, rfl⟩) ((q93 0 9 (by decide)).trans M14.1) dX11_undo_47 ?_
      exact r_ret S hr hlk X87 ⟨q92, F95, (WI_undo (j := 5) hHI (by decide) ((q93 23 2 (by decide)).trans ((M14.2 23 2 (Or.inl (by decide))).trans rfl)) (show t88 30 8 = τ (52 + 5 * 5) 8 from ((q94.trans z90).trans (((M14.2 77 8 (Or.inl (by decide))).trans rfl).symm.trans z90).symm)) (by have n0 := congrArg Int32.toInt ((q93 0 8 (by decide)).trans z19); have n0_ := congrArg Int32.toInt (((M14.2 0 8 (Or.inr (by decide))).trans rfl).symm.trans z19); have n1 := congrArg Int32.toInt ((q93 0 9 (by decide)).trans M14.1); have n1_ := congrArg Int32.toInt z2; omega) (by have n0 := congrArg Int32.toInt ((q93 0 8 (by decide)).trans z19); have n0_ := congrArg Int32.toInt (((M14.2 0 8 (Or.inr (by decide))).trans rfl).symm.trans z19); have n1 := congrArg Int32.toInt ((q93 0 9 (by decide)).trans M14.1); have n1_ := congrArg Int32.toInt z2; omega)), (HI_undo hHI ((q93 23 2 (by decide)).trans ((M14.2 23 2 (Or.inl (by decide))).trans rfl)) ((q93 0 8 (by decide)).trans ((M14.2 0 8 (Or.inr (by decide))).trans rfl)) (by have n0 := congrArg Int32.toInt ((q93 0 8 (by decide)).trans z19); have n0_ := congrArg Int32.toInt (((M14.2 0 8 (Or.inr (by decide))).trans rfl).symm.trans z19); have n1 := congrArg Int32.toInt ((q93 0 9 (by decide)).trans M14.1); have n1_ := congrArg Int32.toInt z2; omega) (oth8 8 (fun _ => ((q93 52 8 (by decide)).trans ((M14.2 52 8 (Or.inl (by decide))).trans rfl))) (fun _ => ((q93 57 8 (by decide)).trans ((M14.2 57 8 (Or.inl (by decide))).trans rfl))) (fun _ => ((q93 62 8 (by decide)).trans ((M14.2 62 8 (Or.inl (by decide))).trans rfl))) (fun _ => ((q93 67 8 (by decide)).trans ((M14.2 67 8 (Or.inl (by decide))).trans rfl))) (fun _ => ((q93 72 8 (by decide)).trans ((M14.2 72 8 (Or.inl (by decide))).trans rfl))) (fun _ => ((q93 77 8 (by decide)).trans ((M14.2 77 8 (Or.inl (by decide))).trans rfl))) (fun _ => ((q93 82 8 (by decide)).trans ((M14.2 82 8 (Or.inl (by decide))).trans rfl))) (fun _ => ((q93 87 8 (by decide)).trans ((M14.2 87 8 (Or.inl (by decide))).trans rfl)))))⟩ rfl dX11_undo_50
    ·
      refine r_kv (q_V (As := [.ref (G.2.2.2.1 82)]) (rest := []) (K := 23) (ci := 3) S X15 (c_scopy_30_82 l G t13 I16 ) ck11_206 (Nat.le_of_ble_eq_true rfl) rfl (fun _ => ⟨_, rfl⟩) ⟨_, _, rfl⟩ ⟨Nat.le_of_ble_eq_true rfl, Nat.le_of_ble_eq_true rfl⟩ rfl hl.1 rfl (Nat.le_of_ble_eq_true rfl) dX11_undo_43 ⟨Nat.le_refl 0, Nat.le_refl 0⟩) X15 (fun t98 H lc q96 X97 => ?_)
      unfold po_scopy_30_82 at q96
      obtain ⟨v99, z100⟩ : ∃ x, t13 82 8 = x := ⟨_, rfl⟩
      have r101 : R (-1) (8) v99 := rd I16 rfl z100
      obtain ⟨q102, q103, q104⟩ := q96
      have F105 : Fr [(0, 9), (30, 4), (30, 5), (30, 6), (30, 7), (30, 8), (30, 9), (30, 10)] [31, 32, 33, 34] τ t98 := Fr_call F17 q103 (by decide)
      refine r_aload_n S dX11_undo_46 rfl (lv_at hl 0 rfl) ?_
      refine r_geti (K := 0) S X97 (Nat.le_of_ble_eq_true rfl) rfl lk11_116_9 (fun _ => ⟨_, rfl, rfl⟩) ((q103 0 9 (by decide)).trans M14.1) dX11_undo_47 ?_
      exact r_ret S hr hlk X97 ⟨q102, F105, (WI_undo (j := 6) hHI (by decide) ((q103 23 2 (by decide)).trans ((M14.2 23 2 (Or.inl (by decide))).trans rfl)) (show t98 30 8 = τ (52 + 5 * 6) 8 from ((q104.trans z100).trans (((M14.2 82 8 (Or.inl (by decide))).trans rfl).symm.trans z100).symm)) (by have n0 := congrArg Int32.toInt ((q103 0 8 (by decide)).trans z19); have n0_ := congrArg Int32.toInt (((M14.2 0 8 (Or.inr (by decide))).trans rfl).symm.trans z19); have n1 := congrArg Int32.toInt ((q103 0 9 (by decide)).trans M14.1); have n1_ := congrArg Int32.toInt z2; omega) (by have n0 := congrArg Int32.toInt ((q103 0 8 (by decide)).trans z19); have n0_ := congrArg Int32.toInt (((M14.2 0 8 (Or.inr (by decide))).trans rfl).symm.trans z19); have n1 := congrArg Int32.toInt ((q103 0 9 (by decide)).trans M14.1); have n1_ := congrArg Int32.toInt z2; omega)), (HI_undo hHI ((q103 23 2 (by decide)).trans ((M14.2 23 2 (Or.inl (by decide))).trans rfl)) ((q103 0 8 (by decide)).trans ((M14.2 0 8 (Or.inr (by decide))).trans rfl)) (by have n0 := congrArg Int32.toInt ((q103 0 8 (by decide)).trans z19); have n0_ := congrArg Int32.toInt (((M14.2 0 8 (Or.inr (by decide))).trans rfl).symm.trans z19); have n1 := congrArg Int32.toInt ((q103 0 9 (by decide)).trans M14.1); have n1_ := congrArg Int32.toInt z2; omega) (oth8 8 (fun _ => ((q103 52 8 (by decide)).trans ((M14.2 52 8 (Or.inl (by decide))).trans rfl))) (fun _ => ((q103 57 8 (by decide)).trans ((M14.2 57 8 (Or.inl (by decide))).trans rfl))) (fun _ => ((q103 62 8 (by decide)).trans ((M14.2 62 8 (Or.inl (by decide))).trans rfl))) (fun _ => ((q103 67 8 (by decide)).trans ((M14.2 67 8 (Or.inl (by decide))).trans rfl))) (fun _ => ((q103 72 8 (by decide)).trans ((M14.2 72 8 (Or.inl (by decide))).trans rfl))) (fun _ => ((q103 77 8 (by decide)).trans ((M14.2 77 8 (Or.inl (by decide))).trans rfl))) (fun _ => ((q103 82 8 (by decide)).trans ((M14.2 82 8 (Or.inl (by decide))).trans rfl))) (fun _ => ((q103 87 8 (by decide)).trans ((M14.2 87 8 (Or.inl (by decide))).trans rfl)))))⟩ rfl dX11_undo_50
    ·
      refine r_kv (q_V (As := [.ref (G.2.2.2.1 87)]) (rest := []) (K := 23) (ci := 3) S X15 (c_scopy_30_87 l G t13 I16 ) ck11_206 (Nat.le_of_ble_eq_true rfl) rfl (fun _ => ⟨_, rfl⟩) ⟨_, _, rfl⟩ ⟨Nat.le_of_ble_eq_true rfl, Nat.le_of_ble_eq_true rfl⟩ rfl hl.1 rfl (Nat.le_of_ble_eq_true rfl) dX11_undo_43 ⟨Nat.le_refl 0, Nat.le_refl 0⟩) X15 (fun t108 H lc q106 X107 => ?_)
      unfold po_scopy_30_87 at q106
      obtain ⟨v109, z110⟩ : ∃ x, t13 87 8 = x := ⟨_, rfl⟩
      have r111 : R (-1) (8) v109 := rd I16 rfl z110
      obtain ⟨q112, q113, q114⟩ := q106
      have F115 : Fr [(0, 9), (30, 4), (30, 5), (30, 6), (30, 7), (30, 8), (30, 9), (30, 10)] [31, 32, 33, 34] τ t108 := Fr_call F17 q113 (by decide)
      refine r_aload_n S dX11_undo_46 rfl (lv_at hl 0 rfl) ?_
      refine r_geti (K := 0) S X107 (Nat.le_of_ble_eq_true rfl) rfl lk11_116_9 (fun _ => ⟨_, rfl, rfl⟩) ((q113 0 9 (by decide)).trans M14.1) dX11_undo_47 ?_
      exact r_ret S hr hlk X107 ⟨q112, F115, (WI_undo (j := 7) hHI (by decide) ((q113 23 2 (by decide)).trans ((M14.2 23 2 (Or.inl (by decide))).trans rfl)) (show t108 30 8 = τ (52 + 5 * 7) 8 from ((q114.trans z110).trans (((M14.2 87 8 (Or.inl (by decide))).trans rfl).symm.trans z110).symm)) (by have n0 := congrArg Int32.toInt ((q113 0 8 (by decide)).trans z19); have n0_ := congrArg Int32.toInt (((M14.2 0 8 (Or.inr (by decide))).trans rfl).symm.trans z19); have n1 := congrArg Int32.toInt ((q113 0 9 (by decide)).trans M14.1); have n1_ := congrArg Int32.toInt z2; omega) (by have n0 := congrArg Int32.toInt ((q113 0 8 (by decide)).trans z19); have n0_ := congrArg Int32.toInt (((M14.2 0 8 (Or.inr (by decide))).trans rfl).symm.trans z19); have n1 := congrArg Int32.toInt ((q113 0 9 (by decide)).trans M14.1); have n1_ := congrArg Int32.toInt z2; omega)), (HI_undo hHI ((q113 23 2 (by decide)).trans ((M14.2 23 2 (Or.inl (by decide))).trans rfl)) ((q113 0 8 (by decide)).trans ((M14.2 0 8 (Or.inr (by decide))).trans rfl)) (by have n0 := congrArg Int32.toInt ((q113 0 8 (by decide)).trans z19); have n0_ := congrArg Int32.toInt (((M14.2 0 8 (Or.inr (by decide))).trans rfl).symm.trans z19); have n1 := congrArg Int32.toInt ((q113 0 9 (by decide)).trans M14.1); have n1_ := congrArg Int32.toInt z2; omega) (oth8 8 (fun _ => ((q113 52 8 (by decide)).trans ((M14.2 52 8 (Or.inl (by decide))).trans rfl))) (fun _ => ((q113 57 8 (by decide)).trans ((M14.2 57 8 (Or.inl (by decide))).trans rfl))) (fun _ => ((q113 62 8 (by decide)).trans ((M14.2 62 8 (Or.inl (by decide))).trans rfl))) (fun _ => ((q113 67 8 (by decide)).trans ((M14.2 67 8 (Or.inl (by decide))).trans rfl))) (fun _ => ((q113 72 8 (by decide)).trans ((M14.2 72 8 (Or.inl (by decide))).trans rfl))) (fun _ => ((q113 77 8 (by decide)).trans ((M14.2 77 8 (Or.inl (by decide))).trans rfl))) (fun _ => ((q113 82 8 (by decide)).trans ((M14.2 82 8 (Or.inl (by decide))).trans rfl))) (fun _ => ((q113 87 8 (by decide)).trans ((M14.2 87 8 (Or.inl (by decide))).trans rfl)))))⟩ rfl dX11_undo_50
  ·
    have r116 : R (0) (0) v1 := ⟨by omega, by omega⟩
    refine r_iconst S dX11_undo_7 (by decide) (fun v117 z118 => ?_)
    have r119 := R_eq z118
    exact r_ret S hr hlk X ⟨hI, Fr_rfl, hWI, hHI⟩ rfl dX11_undo_8
def po_X11_attempt_0 (τ : Tau)  (a0 a1 a2 a3 : Int32)   (r : Int32) (u : Tau) : Prop := Inv u ∧ Fr [(0, 8), (0, 9), (30, 4), (30, 5), (30, 6), (30, 10)] [52, 53, 54, 55, 56, 57, 58, 59, 60, 61, 62, 63, 64, 65, 66, 67, 68, 69, 70, 71, 72, 73, 74, 75, 76, 77, 78, 79, 80, 81, 82, 83, 84, 85, 86, 87, 88, 89, 90, 91, 33, 34] τ u ∧ WI u ∧ HI u ∧ R (0) (4) r
set_option maxHeartbeats 4000000 in
set_option maxRecDepth 100000 in
theorem c_X11_attempt_0 (l : Launch) (G : Gx) (τ : Tau) (hI : Inv τ) (a0 : Int32) (a1 : Int32) (a2 : Int32) (a3 : Int32) (h_a0 : R (0) (0) a0) (h_a1 : R (0) (1023) a1) (h_a2 : R (-1) (-1) a2) (h_a3 : R (0) (0) a3) (hWI : WI τ) (hHI : HI τ) : Ci l G yX11_attempt cX11_attempt 6 (some .int) 6 142 [.ref (G.2.2.2.1 0), .int a0, .int a1, .int a2, .int a3] τ (po_X11_attempt_0 τ  a0 a1 a2 a3  ) := by
  unfold Ci
  refine C_of (own := RX11) (by decide) rfl (Nat.le_of_ble_eq_true rfl) ?_
  intro p e s m below meth c ls S hr hlk X hl
  have hl : lv_has ls 6 [(0, .ref (G.2.2.2.1 0)), (1, .int a0), (2, .int a1), (3, .int a2), (4, .int a3)] := hl
  refine r_aload_n S dX11_attempt_0 rfl (lv_at hl 0 rfl) ?_
  refine r_get (K := 0) (v := .ref (G.2.2.2.1 22)) S X (Nat.le_of_ble_eq_true rfl) rfl lk11_42_9 (fun _ => ⟨_, rfl, rfl⟩) dX11_attempt_1 ?_
  refine r_iload_n S dX11_attempt_4 rfl (lv_at hl 1 rfl) ?_
  refine r_iload_n S dX11_attempt_5 rfl (lv_at hl 2 rfl) ?_
  refine r_iload_n S dX11_attempt_6 rfl (lv_at hl 3 rfl) ?_
  refine r_iload S dX11_attempt_7 (lv_at hl 4 rfl) ?_
  refine r_ki (q_V (As := [.int a0, .int a1, .int a2, .int a3]) (rest := []) (K := 22) (ci := 8) S X (c_X10_whyNot_0 l G τ hI a0 a1 a2 a3 h_a0 h_a1 h_a2 h_a3 hWI) ck11_316 (Nat.le_of_ble_eq_true rfl) rfl (fun _ => ⟨_, rfl⟩) ⟨_, _, rfl⟩ ⟨Nat.le_of_ble_eq_true rfl, Nat.le_of_ble_eq_true rfl⟩ rfl hl.1 rfl (Nat.le_of_ble_eq_true rfl) dX11_attempt_9 ⟨Nat.le_refl 0, Nat.le_refl 0⟩) X (fun v4 t3 H lc q1 X2 => ?_)
  unfold po_X10_whyNot_0 at q1
  obtain ⟨q5, q6⟩ := q1
  rw [q5] at X2
  refine r_istore (lv' := [(5, .int v4), (0, .ref (G.2.2.2.1 0)), (1, .int a0), (2, .int a1), (3, .int a2), (4, .int a3)]) S dX11_attempt_12 hl (by decide) rfl (fun ls hl => ?_)
  refine r_iload S dX11_attempt_14 (lv_at hl 0 rfl) ?_
  refine r_if_ne (tgt := 35) S dX11_attempt_16 (by decide) (fun c7 => ?_) (fun c7 => ?_)
  ·
    have r8 : R (1) (4) v4 := ⟨by omega, by omega⟩
    refine r_iload S dX11_attempt_35 (lv_at hl 0 rfl) ?_
    exact r_ret S hr hlk X2 ⟨hI, Fr_rfl, hWI, hHI, (R_of r8 rfl)⟩ rfl dX11_attempt_37
  ·
    have r9 : R (0) (0) v4 := ⟨by omega, by omega⟩
    refine r_aload_n S dX11_attempt_19 rfl (lv_at hl 1 rfl) ?_
    refine r_kv (q_V (As := []) (rest := []) (K := 0) (ci := 9) S X2 (c_X11_remember l G τ hI hWI hHI) ck11_266 (Nat.le_of_ble_eq_true rfl) rfl (fun _ => ⟨_, rfl⟩) ⟨_, _, rfl⟩ ⟨Nat.le_of_ble_eq_true rfl, Nat.le_of_ble_eq_true rfl⟩ rfl hl.1 rfl (Nat.le_of_ble_eq_true rfl) dX11_attempt_20 ⟨Nat.le_refl 0, Nat.le_refl 0⟩) X2 (fun t12 H lc q10 X11 => ?_)
    unfold po_X11_remember at q10
    obtain ⟨q13, q14, q15⟩ := q10
    have F16 : Fr [(0, 8), (0, 9), (30, 4), (30, 5), (30, 6), (30, 10)] [52, 53, 54, 55, 56, 57, 58, 59, 60, 61, 62, 63, 64, 65, 66, 67, 68, 69, 70, 71, 72, 73, 74, 75, 76, 77, 78, 79, 80, 81, 82, 83, 84, 85, 86, 87, 88, 89, 90, 91, 33, 34] τ t12 := Fr_call Fr_rfl q14 (by decide)
    refine r_aload_n S dX11_attempt_23 rfl (lv_at hl 1 rfl) ?_
    refine r_get (K := 0) (v := .ref (G.2.2.2.1 22)) S X11 (Nat.le_of_ble_eq_true rfl) rfl lk11_42_9 (fun _ => ⟨_, rfl, rfl⟩) dX11_attempt_24 ?_
    refine r_iload_n S dX11_attempt_27 rfl (lv_at hl 2 rfl) ?_
    refine r_iload_n S dX11_attempt_28 rfl (lv_at hl 3 rfl) ?_
    refine r_iload_n S dX11_attempt_29 rfl (lv_at hl 4 rfl) ?_
    refine r_iload S dX11_attempt_30 (lv_at hl 5 rfl) ?_
    refine r_kv (q_V (As := [.int a0, .int a1, .int a2, .int a3]) (rest := []) (K := 22) (ci := 8) S X11 (c_X10_perform_0 l G t12 q13 a0 a1 a2 a3 h_a0 h_a1 h_a2 h_a3) ck11_319 (Nat.le_of_ble_eq_true rfl) rfl (fun _ => ⟨_, rfl⟩) ⟨_, _, rfl⟩ ⟨Nat.le_of_ble_eq_true rfl, Nat.le_of_ble_eq_true rfl⟩ rfl hl.1 rfl (Nat.le_of_ble_eq_true rfl) dX11_attempt_32 ⟨Nat.le_refl 0, Nat.le_refl 0⟩) X11 (fun t19 H lc q17 X18 => ?_)
    unfold po_X10_perform_0 at q17
    obtain ⟨q20, q21⟩ := q17
    have F22 : Fr [(0, 8), (0, 9), (30, 4), (30, 5), (30, 6), (30, 10)] [52, 53, 54, 55, 56, 57, 58, 59, 60, 61, 62, 63, 64, 65, 66, 67, 68, 69, 70, 71, 72, 73, 74, 75, 76, 77, 78, 79, 80, 81, 82, 83, 84, 85, 86, 87, 88, 89, 90, 91, 33, 34] τ t19 := Fr_call F16 q21 (by decide)
    refine r_iload S dX11_attempt_35 (lv_at hl 0 rfl) ?_
    exact r_ret S hr hlk X18 ⟨q20, F22, (WI_eq hWI ((q21 23 2 (by decide)).trans ((q14 23 2 (by decide)).trans rfl)) ((q21 30 8 (by decide)).trans ((q14 30 8 (by decide)).trans rfl))), (HI_eq q15 ((q21 23 2 (by decide)).trans rfl) ((q21 0 8 (by decide)).trans rfl) ((q21 0 9 (by decide)).trans rfl) ((q21 52 8 (by decide)).trans rfl) ((q21 57 8 (by decide)).trans rfl) ((q21 62 8 (by decide)).trans rfl) ((q21 67 8 (by decide)).trans rfl) ((q21 72 8 (by decide)).trans rfl) ((q21 77 8 (by decide)).trans rfl) ((q21 82 8 (by decide)).trans rfl) ((q21 87 8 (by decide)).trans rfl)), (R_of r9 rfl)⟩ rfl dX11_attempt_37
def po_X11_attempt_1 (τ : Tau)  (a0 a1 a2 a3 : Int32)   (r : Int32) (u : Tau) : Prop := Inv u ∧ Fr [(0, 8), (0, 9), (30, 8)] [52, 53, 54, 55, 56, 57, 58, 59, 60, 61, 62, 63, 64, 65, 66, 67, 68, 69, 70, 71, 72, 73, 74, 75, 76, 77, 78, 79, 80, 81, 82, 83, 84, 85, 86, 87, 88, 89, 90, 91] τ u ∧ WI u ∧ HI u ∧ R (0) (4) r
set_option maxHeartbeats 4000000 in
set_option maxRecDepth 100000 in
theorem c_X11_attempt_1 (l : Launch) (G : Gx) (τ : Tau) (hI : Inv τ) (a0 : Int32) (a1 : Int32) (a2 : Int32) (a3 : Int32) (h_a0 : R (1) (1) a0) (h_a1 : R (-1) (-1) a1) (h_a2 : R (0) (8) a2) (h_a3 : R (0) (0) a3) (hWI : WI τ) (hHI : HI τ) : Ci l G yX11_attempt cX11_attempt 6 (some .int) 3 101 [.ref (G.2.2.2.1 0), .int a0, .int a1, .int a2, .int a3] τ (po_X11_attempt_1 τ  a0 a1 a2 a3  ) := by
  unfold Ci
  refine C_of (own := RX11) (by decide) rfl (Nat.le_of_ble_eq_true rfl) ?_
  intro p e s m below meth c ls S hr hlk X hl
  have hl : lv_has ls 6 [(0, .ref (G.2.2.2.1 0)), (1, .int a0), (2, .int a1), (3, .int a2), (4, .int a3)] := hl
  refine r_aload_n S dX11_attempt_0 rfl (lv_at hl 0 rfl) ?_
  refine r_get (K := 0) (v := .ref (G.2.2.2.1 22)) S X (Nat.le_of_ble_eq_true rfl) rfl lk11_42_9 (fun _ => ⟨_, rfl, rfl⟩) dX11_attempt_1 ?_
  refine r_iload_n S dX11_attempt_4 rfl (lv_at hl 1 rfl) ?_
  refine r_iload_n S dX11_attempt_5 rfl (lv_at hl 2 rfl) ?_
  refine r_iload_n S dX11_attempt_6 rfl (lv_at hl 3 rfl) ?_
  refine r_iload S dX11_attempt_7 (lv_at hl 4 rfl) ?_
  refine r_ki (q_V (As := [.int a0, .int a1, .int a2, .int a3]) (rest := []) (K := 22) (ci := 8) S X (c_X10_whyNot_1 l G τ hI a0 a1 a2 a3 h_a0 h_a1 h_a2 h_a3 hWI) ck11_316 (Nat.le_of_ble_eq_true rfl) rfl (fun _ => ⟨_, rfl⟩) ⟨_, _, rfl⟩ ⟨Nat.le_of_ble_eq_true rfl, Nat.le_of_ble_eq_true rfl⟩ rfl hl.1 rfl (Nat.le_of_ble_eq_true rfl) dX11_attempt_9 ⟨Nat.le_refl 0, Nat.le_refl 0⟩) X (fun v4 t3 H lc q1 X2 => ?_)
  unfold po_X10_whyNot_1 at q1
  obtain ⟨q5, q6⟩ := q1
  rw [q5] at X2
  refine r_istore (lv' := [(5, .int v4), (0, .ref (G.2.2.2.1 0)), (1, .int a0), (2, .int a1), (3, .int a2), (4, .int a3)]) S dX11_attempt_12 hl (by decide) rfl (fun ls hl => ?_)
  refine r_iload S dX11_attempt_14 (lv_at hl 0 rfl) ?_
  refine r_if_ne (tgt := 35) S dX11_attempt_16 (by decide) (fun c7 => ?_) (fun c7 => ?_)
  ·
    have r8 : R (1) (4) v4 := ⟨by omega, by omega⟩
    refine r_iload S dX11_attempt_35 (lv_at hl 0 rfl) ?_
    exact r_ret S hr hlk X2 ⟨hI, Fr_rfl, hWI, hHI, (R_of r8 rfl)⟩ rfl dX11_attempt_37
  ·
    have r9 : R (0) (0) v4 := ⟨by omega, by omega⟩
    refine r_aload_n S dX11_attempt_19 rfl (lv_at hl 1 rfl) ?_
    refine r_kv (q_V (As := []) (rest := []) (K := 0) (ci := 9) S X2 (c_X11_remember l G τ hI hWI hHI) ck11_266 (Nat.le_of_ble_eq_true rfl) rfl (fun _ => ⟨_, rfl⟩) ⟨_, _, rfl⟩ ⟨Nat.le_of_ble_eq_true rfl, Nat.le_of_ble_eq_true rfl⟩ rfl hl.1 rfl (Nat.le_of_ble_eq_true rfl) dX11_attempt_20 ⟨Nat.le_refl 0, Nat.le_refl 0⟩) X2 (fun t12 H lc q10 X11 => ?_)
    unfold po_X11_remember at q10
    obtain ⟨q13, q14, q15⟩ := q10
    have F16 : Fr [(0, 8), (0, 9), (30, 8)] [52, 53, 54, 55, 56, 57, 58, 59, 60, 61, 62, 63, 64, 65, 66, 67, 68, 69, 70, 71, 72, 73, 74, 75, 76, 77, 78, 79, 80, 81, 82, 83, 84, 85, 86, 87, 88, 89, 90, 91] τ t12 := Fr_call Fr_rfl q14 (by decide)
    refine r_aload_n S dX11_attempt_23 rfl (lv_at hl 1 rfl) ?_
    refine r_get (K := 0) (v := .ref (G.2.2.2.1 22)) S X11 (Nat.le_of_ble_eq_true rfl) rfl lk11_42_9 (fun _ => ⟨_, rfl, rfl⟩) dX11_attempt_24 ?_
    refine r_iload_n S dX11_attempt_27 rfl (lv_at hl 2 rfl) ?_
    refine r_iload_n S dX11_attempt_28 rfl (lv_at hl 3 rfl) ?_
    refine r_iload_n S dX11_attempt_29 rfl (lv_at hl 4 rfl) ?_
    refine r_iload S dX11_attempt_30 (lv_at hl 5 rfl) ?_
    refine r_kv (q_V (As := [.int a0, .int a1, .int a2, .int a3]) (rest := []) (K := 22) (ci := 8) S X11 (c_X10_perform_1 l G t12 q13 a0 a1 a2 a3 h_a0 h_a1 h_a2 h_a3) ck11_319 (Nat.le_of_ble_eq_true rfl) rfl (fun _ => ⟨_, rfl⟩) ⟨_, _, rfl⟩ ⟨Nat.le_of_ble_eq_true rfl, Nat.le_of_ble_eq_true rfl⟩ rfl hl.1 rfl (Nat.le_of_ble_eq_true rfl) dX11_attempt_32 ⟨Nat.le_refl 0, Nat.le_refl 0⟩) X11 (fun t19 H lc q17 X18 => ?_)
    unfold po_X10_perform_1 at q17
    obtain ⟨q20, q21, q22⟩ := q17
    have F23 : Fr [(0, 8), (0, 9), (30, 8)] [52, 53, 54, 55, 56, 57, 58, 59, 60, 61, 62, 63, 64, 65, 66, 67, 68, 69, 70, 71, 72, 73, 74, 75, 76, 77, 78, 79, 80, 81, 82, 83, 84, 85, 86, 87, 88, 89, 90, 91] τ t19 := Fr_call F16 q21 (by decide)
    refine r_iload S dX11_attempt_35 (lv_at hl 0 rfl) ?_
    exact r_ret S hr hlk X18 ⟨q20, F23, q22, (HI_eq q15 ((q21 23 2 (by decide)).trans rfl) ((q21 0 8 (by decide)).trans rfl) ((q21 0 9 (by decide)).trans rfl) ((q21 52 8 (by decide)).trans rfl) ((q21 57 8 (by decide)).trans rfl) ((q21 62 8 (by decide)).trans rfl) ((q21 67 8 (by decide)).trans rfl) ((q21 72 8 (by decide)).trans rfl) ((q21 77 8 (by decide)).trans rfl) ((q21 82 8 (by decide)).trans rfl) ((q21 87 8 (by decide)).trans rfl)), (R_of r9 rfl)⟩ rfl dX11_attempt_37
def po_X11_attempt_2 (τ : Tau)  (a0 a1 a2 a3 : Int32)   (r : Int32) (u : Tau) : Prop := Inv u ∧ Fr [(0, 8), (0, 9), (30, 6), (30, 9)] [52, 53, 54, 55, 56, 57, 58, 59, 60, 61, 62, 63, 64, 65, 66, 67, 68, 69, 70, 71, 72, 73, 74, 75, 76, 77, 78, 79, 80, 81, 82, 83, 84, 85, 86, 87, 88, 89, 90, 91] τ u ∧ WI u ∧ HI u ∧ R (0) (4) r
set_option maxHeartbeats 4000000 in
set_option maxRecDepth 100000 in
theorem c_X11_attempt_2 (l : Launch) (G : Gx) (τ : Tau) (hI : Inv τ) (a0 : Int32) (a1 : Int32) (a2 : Int32) (a3 : Int32) (h_a0 : R (2) (2) a0) (h_a1 : R (0) (9) a1) (h_a2 : R (-1) (-1) a2) (h_a3 : R (0) (0) a3) (hWI : WI τ) (hHI : HI τ) : Ci l G yX11_attempt cX11_attempt 6 (some .int) 3 101 [.ref (G.2.2.2.1 0), .int a0, .int a1, .int a2, .int a3] τ (po_X11_attempt_2 τ  a0 a1 a2 a3  ) := by
  unfold Ci
  refine C_of (own := RX11) (by decide) rfl (Nat.le_of_ble_eq_true rfl) ?_
  intro p e s m below meth c ls S hr hlk X hl
  have hl : lv_has ls 6 [(0, .ref (G.2.2.2.1 0)), (1, .int a0), (2, .int a1), (3, .int a2), (4, .int a3)] := hl
  refine r_aload_n S dX11_attempt_0 rfl (lv_at hl 0 rfl) ?_
  refine r_get (K := 0) (v := .ref (G.2.2.2.1 22)) S X (Nat.le_of_ble_eq_true rfl) rfl lk11_42_9 (fun _ => ⟨_, rfl, rfl⟩) dX11_attempt_1 ?_
  refine r_iload_n S dX11_attempt_4 rfl (lv_at hl 1 rfl) ?_
  refine r_iload_n S dX11_attempt_5 rfl (lv_at hl 2 rfl) ?_
  refine r_iload_n S dX11_attempt_6 rfl (lv_at hl 3 rfl) ?_
  refine r_iload S dX11_attempt_7 (lv_at hl 4 rfl) ?_
  refine r_ki (q_V (As := [.int a0, .int a1, .int a2, .int a3]) (rest := []) (K := 22) (ci := 8) S X (c_X10_whyNot_2 l G τ hI a0 a1 a2 a3 h_a0 h_a1 h_a2 h_a3 hWI) ck11_316 (Nat.le_of_ble_eq_true rfl) rfl (fun _ => ⟨_, rfl⟩) ⟨_, _, rfl⟩ ⟨Nat.le_of_ble_eq_true rfl, Nat.le_of_ble_eq_true rfl⟩ rfl hl.1 rfl (Nat.le_of_ble_eq_true rfl) dX11_attempt_9 ⟨Nat.le_refl 0, Nat.le_refl 0⟩) X (fun v4 t3 H lc q1 X2 => ?_)
  unfold po_X10_whyNot_2 at q1
  obtain ⟨q5, q6⟩ := q1
  rw [q5] at X2
  refine r_istore (lv' := [(5, .int v4), (0, .ref (G.2.2.2.1 0)), (1, .int a0), (2, .int a1), (3, .int a2), (4, .int a3)]) S dX11_attempt_12 hl (by decide) rfl (fun ls hl => ?_)
  refine r_iload S dX11_attempt_14 (lv_at hl 0 rfl) ?_
  refine r_if_ne (tgt := 35) S dX11_attempt_16 (by decide) (fun c7 => ?_) (fun c7 => ?_)
  ·
    have r8 : R (1) (4) v4 := ⟨by omega, by omega⟩
    refine r_iload S dX11_attempt_35 (lv_at hl 0 rfl) ?_
    exact r_ret S hr hlk X2 ⟨hI, Fr_rfl, hWI, hHI, (R_of r8 rfl)⟩ rfl dX11_attempt_37
  ·
    have r9 : R (0) (0) v4 := ⟨by omega, by omega⟩
    refine r_aload_n S dX11_attempt_19 rfl (lv_at hl 1 rfl) ?_
    refine r_kv (q_V (As := []) (rest := []) (K := 0) (ci := 9) S X2 (c_X11_remember l G τ hI hWI hHI) ck11_266 (Nat.le_of_ble_eq_true rfl) rfl (fun _ => ⟨_, rfl⟩) ⟨_, _, rfl⟩ ⟨Nat.le_of_ble_eq_true rfl, Nat.le_of_ble_eq_true rfl⟩ rfl hl.1 rfl (Nat.le_of_ble_eq_true rfl) dX11_attempt_20 ⟨Nat.le_refl 0, Nat.le_refl 0⟩) X2 (fun t12 H lc q10 X11 => ?_)
    unfold po_X11_remember at q10
    obtain ⟨q13, q14, q15⟩ := q10
    have F16 : Fr [(0, 8), (0, 9), (30, 6), (30, 9)] [52, 53, 54, 55, 56, 57, 58, 59, 60, 61, 62, 63, 64, 65, 66, 67, 68, 69, 70, 71, 72, 73, 74, 75, 76, 77, 78, 79, 80, 81, 82, 83, 84, 85, 86, 87, 88, 89, 90, 91] τ t12 := Fr_call Fr_rfl q14 (by decide)
    refine r_aload_n S dX11_attempt_23 rfl (lv_at hl 1 rfl) ?_
    refine r_get (K := 0) (v := .ref (G.2.2.2.1 22)) S X11 (Nat.le_of_ble_eq_true rfl) rfl lk11_42_9 (fun _ => ⟨_, rfl, rfl⟩) dX11_attempt_24 ?_
    refine r_iload_n S dX11_attempt_27 rfl (lv_at hl 2 rfl) ?_
    refine r_iload_n S dX11_attempt_28 rfl (lv_at hl 3 rfl) ?_
    refine r_iload_n S dX11_attempt_29 rfl (lv_at hl 4 rfl) ?_
    refine r_iload S dX11_attempt_30 (lv_at hl 5 rfl) ?_
    refine r_kv (q_V (As := [.int a0, .int a1, .int a2, .int a3]) (rest := []) (K := 22) (ci := 8) S X11 (c_X10_perform_2 l G t12 q13 a0 a1 a2 a3 h_a0 h_a1 h_a2 h_a3) ck11_319 (Nat.le_of_ble_eq_true rfl) rfl (fun _ => ⟨_, rfl⟩) ⟨_, _, rfl⟩ ⟨Nat.le_of_ble_eq_true rfl, Nat.le_of_ble_eq_true rfl⟩ rfl hl.1 rfl (Nat.le_of_ble_eq_true rfl) dX11_attempt_32 ⟨Nat.le_refl 0, Nat.le_refl 0⟩) X11 (fun t19 H lc q17 X18 => ?_)
    unfold po_X10_perform_2 at q17
    obtain ⟨q20, q21⟩ := q17
    have F22 : Fr [(0, 8), (0, 9), (30, 6), (30, 9)] [52, 53, 54, 55, 56, 57, 58, 59, 60, 61, 62, 63, 64, 65, 66, 67, 68, 69, 70, 71, 72, 73, 74, 75, 76, 77, 78, 79, 80, 81, 82, 83, 84, 85, 86, 87, 88, 89, 90, 91] τ t19 := Fr_call F16 q21 (by decide)
    refine r_iload S dX11_attempt_35 (lv_at hl 0 rfl) ?_
    exact r_ret S hr hlk X18 ⟨q20, F22, (WI_eq hWI ((q21 23 2 (by decide)).trans ((q14 23 2 (by decide)).trans rfl)) ((q21 30 8 (by decide)).trans ((q14 30 8 (by decide)).trans rfl))), (HI_eq q15 ((q21 23 2 (by decide)).trans rfl) ((q21 0 8 (by decide)).trans rfl) ((q21 0 9 (by decide)).trans rfl) ((q21 52 8 (by decide)).trans rfl) ((q21 57 8 (by decide)).trans rfl) ((q21 62 8 (by decide)).trans rfl) ((q21 67 8 (by decide)).trans rfl) ((q21 72 8 (by decide)).trans rfl) ((q21 77 8 (by decide)).trans rfl) ((q21 82 8 (by decide)).trans rfl) ((q21 87 8 (by decide)).trans rfl)), (R_of r9 rfl)⟩ rfl dX11_attempt_37
def po_X11_attempt_3 (τ : Tau)  (a0 a1 a2 a3 : Int32)   (r : Int32) (u : Tau) : Prop := Inv u ∧ Fr [(0, 8), (0, 9)] [52, 53, 54, 55, 56, 57, 58, 59, 60, 61, 62, 63, 64, 65, 66, 67, 68, 69, 70, 71, 72, 73, 74, 75, 76, 77, 78, 79, 80, 81, 82, 83, 84, 85, 86, 87, 88, 89, 90, 91, 32, 33] τ u ∧ WI u ∧ HI u ∧ R (0) (4) r
set_option maxHeartbeats 4000000 in
set_option maxRecDepth 100000 in
theorem c_X11_attempt_3 (l : Launch) (G : Gx) (τ : Tau) (hI : Inv τ) (a0 : Int32) (a1 : Int32) (a2 : Int32) (a3 : Int32) (h_a0 : R (3) (3) a0) (h_a1 : R (0) (9) a1) (h_a2 : R (0) (8) a2) (h_a3 : R (-9) (9) a3) (hWI : WI τ) (hHI : HI τ) : Ci l G yX11_attempt cX11_attempt 6 (some .int) 3 101 [.ref (G.2.2.2.1 0), .int a0, .int a1, .int a2, .int a3] τ (po_X11_attempt_3 τ  a0 a1 a2 a3  ) := by
  unfold Ci
  refine C_of (own := RX11) (by decide) rfl (Nat.le_of_ble_eq_true rfl) ?_
  intro p e s m below meth c ls S hr hlk X hl
  have hl : lv_has ls 6 [(0, .ref (G.2.2.2.1 0)), (1, .int a0), (2, .int a1), (3, .int a2), (4, .int a3)] := hl
  refine r_aload_n S dX11_attempt_0 rfl (lv_at hl 0 rfl) ?_
  refine r_get (K := 0) (v := .ref (G.2.2.2.1 22)) S X (Nat.le_of_ble_eq_true rfl) rfl lk11_42_9 (fun _ => ⟨_, rfl, rfl⟩) dX11_attempt_1 ?_
  refine r_iload_n S dX11_attempt_4 rfl (lv_at hl 1 rfl) ?_
  refine r_iload_n S dX11_attempt_5 rfl (lv_at hl 2 rfl) ?_
  refine r_iload_n S dX11_attempt_6 rfl (lv_at hl 3 rfl) ?_
  refine r_iload S dX11_attempt_7 (lv_at hl 4 rfl) ?_
  refine r_ki (q_V (As := [.int a0, .int a1, .int a2, .int a3]) (rest := []) (K := 22) (ci := 8) S X (c_X10_whyNot_3 l G τ hI a0 a1 a2 a3 h_a0 h_a1 h_a2 h_a3 hWI) ck11_316 (Nat.le_of_ble_eq_true rfl) rfl (fun _ => ⟨_, rfl⟩) ⟨_, _, rfl⟩ ⟨Nat.le_of_ble_eq_true rfl, Nat.le_of_ble_eq_true rfl⟩ rfl hl.1 rfl (Nat.le_of_ble_eq_true rfl) dX11_attempt_9 ⟨Nat.le_refl 0, Nat.le_refl 0⟩) X (fun v4 t3 H lc q1 X2 => ?_)
  unfold po_X10_whyNot_3 at q1
  obtain ⟨q5, q6⟩ := q1
  rw [q5] at X2
  refine r_istore (lv' := [(5, .int v4), (0, .ref (G.2.2.2.1 0)), (1, .int a0), (2, .int a1), (3, .int a2), (4, .int a3)]) S dX11_attempt_12 hl (by decide) rfl (fun ls hl => ?_)
  refine r_iload S dX11_attempt_14 (lv_at hl 0 rfl) ?_
  refine r_if_ne (tgt := 35) S dX11_attempt_16 (by decide) (fun c7 => ?_) (fun c7 => ?_)
  ·
    have r8 : R (1) (4) v4 := ⟨by omega, by omega⟩
    refine r_iload S dX11_attempt_35 (lv_at hl 0 rfl) ?_
    exact r_ret S hr hlk X2 ⟨hI, Fr_rfl, hWI, hHI, (R_of r8 rfl)⟩ rfl dX11_attempt_37
  ·
    have r9 : R (0) (0) v4 := ⟨by omega, by omega⟩
    refine r_aload_n S dX11_attempt_19 rfl (lv_at hl 1 rfl) ?_
    refine r_kv (q_V (As := []) (rest := []) (K := 0) (ci := 9) S X2 (c_X11_remember l G τ hI hWI hHI) ck11_266 (Nat.le_of_ble_eq_true rfl) rfl (fun _ => ⟨_, rfl⟩) ⟨_, _, rfl⟩ ⟨Nat.le_of_ble_eq_true rfl, Nat.le_of_ble_eq_true rfl⟩ rfl hl.1 rfl (Nat.le_of_ble_eq_true rfl) dX11_attempt_20 ⟨Nat.le_refl 0, Nat.le_refl 0⟩) X2 (fun t12 H lc q10 X11 => ?_)
    unfold po_X11_remember at q10
    obtain ⟨q13, q14, q15⟩ := q10
    have F16 : Fr [(0, 8), (0, 9)] [52, 53, 54, 55, 56, 57, 58, 59, 60, 61, 62, 63, 64, 65, 66, 67, 68, 69, 70, 71, 72, 73, 74, 75, 76, 77, 78, 79, 80, 81, 82, 83, 84, 85, 86, 87, 88, 89, 90, 91, 32, 33] τ t12 := Fr_call Fr_rfl q14 (by decide)
    refine r_aload_n S dX11_attempt_23 rfl (lv_at hl 1 rfl) ?_
    refine r_get (K := 0) (v := .ref (G.2.2.2.1 22)) S X11 (Nat.le_of_ble_eq_true rfl) rfl lk11_42_9 (fun _ => ⟨_, rfl, rfl⟩) dX11_attempt_24 ?_
    refine r_iload_n S dX11_attempt_27 rfl (lv_at hl 2 rfl) ?_
    refine r_iload_n S dX11_attempt_28 rfl (lv_at hl 3 rfl) ?_
    refine r_iload_n S dX11_attempt_29 rfl (lv_at hl 4 rfl) ?_
    refine r_iload S dX11_attempt_30 (lv_at hl 5 rfl) ?_
    refine r_kv (q_V (As := [.int a0, .int a1, .int a2, .int a3]) (rest := []) (K := 22) (ci := 8) S X11 (c_X10_perform_3 l G t12 q13 a0 a1 a2 a3 h_a0 h_a1 h_a2 h_a3) ck11_319 (Nat.le_of_ble_eq_true rfl) rfl (fun _ => ⟨_, rfl⟩) ⟨_, _, rfl⟩ ⟨Nat.le_of_ble_eq_true rfl, Nat.le_of_ble_eq_true rfl⟩ rfl hl.1 rfl (Nat.le_of_ble_eq_true rfl) dX11_attempt_32 ⟨Nat.le_refl 0, Nat.le_refl 0⟩) X11 (fun t19 H lc q17 X18 => ?_)
    unfold po_X10_perform_3 at q17
    obtain ⟨q20, q21⟩ := q17
    have F22 : Fr [(0, 8), (0, 9)] [52, 53, 54, 55, 56, 57, 58, 59, 60, 61, 62, 63, 64, 65, 66, 67, 68, 69, 70, 71, 72, 73, 74, 75, 76, 77, 78, 79, 80, 81, 82, 83, 84, 85, 86, 87, 88, 89, 90, 91, 32, 33] τ t19 := Fr_call F16 q21 (by decide)
    refine r_iload S dX11_attempt_35 (lv_at hl 0 rfl) ?_
    exact r_ret S hr hlk X18 ⟨q20, F22, (WI_eq hWI ((q21 23 2 (by decide)).trans ((q14 23 2 (by decide)).trans rfl)) ((q21 30 8 (by decide)).trans ((q14 30 8 (by decide)).trans rfl))), (HI_eq q15 ((q21 23 2 (by decide)).trans rfl) ((q21 0 8 (by decide)).trans rfl) ((q21 0 9 (by decide)).trans rfl) ((q21 52 8 (by decide)).trans rfl) ((q21 57 8 (by decide)).trans rfl) ((q21 62 8 (by decide)).trans rfl) ((q21 67 8 (by decide)).trans rfl) ((q21 72 8 (by decide)).trans rfl) ((q21 77 8 (by decide)).trans rfl) ((q21 82 8 (by decide)).trans rfl) ((q21 87 8 (by decide)).trans rfl)), (R_of r9 rfl)⟩ rfl dX11_attempt_37
def po_X11_attempt_4 (τ : Tau)  (a0 a1 a2 a3 : Int32)   (r : Int32) (u : Tau) : Prop := Inv u ∧ Fr [(0, 8), (0, 9), (30, 7)] [52, 53, 54, 55, 56, 57, 58, 59, 60, 61, 62, 63, 64, 65, 66, 67, 68, 69, 70, 71, 72, 73, 74, 75, 76, 77, 78, 79, 80, 81, 82, 83, 84, 85, 86, 87, 88, 89, 90, 91, 31] τ u ∧ WI u ∧ HI u ∧ R (0) (4) r
set_option maxHeartbeats 4000000 in
set_option maxRecDepth 100000 in
theorem c_X11_attempt_4 (l : Launch) (G : Gx) (τ : Tau) (hI : Inv τ) (a0 : Int32) (a1 : Int32) (a2 : Int32) (a3 : Int32) (h_a0 : R (4) (4) a0) (h_a1 : R (0) (9) a1) (h_a2 : R (0) (8) a2) (h_a3 : R (-9) (9) a3) (hWI : WI τ) (hHI : HI τ) : Ci l G yX11_attempt cX11_attempt 6 (some .int) 3 101 [.ref (G.2.2.2.1 0), .int a0, .int a1, .int a2, .int a3] τ (po_X11_attempt_4 τ  a0 a1 a2 a3  ) := by
  unfold Ci
  refine C_of (own := RX11) (by decide) rfl (Nat.le_of_ble_eq_true rfl) ?_
  intro p e s m below meth c ls S hr hlk X hl
  have hl : lv_has ls 6 [(0, .ref (G.2.2.2.1 0)), (1, .int a0), (2, .int a1), (3, .int a2), (4, .int a3)] := hl
  refine r_aload_n S dX11_attempt_0 rfl (lv_at hl 0 rfl) ?_
  refine r_get (K := 0) (v := .ref (G.2.2.2.1 22)) S X (Nat.le_of_ble_eq_true rfl) rfl lk11_42_9 (fun _ => ⟨_, rfl, rfl⟩) dX11_attempt_1 ?_
  refine r_iload_n S dX11_attempt_4 rfl (lv_at hl 1 rfl) ?_
  refine r_iload_n S dX11_attempt_5 rfl (lv_at hl 2 rfl) ?_
  refine r_iload_n S dX11_attempt_6 rfl (lv_at hl 3 rfl) ?_
  refine r_iload S dX11_attempt_7 (lv_at hl 4 rfl) ?_
  refine r_ki (q_V (As := [.int a0, .int a1, .int a2, .int a3]) (rest := []) (K := 22) (ci := 8) S X (c_X10_whyNot_4 l G τ hI a0 a1 a2 a3 h_a0 h_a1 h_a2 h_a3 hWI) ck11_316 (Nat.le_of_ble_eq_true rfl) rfl (fun _ => ⟨_, rfl⟩) ⟨_, _, rfl⟩ ⟨Nat.le_of_ble_eq_true rfl, Nat.le_of_ble_eq_true rfl⟩ rfl hl.1 rfl (Nat.le_of_ble_eq_true rfl) dX11_attempt_9 ⟨Nat.le_refl 0, Nat.le_refl 0⟩) X (fun v4 t3 H lc q1 X2 => ?_)
  unfold po_X10_whyNot_4 at q1
  obtain ⟨q5, q6⟩ := q1
  rw [q5] at X2
  refine r_istore (lv' := [(5, .int v4), (0, .ref (G.2.2.2.1 0)), (1, .int a0), (2, .int a1), (3, .int a2), (4, .int a3)]) S dX11_attempt_12 hl (by decide) rfl (fun ls hl => ?_)
  refine r_iload S dX11_attempt_14 (lv_at hl 0 rfl) ?_
  refine r_if_ne (tgt := 35) S dX11_attempt_16 (by decide) (fun c7 => ?_) (fun c7 => ?_)
  ·
    have r8 : R (1) (4) v4 := ⟨by omega, by omega⟩
    refine r_iload S dX11_attempt_35 (lv_at hl 0 rfl) ?_
    exact r_ret S hr hlk X2 ⟨hI, Fr_rfl, hWI, hHI, (R_of r8 rfl)⟩ rfl dX11_attempt_37
  ·
    have r9 : R (0) (0) v4 := ⟨by omega, by omega⟩
    refine r_aload_n S dX11_attempt_19 rfl (lv_at hl 1 rfl) ?_
    refine r_kv (q_V (As := []) (rest := []) (K := 0) (ci := 9) S X2 (c_X11_remember l G τ hI hWI hHI) ck11_266 (Nat.le_of_ble_eq_true rfl) rfl (fun _ => ⟨_, rfl⟩) ⟨_, _, rfl⟩ ⟨Nat.le_of_ble_eq_true rfl, Nat.le_of_ble_eq_true rfl⟩ rfl hl.1 rfl (Nat.le_of_ble_eq_true rfl) dX11_attempt_20 ⟨Nat.le_refl 0, Nat.le_refl 0⟩) X2 (fun t12 H lc q10 X11 => ?_)
    unfold po_X11_remember at q10
    obtain ⟨q13, q14, q15⟩ := q10
    have F16 : Fr [(0, 8), (0, 9), (30, 7)] [52, 53, 54, 55, 56, 57, 58, 59, 60, 61, 62, 63, 64, 65, 66, 67, 68, 69, 70, 71, 72, 73, 74, 75, 76, 77, 78, 79, 80, 81, 82, 83, 84, 85, 86, 87, 88, 89, 90, 91, 31] τ t12 := Fr_call Fr_rfl q14 (by decide)
    refine r_aload_n S dX11_attempt_23 rfl (lv_at hl 1 rfl) ?_
    refine r_get (K := 0) (v := .ref (G.2.2.2.1 22)) S X11 (Nat.le_of_ble_eq_true rfl) rfl lk11_42_9 (fun _ => ⟨_, rfl, rfl⟩) dX11_attempt_24 ?_
    refine r_iload_n S dX11_attempt_27 rfl (lv_at hl 2 rfl) ?_
    refine r_iload_n S dX11_attempt_28 rfl (lv_at hl 3 rfl) ?_
    refine r_iload_n S dX11_attempt_29 rfl (lv_at hl 4 rfl) ?_
    refine r_iload S dX11_attempt_30 (lv_at hl 5 rfl) ?_
    refine r_kv (q_V (As := [.int a0, .int a1, .int a2, .int a3]) (rest := []) (K := 22) (ci := 8) S X11 (c_X10_perform_4 l G t12 q13 a0 a1 a2 a3 h_a0 h_a1 h_a2 h_a3) ck11_319 (Nat.le_of_ble_eq_true rfl) rfl (fun _ => ⟨_, rfl⟩) ⟨_, _, rfl⟩ ⟨Nat.le_of_ble_eq_true rfl, Nat.le_of_ble_eq_true rfl⟩ rfl hl.1 rfl (Nat.le_of_ble_eq_true rfl) dX11_attempt_32 ⟨Nat.le_refl 0, Nat.le_refl 0⟩) X11 (fun t19 H lc q17 X18 => ?_)
    unfold po_X10_perform_4 at q17
    obtain ⟨q20, q21⟩ := q17
    have F22 : Fr [(0, 8), (0, 9), (30, 7)] [52, 53, 54, 55, 56, 57, 58, 59, 60, 61, 62, 63, 64, 65, 66, 67, 68, 69, 70, 71, 72, 73, 74, 75, 76, 77, 78, 79, 80, 81, 82, 83, 84, 85, 86, 87, 88, 89, 90, 91, 31] τ t19 := Fr_call F16 q21 (by decide)
    refine r_iload S dX11_attempt_35 (lv_at hl 0 rfl) ?_
    exact r_ret S hr hlk X18 ⟨q20, F22, (WI_eq hWI ((q21 23 2 (by decide)).trans ((q14 23 2 (by decide)).trans rfl)) ((q21 30 8 (by decide)).trans ((q14 30 8 (by decide)).trans rfl))), (HI_eq q15 ((q21 23 2 (by decide)).trans rfl) ((q21 0 8 (by decide)).trans rfl) ((q21 0 9 (by decide)).trans rfl) ((q21 52 8 (by decide)).trans rfl) ((q21 57 8 (by decide)).trans rfl) ((q21 62 8 (by decide)).trans rfl) ((q21 67 8 (by decide)).trans rfl) ((q21 72 8 (by decide)).trans rfl) ((q21 77 8 (by decide)).trans rfl) ((q21 82 8 (by decide)).trans rfl) ((q21 87 8 (by decide)).trans rfl)), (R_of r9 rfl)⟩ rfl dX11_attempt_37
def po_X11_cross (τ : Tau)  (a0 : Int32)   (r : Int32) (u : Tau) : Prop := Inv u ∧ Fr [(0, 8), (0, 9), (30, 4), (30, 5), (30, 6), (30, 10)] [52, 53, 54, 55, 56, 57, 58, 59, 60, 61, 62, 63, 64, 65, 66, 67, 68, 69, 70, 71, 72, 73, 74, 75, 76, 77, 78, 79, 80, 81, 82, 83, 84, 85, 86, 87, 88, 89, 90, 91, 33, 34] τ u ∧ WI u ∧ HI u
set_option maxHeartbeats 4000000 in
set_option maxRecDepth 100000 in
theorem c_X11_cross (l : Launch) (G : Gx) (τ : Tau) (hI : Inv τ) (a0 : Int32) (h_a0 : R (-2147483648) (2147483647) a0) (hWI : WI τ) (hHI : HI τ) : Ci l G yX11_cross cX11_cross 2 (some .int) 7 167 [.ref (G.2.2.2.1 0), .int a0] τ (po_X11_cross τ  a0  ) := by
  unfold Ci
  refine C_of (own := RX11) (by decide) rfl (Nat.le_of_ble_eq_true rfl) ?_
  intro p e s m below meth c ls S hr hlk X hl
  have hl : lv_has ls 2 [(0, .ref (G.2.2.2.1 0)), (1, .int a0)] := hl
  refine r_aload_n S dX11_cross_0 rfl (lv_at hl 0 rfl) ?_
  refine r_get (K := 0) (v := .ref (G.2.2.2.1 22)) S X (Nat.le_of_ble_eq_true rfl) rfl lk11_42_9 (fun _ => ⟨_, rfl, rfl⟩) dX11_cross_1 ?_
  refine r_iload_n S dX11_cross_4 rfl (lv_at hl 1 rfl) ?_
  refine r_ki (q_V (As := [.int a0]) (rest := []) (K := 22) (ci := 8) S X (c_X10_hasSet l G τ hI a0 h_a0) ck11_188 (Nat.le_of_ble_eq_true rfl) rfl (fun _ => ⟨_, rfl⟩) ⟨_, _, rfl⟩ ⟨Nat.le_of_ble_eq_true rfl, Nat.le_of_ble_eq_true rfl⟩ rfl hl.1 rfl (Nat.le_of_ble_eq_true rfl) dX11_cross_5 ⟨Nat.le_refl 0, Nat.le_refl 0⟩) X (fun v4 t3 H lc q1 X2 => ?_)
  unfold po_X10_hasSet at q1
  obtain ⟨q5, q6, q7⟩ := q1
  rw [q5] at X2
  refine r_if_eq (tgt := 22) S dX11_cross_8 (by decide) (fun c8 => ?_) (fun c8 => ?_)
  ·
    have r9 : R (0) (0) v4 := ⟨by omega, by omega⟩
    refine r_iconst S dX11_cross_22 (by decide) (fun v10 z11 => ?_)
    have r12 := R_eq z11
    exact r_ret S hr hlk X2 ⟨hI, Fr_rfl, hWI, hHI⟩ rfl dX11_cross_23
  ·
    have r13 : R (1) (1) v4 := ⟨by omega, by omega⟩
    have p14 := q7 (by omega)
    have r15 : R (0) (1023) a0 := ⟨by omega, by omega⟩
    refine r_aload_n S dX11_cross_11 rfl (lv_at hl 0 rfl) ?_
    refine r_iconst S dX11_cross_12 (by decide) (fun v16 z17 => ?_)
    have r18 := R_eq z17
    refine r_iload_n S dX11_cross_13 rfl (lv_at hl 1 rfl) ?_
    refine r_iconst S dX11_cross_14 (by decide) (fun v19 z20 => ?_)
    have r21 := R_eq z20
    refine r_iconst S dX11_cross_15 (by decide) (fun v22 z23 => ?_)
    have r24 := R_eq z23
    refine r_ki (q_V (As := [.int v16, .int a0, .int v19, .int v22]) (rest := []) (K := 0) (ci := 9) S X2 (c_X11_attempt_0 l G τ hI v16 a0 v19 v22 r18 r15 r21 r24 hWI hHI) ck11_195 (Nat.le_of_ble_eq_true rfl) rfl (fun _ => ⟨_, rfl⟩) ⟨_, _, rfl⟩ ⟨Nat.le_of_ble_eq_true rfl, Nat.le_of_ble_eq_true rfl⟩ rfl hl.1 rfl (Nat.le_of_ble_eq_true rfl) dX11_cross_16 ⟨Nat.le_refl 0, Nat.le_refl 0⟩) X2 (fun v28 t27 H lc q25 X26 => ?_)
    unfold po_X11_attempt_0 at q25
    obtain ⟨q29, q30, q31, q32, q33⟩ := q25
    have F34 : Fr [(0, 8), (0, 9), (30, 4), (30, 5), (30, 6), (30, 10)] [52, 53, 54, 55, 56, 57, 58, 59, 60, 61, 62, 63, 64, 65, 66, 67, 68, 69, 70, 71, 72, 73, 74, 75, 76, 77, 78, 79, 80, 81, 82, 83, 84, 85, 86, 87, 88, 89, 90, 91, 33, 34] τ t27 := Fr_call Fr_rfl q30 (by decide)
    refine r_goto (tgt := 23) S dX11_cross_19 (by decide) ?_
    exact r_ret S hr hlk X26 ⟨q29, F34, q31, q32⟩ rfl dX11_cross_23
def po_X11_raise (τ : Tau)  (a0 : Int32)   (r : Int32) (u : Tau) : Prop := Inv u ∧ Fr [(0, 8), (0, 9), (30, 8)] [52, 53, 54, 55, 56, 57, 58, 59, 60, 61, 62, 63, 64, 65, 66, 67, 68, 69, 70, 71, 72, 73, 74, 75, 76, 77, 78, 79, 80, 81, 82, 83, 84, 85, 86, 87, 88, 89, 90, 91] τ u ∧ WI u ∧ HI u
set_option maxHeartbeats 4000000 in
set_option maxRecDepth 100000 in
theorem c_X11_raise (l : Launch) (G : Gx) (τ : Tau) (hI : Inv τ) (a0 : Int32) (h_a0 : R (-2147483648) (2147483647) a0) (hWI : WI τ) (hHI : HI τ) : Ci l G yX11_raise cX11_raise 2 (some .int) 4 126 [.ref (G.2.2.2.1 0), .int a0] τ (po_X11_raise τ  a0  ) := by
  unfold Ci
  refine C_of (own := RX11) (by decide) rfl (Nat.le_of_ble_eq_true rfl) ?_
  intro p e s m below meth c ls S hr hlk X hl
  have hl : lv_has ls 2 [(0, .ref (G.2.2.2.1 0)), (1, .int a0)] := hl
  refine r_aload_n S dX11_raise_0 rfl (lv_at hl 0 rfl) ?_
  refine r_get (K := 0) (v := .ref (G.2.2.2.1 22)) S X (Nat.le_of_ble_eq_true rfl) rfl lk11_42_9 (fun _ => ⟨_, rfl, rfl⟩) dX11_raise_1 ?_
  refine r_iload_n S dX11_raise_4 rfl (lv_at hl 1 rfl) ?_
  refine r_ki (q_V (As := [.int a0]) (rest := []) (K := 22) (ci := 8) S X (c_X10_hasAsk l G τ hI a0 h_a0) ck11_163 (Nat.le_of_ble_eq_true rfl) rfl (fun _ => ⟨_, rfl⟩) ⟨_, _, rfl⟩ ⟨Nat.le_of_ble_eq_true rfl, Nat.le_of_ble_eq_true rfl⟩ rfl hl.1 rfl (Nat.le_of_ble_eq_true rfl) dX11_raise_5 ⟨Nat.le_refl 0, Nat.le_refl 0⟩) X (fun v4 t3 H lc q1 X2 => ?_)
  unfold po_X10_hasAsk at q1
  obtain ⟨q5, q6, q7⟩ := q1
  rw [q5] at X2
  refine r_if_eq (tgt := 22) S dX11_raise_8 (by decide) (fun c8 => ?_) (fun c8 => ?_)
  ·
    have r9 : R (0) (0) v4 := ⟨by omega, by omega⟩
    refine r_iconst S dX11_raise_22 (by decide) (fun v10 z11 => ?_)
    have r12 := R_eq z11
    exact r_ret S hr hlk X2 ⟨hI, Fr_rfl, hWI, hHI⟩ rfl dX11_raise_23
  ·
    have r13 : R (1) (1) v4 := ⟨by omega, by omega⟩
    have p14 := q7 (by omega)
    have r15 : R (0) (8) a0 := ⟨by omega, by omega⟩
    refine r_aload_n S dX11_raise_11 rfl (lv_at hl 0 rfl) ?_
    refine r_iconst S dX11_raise_12 (by decide) (fun v16 z17 => ?_)
    have r18 := R_eq z17
    refine r_iconst S dX11_raise_13 (by decide) (fun v19 z20 => ?_)
    have r21 := R_eq z20
    refine r_iload_n S dX11_raise_14 rfl (lv_at hl 1 rfl) ?_
    refine r_iconst S dX11_raise_15 (by decide) (fun v22 z23 => ?_)
    have r24 := R_eq z23
    refine r_ki (q_V (As := [.int v16, .int v19, .int a0, .int v22]) (rest := []) (K := 0) (ci := 9) S X2 (c_X11_attempt_1 l G τ hI v16 v19 a0 v22 r18 r21 r15 r24 hWI hHI) ck11_195 (Nat.le_of_ble_eq_true rfl) rfl (fun _ => ⟨_, rfl⟩) ⟨_, _, rfl⟩ ⟨Nat.le_of_ble_eq_true rfl, Nat.le_of_ble_eq_true rfl⟩ rfl hl.1 rfl (Nat.le_of_ble_eq_true rfl) dX11_raise_16 ⟨Nat.le_refl 0, Nat.le_refl 0⟩) X2 (fun v28 t27 H lc q25 X26 => ?_)
    unfold po_X11_attempt_1 at q25
    obtain ⟨q29, q30, q31, q32, q33⟩ := q25
    have F34 : Fr [(0, 8), (0, 9), (30, 8)] [52, 53, 54, 55, 56, 57, 58, 59, 60, 61, 62, 63, 64, 65, 66, 67, 68, 69, 70, 71, 72, 73, 74, 75, 76, 77, 78, 79, 80, 81, 82, 83, 84, 85, 86, 87, 88, 89, 90, 91] τ t27 := Fr_call Fr_rfl q30 (by decide)
    refine r_goto (tgt := 23) S dX11_raise_19 (by decide) ?_
    exact r_ret S hr hlk X26 ⟨q29, F34, q31, q32⟩ rfl dX11_raise_23
def po_X11_hire (τ : Tau)  (a0 : Int32)   (r : Int32) (u : Tau) : Prop := Inv u ∧ Fr [(0, 8), (0, 9), (30, 6), (30, 9)] [52, 53, 54, 55, 56, 57, 58, 59, 60, 61, 62, 63, 64, 65, 66, 67, 68, 69, 70, 71, 72, 73, 74, 75, 76, 77, 78, 79, 80, 81, 82, 83, 84, 85, 86, 87, 88, 89, 90, 91] τ u ∧ WI u ∧ HI u
set_option maxHeartbeats 4000000 in
set_option maxRecDepth 100000 in
theorem c_X11_hire (l : Launch) (G : Gx) (τ : Tau) (hI : Inv τ) (a0 : Int32) (h_a0 : R (-2147483648) (2147483647) a0) (hWI : WI τ) (hHI : HI τ) : Ci l G yX11_hire cX11_hire 2 (some .int) 4 126 [.ref (G.2.2.2.1 0), .int a0] τ (po_X11_hire τ  a0  ) := by
  unfold Ci
  refine C_of (own := RX11) (by decide) rfl (Nat.le_of_ble_eq_true rfl) ?_
  intro p e s m below meth c ls S hr hlk X hl
  have hl : lv_has ls 2 [(0, .ref (G.2.2.2.1 0)), (1, .int a0)] := hl
  refine r_aload_n S dX11_hire_0 rfl (lv_at hl 0 rfl) ?_
  refine r_get (K := 0) (v := .ref (G.2.2.2.1 22)) S X (Nat.le_of_ble_eq_true rfl) rfl lk11_42_9 (fun _ => ⟨_, rfl, rfl⟩) dX11_hire_1 ?_
  refine r_iload_n S dX11_hire_4 rfl (lv_at hl 1 rfl) ?_
  refine r_ki (q_V (As := [.int a0]) (rest := []) (K := 22) (ci := 8) S X (c_X10_hasMan l G τ hI a0 h_a0) ck11_122 (Nat.le_of_ble_eq_true rfl) rfl (fun _ => ⟨_, rfl⟩) ⟨_, _, rfl⟩ ⟨Nat.le_of_ble_eq_true rfl, Nat.le_of_ble_eq_true rfl⟩ rfl hl.1 rfl (Nat.le_of_ble_eq_true rfl) dX11_hire_5 ⟨Nat.le_refl 0, Nat.le_refl 0⟩) X (fun v4 t3 H lc q1 X2 => ?_)
  unfold po_X10_hasMan at q1
  obtain ⟨q5, q6, q7⟩ := q1
  rw [q5] at X2
  rw [q5] at q7
  refine r_if_eq (tgt := 22) S dX11_hire_8 (by decide) (fun c8 => ?_) (fun c8 => ?_)
  ·
    have r9 : R (0) (0) v4 := ⟨by omega, by omega⟩
    refine r_iconst S dX11_hire_22 (by decide) (fun v10 z11 => ?_)
    have r12 := R_eq z11
    exact r_ret S hr hlk X2 ⟨hI, Fr_rfl, hWI, hHI⟩ rfl dX11_hire_23
  ·
    have r13 : R (1) (1) v4 := ⟨by omega, by omega⟩
    obtain ⟨p14, p15⟩ := q7 (by omega)
    have r16 : R (0) (9) a0 := ⟨by omega, by omega⟩
    obtain ⟨v17, z18⟩ : ∃ x, τ 23 3 = x := ⟨_, rfl⟩
    rw [z18] at p15
    refine r_aload_n S dX11_hire_11 rfl (lv_at hl 0 rfl) ?_
    refine r_iconst S dX11_hire_12 (by decide) (fun v19 z20 => ?_)
    have r21 := R_eq z20
    refine r_iload_n S dX11_hire_13 rfl (lv_at hl 1 rfl) ?_
    refine r_iconst S dX11_hire_14 (by decide) (fun v22 z23 => ?_)
    have r24 := R_eq z23
    refine r_iconst S dX11_hire_15 (by decide) (fun v25 z26 => ?_)
    have r27 := R_eq z26
    refine r_ki (q_V (As := [.int v19, .int a0, .int v22, .int v25]) (rest := []) (K := 0) (ci := 9) S X2 (c_X11_attempt_2 l G τ hI v19 a0 v22 v25 r21 r16 r24 r27 hWI hHI) ck11_195 (Nat.le_of_ble_eq_true rfl) rfl (fun _ => ⟨_, rfl⟩) ⟨_, _, rfl⟩ ⟨Nat.le_of_ble_eq_true rfl, Nat.le_of_ble_eq_true rfl⟩ rfl hl.1 rfl (Nat.le_of_ble_eq_true rfl) dX11_hire_16 ⟨Nat.le_refl 0, Nat.le_refl 0⟩) X2 (fun v31 t30 H lc q28 X29 => ?_)
    unfold po_X11_attempt_2 at q28
    obtain ⟨q32, q33, q34, q35, q36⟩ := q28
    have F37 : Fr [(0, 8), (0, 9), (30, 6), (30, 9)] [52, 53, 54, 55, 56, 57, 58, 59, 60, 61, 62, 63, 64, 65, 66, 67, 68, 69, 70, 71, 72, 73, 74, 75, 76, 77, 78, 79, 80, 81, 82, 83, 84, 85, 86, 87, 88, 89, 90, 91] τ t30 := Fr_call Fr_rfl q33 (by decide)
    refine r_goto (tgt := 23) S dX11_hire_19 (by decide) ?_
    exact r_ret S hr hlk X29 ⟨q32, F37, q34, q35⟩ rfl dX11_hire_23
def po_X11_lie (τ : Tau)  (a0 a1 a2 : Int32)   (r : Int32) (u : Tau) : Prop := Inv u ∧ Fr [(0, 8), (0, 9)] [52, 53, 54, 55, 56, 57, 58, 59, 60, 61, 62, 63, 64, 65, 66, 67, 68, 69, 70, 71, 72, 73, 74, 75, 76, 77, 78, 79, 80, 81, 82, 83, 84, 85, 86, 87, 88, 89, 90, 91, 32, 33] τ u ∧ WI u ∧ HI u
set_option maxHeartbeats 4000000 in
set_option maxRecDepth 100000 in
theorem c_X11_lie (l : Launch) (G : Gx) (τ : Tau) (hI : Inv τ) (a0 : Int32) (a1 : Int32) (a2 : Int32) (h_a0 : R (-2147483648) (2147483647) a0) (h_a1 : R (-2147483648) (2147483647) a1) (h_a2 : R (-2147483648) (2147483647) a2) (hWI : WI τ) (hHI : HI τ) : Ci l G yX11_lie cX11_lie 4 (some .int) 4 126 [.ref (G.2.2.2.1 0), .int a0, .int a1, .int a2] τ (po_X11_lie τ  a0 a1 a2  ) := by
  unfold Ci
  refine C_of (own := RX11) (by decide) rfl (Nat.le_of_ble_eq_true rfl) ?_
  intro p e s m below meth c ls S hr hlk X hl
  have hl : lv_has ls 4 [(0, .ref (G.2.2.2.1 0)), (1, .int a0), (2, .int a1), (3, .int a2)] := hl
  refine r_aload_n S dX11_lie_0 rfl (lv_at hl 0 rfl) ?_
  refine r_iload_n S dX11_lie_1 rfl (lv_at hl 1 rfl) ?_
  refine r_iload_n S dX11_lie_2 rfl (lv_at hl 2 rfl) ?_
  refine r_iload_n S dX11_lie_3 rfl (lv_at hl 3 rfl) ?_
  refine r_ki (q_V (As := [.int a0, .int a1, .int a2]) (rest := []) (K := 0) (ci := 9) S X (c_X11_canSpeak l G τ hI a0 a1 a2 h_a0 h_a1 h_a2) ck11_199 (Nat.le_of_ble_eq_true rfl) rfl (fun _ => ⟨_, rfl⟩) ⟨_, _, rfl⟩ ⟨Nat.le_of_ble_eq_true rfl, Nat.le_of_ble_eq_true rfl⟩ rfl hl.1 rfl (Nat.le_of_ble_eq_true rfl) dX11_lie_4 ⟨Nat.le_refl 0, Nat.le_refl 0⟩) X (fun v4 t3 H lc q1 X2 => ?_)
  unfold po_X11_canSpeak at q1
  obtain ⟨q5, q6, q7⟩ := q1
  rw [q5] at X2
  refine r_if_eq (tgt := 21) S dX11_lie_7 (by decide) (fun c8 => ?_) (fun c8 => ?_)
  ·
    have r9 : R (0) (0) v4 := ⟨by omega, by omega⟩
    refine r_iconst S dX11_lie_21 (by decide) (fun v10 z11 => ?_)
    have r12 := R_eq z11
    exact r_ret S hr hlk X2 ⟨hI, Fr_rfl, hWI, hHI⟩ rfl dX11_lie_22
  ·
    have r13 : R (1) (1) v4 := ⟨by omega, by omega⟩
    obtain ⟨p14, p15, p16⟩ := q7 (by omega)
    have r17 : R (0) (9) a0 := ⟨by omega, by omega⟩
    have r18 : R (0) (8) a1 := ⟨by omega, by omega⟩
    have r19 : R (-9) (9) a2 := ⟨by omega, by omega⟩
    refine r_aload_n S dX11_lie_10 rfl (lv_at hl 0 rfl) ?_
    refine r_iconst S dX11_lie_11 (by decide) (fun v20 z21 => ?_)
    have r22 := R_eq z21
    refine r_iload_n S dX11_lie_12 rfl (lv_at hl 1 rfl) ?_
    refine r_iload_n S dX11_lie_13 rfl (lv_at hl 2 rfl) ?_
    refine r_iload_n S dX11_lie_14 rfl (lv_at hl 3 rfl) ?_
    refine r_ki (q_V (As := [.int v20, .int a0, .int a1, .int a2]) (rest := []) (K := 0) (ci := 9) S X2 (c_X11_attempt_3 l G τ hI v20 a0 a1 a2 r22 r17 r18 r19 hWI hHI) ck11_195 (Nat.le_of_ble_eq_true rfl) rfl (fun _ => ⟨_, rfl⟩) ⟨_, _, rfl⟩ ⟨Nat.le_of_ble_eq_true rfl, Nat.le_of_ble_eq_true rfl⟩ rfl hl.1 rfl (Nat.le_of_ble_eq_true rfl) dX11_lie_15 ⟨Nat.le_refl 0, Nat.le_refl 0⟩) X2 (fun v26 t25 H lc q23 X24 => ?_)
    unfold po_X11_attempt_3 at q23
    obtain ⟨q27, q28, q29, q30, q31⟩ := q23
    have F32 : Fr [(0, 8), (0, 9)] [52, 53, 54, 55, 56, 57, 58, 59, 60, 61, 62, 63, 64, 65, 66, 67, 68, 69, 70, 71, 72, 73, 74, 75, 76, 77, 78, 79, 80, 81, 82, 83, 84, 85, 86, 87, 88, 89, 90, 91, 32, 33] τ t25 := Fr_call Fr_rfl q28 (by decide)
    refine r_goto (tgt := 22) S dX11_lie_18 (by decide) ?_
    exact r_ret S hr hlk X24 ⟨q27, F32, q29, q30⟩ rfl dX11_lie_22
def po_X11_turn (τ : Tau)  (a0 a1 a2 : Int32)   (r : Int32) (u : Tau) : Prop := Inv u ∧ Fr [(0, 8), (0, 9), (30, 7)] [52, 53, 54, 55, 56, 57, 58, 59, 60, 61, 62, 63, 64, 65, 66, 67, 68, 69, 70, 71, 72, 73, 74, 75, 76, 77, 78, 79, 80, 81, 82, 83, 84, 85, 86, 87, 88, 89, 90, 91, 31] τ u ∧ WI u ∧ HI u
set_option maxHeartbeats 4000000 in
set_option maxRecDepth 100000 in
theorem c_X11_turn (l : Launch) (G : Gx) (τ : Tau) (hI : Inv τ) (a0 : Int32) (a1 : Int32) (a2 : Int32) (h_a0 : R (-2147483648) (2147483647) a0) (h_a1 : R (-2147483648) (2147483647) a1) (h_a2 : R (-2147483648) (2147483647) a2) (hWI : WI τ) (hHI : HI τ) : Ci l G yX11_turn cX11_turn 4 (some .int) 4 126 [.ref (G.2.2.2.1 0), .int a0, .int a1, .int a2] τ (po_X11_turn τ  a0 a1 a2  ) := by
  unfold Ci
  refine C_of (own := RX11) (by decide) rfl (Nat.le_of_ble_eq_true rfl) ?_
  intro p e s m below meth c ls S hr hlk X hl
  have hl : lv_has ls 4 [(0, .ref (G.2.2.2.1 0)), (1, .int a0), (2, .int a1), (3, .int a2)] := hl
  refine r_aload_n S dX11_turn_0 rfl (lv_at hl 0 rfl) ?_
  refine r_iload_n S dX11_turn_1 rfl (lv_at hl 1 rfl) ?_
  refine r_iload_n S dX11_turn_2 rfl (lv_at hl 2 rfl) ?_
  refine r_iload_n S dX11_turn_3 rfl (lv_at hl 3 rfl) ?_
  refine r_ki (q_V (As := [.int a0, .int a1, .int a2]) (rest := []) (K := 0) (ci := 9) S X (c_X11_canSpeak l G τ hI a0 a1 a2 h_a0 h_a1 h_a2) ck11_199 (Nat.le_of_ble_eq_true rfl) rfl (fun _ => ⟨_, rfl⟩) ⟨_, _, rfl⟩ ⟨Nat.le_of_ble_eq_true rfl, Nat.le_of_ble_eq_true rfl⟩ rfl hl.1 rfl (Nat.le_of_ble_eq_true rfl) dX11_turn_4 ⟨Nat.le_refl 0, Nat.le_refl 0⟩) X (fun v4 t3 H lc q1 X2 => ?_)
  unfold po_X11_canSpeak at q1
  obtain ⟨q5, q6, q7⟩ := q1
  rw [q5] at X2
  refine r_if_eq (tgt := 21) S dX11_turn_7 (by decide) (fun c8 => ?_) (fun c8 => ?_)
  ·
    have r9 : R (0) (0) v4 := ⟨by omega, by omega⟩
    refine r_iconst S dX11_turn_21 (by decide) (fun v10 z11 => ?_)
    have r12 := R_eq z11
    exact r_ret S hr hlk X2 ⟨hI, Fr_rfl, hWI, hHI⟩ rfl dX11_turn_22
  ·
    have r13 : R (1) (1) v4 := ⟨by omega, by omega⟩
    obtain ⟨p14, p15, p16⟩ := q7 (by omega)
    have r17 : R (0) (9) a0 := ⟨by omega, by omega⟩
    have r18 : R (0) (8) a1 := ⟨by omega, by omega⟩
    have r19 : R (-9) (9) a2 := ⟨by omega, by omega⟩
    refine r_aload_n S dX11_turn_10 rfl (lv_at hl 0 rfl) ?_
    refine r_iconst S dX11_turn_11 (by decide) (fun v20 z21 => ?_)
    have r22 := R_eq z21
    refine r_iload_n S dX11_turn_12 rfl (lv_at hl 1 rfl) ?_
    refine r_iload_n S dX11_turn_13 rfl (lv_at hl 2 rfl) ?_
    refine r_iload_n S dX11_turn_14 rfl (lv_at hl 3 rfl) ?_
    refine r_ki (q_V (As := [.int v20, .int a0, .int a1, .int a2]) (rest := []) (K := 0) (ci := 9) S X2 (c_X11_attempt_4 l G τ hI v20 a0 a1 a2 r22 r17 r18 r19 hWI hHI) ck11_195 (Nat.le_of_ble_eq_true rfl) rfl (fun _ => ⟨_, rfl⟩) ⟨_, _, rfl⟩ ⟨Nat.le_of_ble_eq_true rfl, Nat.le_of_ble_eq_true rfl⟩ rfl hl.1 rfl (Nat.le_of_ble_eq_true rfl) dX11_turn_15 ⟨Nat.le_refl 0, Nat.le_refl 0⟩) X2 (fun v26 t25 H lc q23 X24 => ?_)
    unfold po_X11_attempt_4 at q23
    obtain ⟨q27, q28, q29, q30, q31⟩ := q23
    have F32 : Fr [(0, 8), (0, 9), (30, 7)] [52, 53, 54, 55, 56, 57, 58, 59, 60, 61, 62, 63, 64, 65, 66, 67, 68, 69, 70, 71, 72, 73, 74, 75, 76, 77, 78, 79, 80, 81, 82, 83, 84, 85, 86, 87, 88, 89, 90, 91, 31] τ t25 := Fr_call Fr_rfl q28 (by decide)
    refine r_goto (tgt := 22) S dX11_turn_18 (by decide) ?_
    exact r_ret S hr hlk X24 ⟨q27, F32, q29, q30⟩ rfl dX11_turn_22
def po_X11_drawn (τ : Tau)  (a0 a1 : Int32)   (r : Int32) (u : Tau) : Prop := Inv u ∧ Fr [(0, 8), (0, 9), (22, 3), (30, 4), (30, 5), (30, 6), (30, 9), (30, 10)] [52, 53, 54, 55, 56, 57, 58, 59, 60, 61, 62, 63, 64, 65, 66, 67, 68, 69, 70, 71, 72, 73, 74, 75, 76, 77, 78, 79, 80, 81, 82, 83, 84, 85, 86, 87, 88, 89, 90, 91, 33, 34] τ u ∧ WI u ∧ HI u
set_option maxHeartbeats 4000000 in
set_option maxRecDepth 100000 in
theorem c_X11_drawn (l : Launch) (G : Gx) (τ : Tau) (hI : Inv τ) (a0 : Int32) (a1 : Int32) (h_a0 : R (-2147483648) (2147483647) a0) (h_a1 : R (-2147483648) (2147483647) a1) (hWI : WI τ) (hHI : HI τ) : Ci l G yX11_drawn cX11_drawn 3 (some .int) 7 165 [.ref (G.2.2.2.1 0), .int a0, .int a1] τ (po_X11_drawn τ  a0 a1  ) := by
  unfold Ci
  refine C_of (own := RX11) (by decide) rfl (Nat.le_of_ble_eq_true rfl) ?_
  intro p e s m below meth c ls S hr hlk X hl
  have hl : lv_has ls 3 [(0, .ref (G.2.2.2.1 0)), (1, .int a0), (2, .int a1)] := hl
  refine r_iload_n S dX11_drawn_0 rfl (lv_at hl 1 rfl) ?_
  refine r_iconst S dX11_drawn_1 (by decide) (fun v1 z2 => ?_)
  have r3 := R_eq z2
  refine r_icmp_lt (tgt := 24) S dX11_drawn_2 (by decide) (fun c4 => ?_) (fun c4 => ?_)
  ·
    have r5 : R (-2147483648) (0) a0 := ⟨by omega, by omega⟩
    refine r_iconst S dX11_drawn_24 (by decide) (fun v6 z7 => ?_)
    have r8 := R_eq z7
    exact r_ret S hr hlk X ⟨hI, Fr_rfl, hWI, hHI⟩ rfl dX11_drawn_25
  ·
    have r9 : R (1) (2147483647) a0 := ⟨by omega, by omega⟩
    refine r_iload_n S dX11_drawn_5 rfl (lv_at hl 1 rfl) ?_
    refine r_bipush S dX11_drawn_6 (by decide) (fun v10 z11 => ?_)
    have r12 := R_eq z11
    refine r_icmp_gt (tgt := 24) S dX11_drawn_8 (by decide) (fun c13 => ?_) (fun c13 => ?_)
    ·
      have r14 : R (41) (2147483647) a0 := ⟨by omega, by omega⟩
      refine r_iconst S dX11_drawn_24 (by decide) (fun v15 z16 => ?_)
      have r17 := R_eq z16
      exact r_ret S hr hlk X ⟨hI, Fr_rfl, hWI, hHI⟩ rfl dX11_drawn_25
    ·
      have r18 : R (1) (40) a0 := ⟨by omega, by omega⟩
      refine r_aload_n S dX11_drawn_11 rfl (lv_at hl 0 rfl) ?_
      refine r_get (K := 0) (v := .ref (G.2.2.2.1 22)) S X (Nat.le_of_ble_eq_true rfl) rfl lk11_42_9 (fun _ => ⟨_, rfl, rfl⟩) dX11_drawn_12 ?_
      refine r_get (K := 22) (v := .ref (G.2.2.2.1 23)) S X (Nat.le_of_ble_eq_true rfl) rfl lk11_139_8 (fun _ => ⟨_, rfl, rfl⟩) dX11_drawn_15 ?_
      refine r_getn (K := 4) S X (Nat.le_of_ble_eq_true rfl) rfl lk11_244_2 (fun _ => ⟨_, rfl, rfl⟩) dX11_drawn_18 (fun v19 z20 => ?_)
      have r21 : R (0) (10) v19 := rd hI rfl z20
      refine r_if_ne (tgt := 26) S dX11_drawn_21 (by decide) (fun c22 => ?_) (fun c22 => ?_)
      ·
        have r23 : R (1) (10) v19 := ⟨by omega, by omega⟩
        refine r_aload_n S dX11_drawn_26 rfl (lv_at hl 0 rfl) ?_
        refine r_kv (q_V (As := []) (rest := []) (K := 0) (ci := 9) S X (c_X11_remember l G τ hI hWI hHI) ck11_266 (Nat.le_of_ble_eq_true rfl) rfl (fun _ => ⟨_, rfl⟩) ⟨_, _, rfl⟩ ⟨Nat.le_of_ble_eq_true rfl, Nat.le_of_ble_eq_true rfl⟩ rfl hl.1 rfl (Nat.le_of_ble_eq_true rfl) dX11_drawn_27 ⟨Nat.le_refl 0, Nat.le_refl 0⟩) X (fun t26 H lc q24 X25 => ?_)
        unfold po_X11_remember at q24
        obtain ⟨q27, q28, q29⟩ := q24
        have F30 : Fr [(0, 8), (0, 9), (22, 3), (30, 4), (30, 5), (30, 6), (30, 9), (30, 10)] [52, 53, 54, 55, 56, 57, 58, 59, 60, 61, 62, 63, 64, 65, 66, 67, 68, 69, 70, 71, 72, 73, 74, 75, 76, 77, 78, 79, 80, 81, 82, 83, 84, 85, 86, 87, 88, 89, 90, 91, 33, 34] τ t26 := Fr_call Fr_rfl q28 (by decide)
        refine r_aload_n S dX11_drawn_30 rfl (lv_at hl 0 rfl) ?_
        refine r_get (K := 0) (v := .ref (G.2.2.2.1 22)) S X25 (Nat.le_of_ble_eq_true rfl) rfl lk11_42_9 (fun _ => ⟨_, rfl, rfl⟩) dX11_drawn_31 ?_
        refine r_iload_n S dX11_drawn_34 rfl (lv_at hl 1 rfl) ?_
        refine r_iload_n S dX11_drawn_35 rfl (lv_at hl 2 rfl) ?_
        refine r_ki (q_V (As := [.int a0, .int a1]) (rest := []) (K := 22) (ci := 8) S X25 (c_X10_drawTimes l G t26 q27 a0 a1 r18 h_a1 (by rw [((q28 23 3 (by decide)).trans z20)]; exact R_of r23 rfl) (WI_eq hWI ((q28 23 2 (by decide)).trans rfl) ((q28 30 8 (by decide)).trans rfl))) ck11_269 (Nat.le_of_ble_eq_true rfl) rfl (fun _ => ⟨_, rfl⟩) ⟨_, _, rfl⟩ ⟨Nat.le_of_ble_eq_true rfl, Nat.le_of_ble_eq_true rfl⟩ rfl hl.1 rfl (Nat.le_of_ble_eq_true rfl) dX11_drawn_36 ⟨Nat.le_refl 0, Nat.le_refl 0⟩) X25 (fun v34 t33 H lc q31 X32 => ?_)
        unfold po_X10_drawTimes at q31
        obtain ⟨q35, q36⟩ := q31
        have F37 : Fr [(0, 8), (0, 9), (22, 3), (30, 4), (30, 5), (30, 6), (30, 9), (30, 10)] [52, 53, 54, 55, 56, 57, 58, 59, 60, 61, 62, 63, 64, 65, 66, 67, 68, 69, 70, 71, 72, 73, 74, 75, 76, 77, 78, 79, 80, 81, 82, 83, 84, 85, 86, 87, 88, 89, 90, 91, 33, 34] τ t33 := Fr_call F30 q36 (by decide)
        have r38 := R_any v34
        exact r_ret S hr hlk X32 ⟨q35, F37, (WI_eq hWI ((q36 23 2 (by decide)).trans ((q28 23 2 (by decide)).trans rfl)) ((q36 30 8 (by decide)).trans ((q28 30 8 (by decide)).trans rfl))), (HI_eq q29 ((q36 23 2 (by decide)).trans rfl) ((q36 0 8 (by decide)).trans rfl) ((q36 0 9 (by decide)).trans rfl) ((q36 52 8 (by decide)).trans rfl) ((q36 57 8 (by decide)).trans rfl) ((q36 62 8 (by decide)).trans rfl) ((q36 67 8 (by decide)).trans rfl) ((q36 72 8 (by decide)).trans rfl) ((q36 77 8 (by decide)).trans rfl) ((q36 82 8 (by decide)).trans rfl) ((q36 87 8 (by decide)).trans rfl))⟩ rfl dX11_drawn_39
      ·
        have r39 : R (0) (0) v19 := ⟨by omega, by omega⟩
        refine r_iconst S dX11_drawn_24 (by decide) (fun v40 z41 => ?_)
        have r42 := R_eq z41
        exact r_ret S hr hlk X ⟨hI, Fr_rfl, hWI, hHI⟩ rfl dX11_drawn_25
def po_X11_odds (τ : Tau)  (a0 a1 a2 : Int32)   (r : Int32) (u : Tau) : Prop := Inv u ∧ Fr [(22, 3), (30, 4), (30, 5), (30, 6), (30, 9), (30, 10), (30, 7), (30, 8), (40, 4), (40, 5), (40, 6), (40, 7), (40, 8), (40, 9), (40, 10)] [33, 34, 31, 32, 41, 42, 43, 44] τ u ∧ WI u
set_option maxHeartbeats 4000000 in
set_option maxRecDepth 100000 in
theorem c_X11_odds (l : Launch) (G : Gx) (τ : Tau) (hI : Inv τ) (a0 : Int32) (a1 : Int32) (a2 : Int32) (h_a0 : R (-2147483648) (2147483647) a0) (h_a1 : R (-2147483648) (2147483647) a1) (h_a2 : R (-2147483648) (2147483647) a2) (hWI : WI τ) : Ci l G yX11_odds cX11_odds 6 (some .int) 7 165 [.ref (G.2.2.2.1 0), .int a0, .int a1, .int a2] τ (po_X11_odds τ  a0 a1 a2  ) := by
  unfold Ci
  refine C_of (own := RX11) (by decide) rfl (Nat.le_of_ble_eq_true rfl) ?_
  intro p e s m below meth c ls S hr hlk X hl
  have hl : lv_has ls 6 [(0, .ref (G.2.2.2.1 0)), (1, .int a0), (2, .int a1), (3, .int a2)] := hl
  obtain ⟨v1, z2⟩ : ∃ x, τ 23 2 = x := ⟨_, rfl⟩
  have r3 : R (0) (9) v1 := rd hI rfl z2
  obtain ⟨v4, z5⟩ : ∃ x, τ 30 8 = x := ⟨_, rfl⟩
  have r6 : R (-1) (8) v4 := rd hI rfl z5
  have hab : 0 < v1.toInt → 0 ≤ v4.toInt := by have h := hWI; unfold WI at h; rw [z2, z5] at h; exact h
  refine r_aload_n S dX11_odds_0 rfl (lv_at hl 0 rfl) ?_
  refine r_get (K := 0) (v := .ref (G.2.2.2.1 22)) S X (Nat.le_of_ble_eq_true rfl) rfl lk11_42_9 (fun _ => ⟨_, rfl, rfl⟩) dX11_odds_1 ?_
  refine r_iload_n S dX11_odds_4 rfl (lv_at hl 1 rfl) ?_
  refine r_ki (q_V (As := [.int a0]) (rest := []) (K := 22) (ci := 8) S X (c_X10_hasMan l G τ hI a0 h_a0) ck11_122 (Nat.le_of_ble_eq_true rfl) rfl (fun _ => ⟨_, rfl⟩) ⟨_, _, rfl⟩ ⟨Nat.le_of_ble_eq_true rfl, Nat.le_of_ble_eq_true rfl⟩ rfl hl.1 rfl (Nat.le_of_ble_eq_true rfl) dX11_odds_5 ⟨Nat.le_refl 0, Nat.le_refl 0⟩) X (fun v10 t9 H lc q7 X8 => ?_)
  unfold po_X10_hasMan at q7
  obtain ⟨q11, q12, q13⟩ := q7
  rw [q11] at X8
  rw [q11] at q13
  refine r_if_eq (tgt := 22) S dX11_odds_8 (by decide) (fun c14 => ?_) (fun c14 => ?_)
  ·
    have r15 : R (0) (0) v10 := ⟨by omega, by omega⟩
    refine r_iconst S dX11_odds_22 (by decide) (fun v16 z17 => ?_)
    have r18 := R_eq z17
    exact r_ret S hr hlk X8 ⟨hI, Fr_rfl, hWI⟩ rfl dX11_odds_23
  ·
    have r19 : R (1) (1) v10 := ⟨by omega, by omega⟩
    obtain ⟨p20, p21⟩ := q13 (by omega)
    have r22 : R (0) (9) a0 := ⟨by omega, by omega⟩
    obtain ⟨v23, z24⟩ : ∃ x, τ 23 3 = x := ⟨_, rfl⟩
    rw [z24] at p21
    refine r_iload_n S dX11_odds_11 rfl (lv_at hl 2 rfl) ?_
    refine r_iconst S dX11_odds_12 (by decide) (fun v25 z26 => ?_)
    have r27 := R_eq z26
    refine r_icmp_lt (tgt := 22) S dX11_odds_13 (by decide) (fun c28 => ?_) (fun c28 => ?_)
    ·
      have r29 : R (-2147483648) (0) a1 := ⟨by omega, by omega⟩
      refine r_iconst S dX11_odds_22 (by decide) (fun v30 z31 => ?_)
      have r32 := R_eq z31
      exact r_ret S hr hlk X8 ⟨hI, Fr_rfl, hWI⟩ rfl dX11_odds_23
    ·
      have r33 : R (1) (2147483647) a1 := ⟨by omega, by omega⟩
      refine r_iload_n S dX11_odds_16 rfl (lv_at hl 2 rfl) ?_
      refine r_bipush S dX11_odds_17 (by decide) (fun v34 z35 => ?_)
      have r36 := R_eq z35
      refine r_icmp_le (tgt := 24) S dX11_odds_19 (by decide) (fun c37 => ?_) (fun c37 => ?_)
      ·
        have r38 : R (1) (40) a1 := ⟨by omega, by omega⟩
        refine r_iconst S dX11_odds_24 (by decide) (fun v39 z40 => ?_)
        have r41 := R_eq z40
        refine r_istore (lv' := [(4, .int v39), (0, .ref (G.2.2.2.1 0)), (1, .int a0), (2, .int a1), (3, .int a2)]) S dX11_odds_25 hl (by decide) rfl (fun ls hl => ?_)
        refine r_aload_n S dX11_odds_27 rfl (lv_at hl 1 rfl) ?_
        refine r_get (K := 0) (v := .ref (G.2.2.2.1 40)) S X8 (Nat.le_of_ble_eq_true rfl) rfl lk11_49_9 (fun _ => ⟨_, rfl, rfl⟩) dX11_odds_28 ?_
        refine r_aload_n S dX11_odds_31 rfl (lv_at hl 1 rfl) ?_
        refine r_get (K := 0) (v := .ref (G.2.2.2.1 22)) S X8 (Nat.le_of_ble_eq_true rfl) rfl lk11_42_9 (fun _ => ⟨_, rfl, rfl⟩) dX11_odds_32 ?_
        refine r_get (K := 22) (v := .ref (G.2.2.2.1 30)) S X8 (Nat.le_of_ble_eq_true rfl) rfl lk11_129_8 (fun _ => ⟨_, rfl, rfl⟩) dX11_odds_35 ?_
        refine r_kv (q_V (As := [.ref (G.2.2.2.1 30)]) (rest := []) (K := 23) (ci := 3) S X8 (c_scopy_40_30 l G τ hI ) ck11_206 (Nat.le_of_ble_eq_true rfl) rfl (fun _ => ⟨_, rfl⟩) ⟨_, _, rfl⟩ ⟨Nat.le_of_ble_eq_true rfl, Nat.le_of_ble_eq_true rfl⟩ rfl hl.1 rfl (Nat.le_of_ble_eq_true rfl) dX11_odds_38 ⟨Nat.le_refl 0, Nat.le_refl 0⟩) X8 (fun t44 H lc q42 X43 => ?_)
        unfold po_scopy_40_30 at q42
        obtain ⟨q45, q46, q47⟩ := q42
        have F48 : Fr [(22, 3), (30, 4), (30, 5), (30, 6), (30, 9), (30, 10), (30, 7), (30, 8), (40, 4), (40, 5), (40, 6), (40, 7), (40, 8), (40, 9), (40, 10)] [33, 34, 31, 32, 41, 42, 43, 44] τ t44 := Fr_call Fr_rfl q46 (by decide)
        refine r_iconst S dX11_odds_41 (by decide) (fun v49 z50 => ?_)
        have r51 := R_eq z50
        refine r_istore (lv' := [(5, .int v49), (4, .int v39), (0, .ref (G.2.2.2.1 0)), (1, .int a0), (2, .int a1), (3, .int a2)]) S dX11_odds_42 hl (by decide) rfl (fun ls hl => ?_)
        have L2504 : ∀ (n : Nat) (t2495 : Tau) (H : Heap) (lc : List Loc) (ls : Array Slot) (i2491 : Int32) (i2493 : Int32), Xd G s H lc t2495 → Inv t2495 → Fr [(22, 3), (30, 4), (30, 5), (30, 6), (30, 9), (30, 10), (30, 7), (30, 8), (40, 4), (40, 5), (40, 6), (40, 7), (40, 8), (40, 9), (40, 10)] [33, 34, 31, 32, 41, 42, 43, 44] τ t2495 → WI t2495 → R (-2147483648) (2147483647) i2491 → R (0) (40) i2493 → t2495 23 2 = v1 → t2495 30 8 = v4 → t2495 23 3 = v23 → t2495 40 8 = v4 → lv_has ls 6 [(0, .ref (G.2.2.2.1 0)), (1, .int a0), (2, .int a1), (3, .int a2), (4, .int i2491), (5, .int i2493)] → (40 - i2493.toInt).toNat < n → W p l e (Rm 7 165) s m ([.ref (G.2.2.2.1 0), .int a0, .int a1, .int a2] : List Value).toArray below meth c H lc 0 0 (MQ below (va_Qi (po_X11_odds τ  a0 a1 a2  ) (Bs G) G.2.2.2.2) ([.ref (G.2.2.2.1 0), .int a0, .int a1, .int a2] : List Value).toArray s 0 0 G.2.2.2.2) (F0 m 44 ls []) := by
          intro n
          induction n with
          | zero => intros; omega
          | succ n ih2505 =>
            intro t2495 H lc ls i2491 i2493 X2499 I2496 F2497 hWI2498 r2492 r2494 z2500 z2501 z2502 z2503 hl hm
            refine r_iload S dX11_odds_44 (lv_at hl 5 rfl) ?_
            refine r_iload_n S dX11_odds_46 rfl (lv_at hl 2 rfl) ?_
            refine r_icmp_ge (tgt := 103) S dX11_odds_47 (by decide) (fun c2506 => ?_) (fun c2506 => ?_)
            ·
              have r2507 : R (1) (40) i2493 := ⟨by omega, by omega⟩
              refine r_iload S dX11_odds_103 (lv_at hl 4 rfl) ?_
              exact r_ret S hr hlk X2499 ⟨I2496, F2497, hWI2498⟩ rfl dX11_odds_105
            ·
              have r2508 : R (0) (39) i2493 := ⟨by omega, by omega⟩
              refine r_aload_n S dX11_odds_50 rfl (lv_at hl 0 rfl) ?_
              refine r_get (K := 0) (v := .ref (G.2.2.2.1 22)) S X2499 (Nat.le_of_ble_eq_true rfl) rfl lk11_42_9 (fun _ => ⟨_, rfl, rfl⟩) dX11_odds_51 ?_
              refine r_bipush S dX11_odds_54 (by decide) (fun v2509 z2510 => ?_)
              have r2511 := R_eq z2510
              refine r_iload_n S dX11_odds_56 rfl (lv_at hl 3 rfl) ?_
              refine r_iload S dX11_odds_57 (lv_at hl 5 rfl) ?_
              refine r_iadd S dX11_odds_59 (fun v2512 z2513 => ?_)
              have r2514 := R_any v2512
              refine r_ki (q_V (As := [.int v2509, .int v2512]) (rest := []) (K := 22) (ci := 8) S X2499 (c_X10_drawTimes l G t2495 I2496 v2509 v2512 (R_of (lo := 1) (hi := 40) r2511 rfl) r2514 (by rw [z2502]; exact R_of p21 rfl) hWI2498) ck11_269 (Nat.le_of_ble_eq_true rfl) rfl (fun _ => ⟨_, rfl⟩) ⟨_, _, rfl⟩ ⟨Nat.le_of_ble_eq_true rfl, Nat.le_of_ble_eq_true rfl⟩ rfl hl.1 rfl (Nat.le_of_ble_eq_true rfl) dX11_odds_60 ⟨Nat.le_refl 0, Nat.le_refl 0⟩) X2499 (fun v2518 t2517 H lc q2515 X2516 => ?_)
              unfold po_X10_drawTimes at q2515
              obtain ⟨q2519, q2520⟩ := q2515
              have F2521 : Fr [(22, 3), (30, 4), (30, 5), (30, 6), (30, 9), (30, 10), (30, 7), (30, 8), (40, 4), (40, 5), (40, 6), (40, 7), (40, 8), (40, 9), (40, 10)] [33, 34, 31, 32, 41, 42, 43, 44] τ t2517 := Fr_call F2497 q2520 (by decide)
              have r2522 := R_any v2518
              refine r_pop S dX11_odds_63 rfl ?_
              refine r_iload S dX11_odds_64 (lv_at hl 4 rfl) ?_
              refine r_aload_n S dX11_odds_66 rfl (lv_at hl 0 rfl) ?_
              refine r_get (K := 0) (v := .ref (G.2.2.2.1 22)) S X2516 (Nat.le_of_ble_eq_true rfl) rfl lk11_42_9 (fun _ => ⟨_, rfl, rfl⟩) dX11_odds_67 ?_
              refine r_get (K := 22) (v := .ref (G.2.2.2.1 30)) S X2516 (Nat.le_of_ble_eq_true rfl) rfl lk11_129_8 (fun _ => ⟨_, rfl, rfl⟩) dX11_odds_70 ?_
              refine r_getn (K := 23) S X2516 (Nat.le_of_ble_eq_true rfl) rfl lk11_132_3 (fun _ => ⟨_, rfl, rfl⟩) dX11_odds_73 (fun v2523 z2524 => ?_)
              have r2525 : R (0) (1023) v2523 := rd q2519 rfl z2524
              refine r_iload_n S dX11_odds_76 rfl (lv_at hl 1 rfl) ?_
              refine r_ki (q_S (As := [.int v2523, .int a0]) (rest := [.int i2491]) S X2516 (c_X11_bit l G t2517 q2519 v2523 a0 (R_of (lo := -2147483648) (hi := 2147483647) r2525 rfl) (R_of (lo := -2147483648) (hi := 2147483647) r22 rfl)) ck11_135 ⟨Nat.le_of_ble_eq_true rfl, Nat.le_of_ble_eq_true rfl⟩ rfl hl.1 rfl (Nat.le_of_ble_eq_true rfl) dX11_odds_77 ⟨Nat.le_refl 0, Nat.le_refl 0⟩) X2516 (fun v2529 t2528 H lc q2526 X2527 => ?_)
              unfold po_X11_bit at q2526
              obtain ⟨q2530, q2531⟩ := q2526
              rw [q2530] at X2527
              refine r_iadd S dX11_odds_80 (fun v2532 z2533 => ?_)
              have r2534 := R_any v2532
              refine r_istore (lv' := [(4, .int v2532), (0, .ref (G.2.2.2.1 0)), (1, .int a0), (2, .int a1), (3, .int a2), (5, .int i2493)]) S dX11_odds_81 hl (by decide) rfl (fun ls hl => ?_)
              refine r_aload_n S dX11_odds_83 rfl (lv_at hl 1 rfl) ?_
              refine r_get (K := 0) (v := .ref (G.2.2.2.1 22)) S X2527 (Nat.le_of_ble_eq_true rfl) rfl lk11_42_9 (fun _ => ⟨_, rfl, rfl⟩) dX11_odds_84 ?_
              refine r_get (K := 22) (v := .ref (G.2.2.2.1 30)) S X2527 (Nat.le_of_ble_eq_true rfl) rfl lk11_129_8 (fun _ => ⟨_, rfl, rfl⟩) dX11_odds_87 ?_
              refine r_aload_n S dX11_odds_90 rfl (lv_at hl 1 rfl) ?_
              refine r_get (K := 0) (v := .ref (G.2.2.2.1 40)) S X2527 (Nat.le_of_ble_eq_true rfl) rfl lk11_49_9 (fun _ => ⟨_, rfl, rfl⟩) dX11_odds_91 ?_
              refine r_kv (q_V (As := [.ref (G.2.2.2.1 40)]) (rest := []) (K := 23) (ci := 3) S X2527 (c_scopy_30_40 l G t2517 q2519 ) ck11_206 (Nat.le_of_ble_eq_true rfl) rfl (fun _ => ⟨_, rfl⟩) ⟨_, _, rfl⟩ ⟨Nat.le_of_ble_eq_true rfl, Nat.le_of_ble_eq_true rfl⟩ rfl hl.1 rfl (Nat.le_of_ble_eq_true rfl) dX11_odds_94 ⟨Nat.le_refl 0, Nat.le_refl 0⟩) X2527 (fun t2537 H lc q2535 X2536 => ?_)
              unfold po_scopy_30_40 at q2535
              obtain ⟨q2538, q2539, q2540⟩ := q2535
              have F2541 : Fr [(22, 3), (30, 4), (30, 5), (30, 6), (30, 9), (30, 10), (30, 7), (30, 8), (40, 4), (40, 5), (40, 6), (40, 7), (40, 8), (40, 9), (40, 10)] [33, 34, 31, 32, 41, 42, 43, 44] τ t2537 := Fr_call F2521 q2539 (by decide)
              have hW2542 : WI t2537 := WI_mk ((q2539 23 2 (by decide)).trans ((q2520 23 2 (by decide)).trans z2500)) (q2540.trans ((q2520 40 8 (by decide)).trans z2503)) hab
              refine r_iinc (k := 5) S dX11_odds_97 hl rfl (by decide) (by decide) (fun v2543 d2544 ls z2545 z2546 hl => ?_)
              obtain ⟨e2547, r2548⟩ := i_add (lo := 1) (hi := 40) z2545 r2508 (R_eq z2546) rfl
              have hl : lv_has ls 6 [(5, .int v2543), (4, .int v2532), (0, .ref (G.2.2.2.1 0)), (1, .int a0), (2, .int a1), (3, .int a2)] := hl
              refine r_goto (tgt := 44) S dX11_odds_100 (by decide) ?_
              exact ih2505 t2537 _ _ _ v2532 v2543 X2536 q2538 F2541 hW2542 r2534 (R_of r2548 rfl) ((q2539 23 2 (by decide)).trans ((q2520 23 2 (by decide)).trans z2500)) (q2540.trans ((q2520 40 8 (by decide)).trans z2503)) ((q2539 23 3 (by decide)).trans ((q2520 23 3 (by decide)).trans z2502)) ((q2539 40 8 (by decide)).trans ((q2520 40 8 (by decide)).trans z2503)) (lv_sub hl [2, 3, 4, 5, 1, 0] rfl) (by omega)
        exact L2504 _ t44 _ _ _ v39 v49 X43 q45 F48 (WI_eq hWI ((q46 23 2 (by decide)).trans rfl) ((q46 30 8 (by decide)).trans rfl)) (R_of r41 rfl) (R_of r51 rfl) ((q46 23 2 (by decide)).trans z2) ((q46 30 8 (by decide)).trans z5) ((q46 23 3 (by decide)).trans z24) (q47.trans z5) (lv_sub hl [2, 3, 4, 5, 1, 0] rfl) (Nat.lt_succ_self _)
      ·
        have r2549 : R (41) (2147483647) a1 := ⟨by omega, by omega⟩
        refine r_iconst S dX11_odds_22 (by decide) (fun v2550 z2551 => ?_)
        have r2552 := R_eq z2551
        exact r_ret S hr hlk X8 ⟨hI, Fr_rfl, hWI⟩ rfl dX11_odds_23
def po_X11_ferry (τ : Tau)     (r : Int32) (u : Tau) : Prop := Inv u ∧ Fr [(3, 1), (3, 2), (3, 5), (3, 6), (4, 0), (4, 1), (4, 2), (4, 3), (4, 4), (1, 3), (1, 4), (1, 5), (1, 7), (1, 8), (3, 4), (1, 2), (1, 1), (0, 12), (0, 9), (23, 0), (23, 1), (23, 2), (23, 3), (23, 4), (30, 4), (30, 5), (30, 6), (30, 7), (30, 8), (30, 9), (30, 10), (35, 4)] [5, 6, 7, 8, 24, 25, 26, 27, 31, 33, 34, 201, 210, 209, 228, 229] τ u ∧ WI u ∧ HI u ∧ (u 1 1).toInt = 0
set_option maxHeartbeats 4000000 in
set_option maxRecDepth 100000 in
theorem c_X11_ferry (l : Launch) (G : Gx) (τ : Tau) (hI : Inv τ) (hWI : WI τ) (hHI : HI τ) : Ci l G yX11_ferry cX11_ferry 2 (some .int) 6 131 [.ref (G.2.2.2.1 0)] τ (po_X11_ferry τ    ) := by
  unfold Ci
  refine C_of (own := RX11) (by decide) rfl (Nat.le_of_ble_eq_true rfl) ?_
  intro p e s m below meth c ls S hr hlk X hl
  have hl : lv_has ls 2 [(0, .ref (G.2.2.2.1 0))] := hl
  refine r_aload_n S dX11_ferry_0 rfl (lv_at hl 0 rfl) ?_
  refine r_get (K := 0) (v := .ref (G.2.2.2.1 3)) S X (Nat.le_of_ble_eq_true rfl) rfl lk11_21_9 (fun _ => ⟨_, rfl, rfl⟩) dX11_ferry_1 ?_
  refine r_ki (q_V (As := []) (rest := []) (K := 3) (ci := 0) S X (c_X0_read l G τ hI ) ck11_95 (Nat.le_of_ble_eq_true rfl) rfl (fun _ => ⟨_, rfl⟩) ⟨_, _, rfl⟩ ⟨Nat.le_of_ble_eq_true rfl, Nat.le_of_ble_eq_true rfl⟩ rfl hl.1 rfl (Nat.le_of_ble_eq_true rfl) dX11_ferry_4 ⟨Nat.le_refl 0, Nat.le_refl 0⟩) X (fun v4 t3 H lc q1 X2 => ?_)
  unfold po_X0_read at q1
  obtain ⟨q5, q6, q7⟩ := q1
  have F8 : Fr [(3, 1), (3, 2), (3, 5), (3, 6), (4, 0), (4, 1), (4, 2), (4, 3), (4, 4), (1, 3), (1, 4), (1, 5), (1, 7), (1, 8), (3, 4), (1, 2), (1, 1), (0, 12), (0, 9), (23, 0), (23, 1), (23, 2), (23, 3), (23, 4), (30, 4), (30, 5), (30, 6), (30, 7), (30, 8), (30, 9), (30, 10), (35, 4)] [5, 6, 7, 8, 24, 25, 26, 27, 31, 33, 34, 201, 210, 209, 228, 229] τ t3 := Fr_call Fr_rfl q6 (by decide)
  refine r_istore_n (lv' := [(1, .int v4), (0, .ref (G.2.2.2.1 0))]) S dX11_ferry_7 rfl hl (by decide) rfl (fun ls hl => ?_)
  refine r_aload_n S dX11_ferry_8 rfl (lv_at hl 1 rfl) ?_
  refine r_aload_n S dX11_ferry_9 rfl (lv_at hl 1 rfl) ?_
  refine r_get (K := 0) (v := .ref (G.2.2.2.1 3)) S X2 (Nat.le_of_ble_eq_true rfl) rfl lk11_21_9 (fun _ => ⟨_, rfl, rfl⟩) dX11_ferry_10 ?_
  refine r_getn (K := 3) S X2 (Nat.le_of_ble_eq_true rfl) rfl lk11_99_0 (fun _ => ⟨_, rfl, rfl⟩) dX11_ferry_13 (fun v9 z10 => ?_)
  have r12 := R_any v9
  refine r_put (K := 0) (ty := .int) S X2 (Nat.le_of_ble_eq_true rfl) rfl lk11_102_9 (fun _ => ⟨_, rfl, Nat.le_of_ble_eq_true rfl, rfl⟩) (fun _ _ _ h => by cases h; exact ⟨rfl, rfl⟩) rfl rfl dX11_ferry_16 (fun t13 H lc M14 X15 => ?_)
  have I16 := Inv_mu q5 M14 (R_any v9)
  have F17 : Fr [(3, 1), (3, 2), (3, 5), (3, 6), (4, 0), (4, 1), (4, 2), (4, 3), (4, 4), (1, 3), (1, 4), (1, 5), (1, 7), (1, 8), (3, 4), (1, 2), (1, 1), (0, 12), (0, 9), (23, 0), (23, 1), (23, 2), (23, 3), (23, 4), (30, 4), (30, 5), (30, 6), (30, 7), (30, 8), (30, 9), (30, 10), (35, 4)] [5, 6, 7, 8, 24, 25, 26, 27, 31, 33, 34, 201, 210, 209, 228, 229] τ t13 := Fr_mu F8 M14 (by decide)
  refine r_aload_n S dX11_ferry_19 rfl (lv_at hl 1 rfl) ?_
  refine r_get (K := 0) (v := .ref (G.2.2.2.1 1)) S X15 (Nat.le_of_ble_eq_true rfl) rfl lk11_12_9 (fun _ => ⟨_, rfl, rfl⟩) dX11_ferry_20 ?_
  refine r_iconst S dX11_ferry_23 (by decide) (fun v18 z19 => ?_)
  have r20 := R_eq z19
  refine r_put (K := 1) (ty := .int) S X15 (Nat.le_of_ble_eq_true rfl) rfl lk11_88_7 (fun _ => ⟨_, rfl, Nat.le_of_ble_eq_true rfl, rfl⟩) (fun _ _ _ h => by cases h; exact ⟨rfl, rfl⟩) rfl rfl dX11_ferry_24 (fun t21 H lc M22 X23 => ?_)
  have I24 := Inv_mu I16 M22 (show Rg (kd 1) 1 v18 from (R_of (lo := 0) (hi := 940) r20 rfl))
  have F25 : Fr [(3, 1), (3, 2), (3, 5), (3, 6), (4, 0), (4, 1), (4, 2), (4, 3), (4, 4), (1, 3), (1, 4), (1, 5), (1, 7), (1, 8), (3, 4), (1, 2), (1, 1), (0, 12), (0, 9), (23, 0), (23, 1), (23, 2), (23, 3), (23, 4), (30, 4), (30, 5), (30, 6), (30, 7), (30, 8), (30, 9), (30, 10), (35, 4)] [5, 6, 7, 8, 24, 25, 26, 27, 31, 33, 34, 201, 210, 209, 228, 229] τ t21 := Fr_mu F17 M22 (by decide)
  refine r_iload_n S dX11_ferry_27 rfl (lv_at hl 0 rfl) ?_
  refine r_if_ne (tgt := 41) S dX11_ferry_28 (by decide) (fun c26 => ?_) (fun c26 => ?_)
  ·
    have r27 : R (1) (1) v4 := ⟨by omega, by omega⟩
    refine r_aload_n S dX11_ferry_41 rfl (lv_at hl 1 rfl) ?_
    refine r_get (K := 0) (v := .ref (G.2.2.2.1 22)) S X23 (Nat.le_of_ble_eq_true rfl) rfl lk11_42_9 (fun _ => ⟨_, rfl, rfl⟩) dX11_ferry_42 ?_
    refine r_aload_n S dX11_ferry_45 rfl (lv_at hl 1 rfl) ?_
    refine r_get (K := 0) (v := .ref (G.2.2.2.1 3)) S X23 (Nat.le_of_ble_eq_true rfl) rfl lk11_21_9 (fun _ => ⟨_, rfl, rfl⟩) dX11_ferry_46 ?_
    refine r_get (K := 3) (v := .ref (G.2.2.2.1 4)) S X23 (Nat.le_of_ble_eq_true rfl) rfl lk11_108_0 (fun _ => ⟨_, rfl, rfl⟩) dX11_ferry_49 ?_
    refine r_kv (q_V (As := [.ref (G.2.2.2.1 4)]) (rest := []) (K := 22) (ci := 8) S X23 (c_X10_begin l G t21 I24 ) ck11_112 (Nat.le_of_ble_eq_true rfl) rfl (fun _ => ⟨_, rfl⟩) ⟨_, _, rfl⟩ ⟨Nat.le_of_ble_eq_true rfl, Nat.le_of_ble_eq_true rfl⟩ rfl hl.1 rfl (Nat.le_of_ble_eq_true rfl) dX11_ferry_52 ⟨Nat.le_refl 0, Nat.le_refl 0⟩) X23 (fun t30 H lc q28 X29 => ?_)
    unfold po_X10_begin at q28
    obtain ⟨v31, z32⟩ : ∃ x, t21 4 0 = x := ⟨_, rfl⟩
    have r33 : R (0) (8) v31 := rd I24 rfl z32
    obtain ⟨v34, z35⟩ : ∃ x, t21 4 1 = x := ⟨_, rfl⟩
    have r36 : R (0) (9) v34 := rd I24 rfl z35
    obtain ⟨v37, z38⟩ : ∃ x, t21 4 2 = x := ⟨_, rfl⟩
    have r39 : R (0) (9) v37 := rd I24 rfl z38
    obtain ⟨v40, z41⟩ : ∃ x, t21 4 3 = x := ⟨_, rfl⟩
    have r42 : R (0) (10) v40 := rd I24 rfl z41
    obtain ⟨v43, z44⟩ : ∃ x, t21 4 4 = x := ⟨_, rfl⟩
    have r45 := R_any v43
    obtain ⟨q46, q47, q48, q49, q50, q51, q52, q53⟩ := q28
    have F54 : Fr [(3, 1), (3, 2), (3, 5), (3, 6), (4, 0), (4, 1), (4, 2), (4, 3), (4, 4), (1, 3), (1, 4), (1, 5), (1, 7), (1, 8), (3, 4), (1, 2), (1, 1), (0, 12), (0, 9), (23, 0), (23, 1), (23, 2), (23, 3), (23, 4), (30, 4), (30, 5), (30, 6), (30, 7), (30, 8), (30, 9), (30, 10), (35, 4)] [5, 6, 7, 8, 24, 25, 26, 27, 31, 33, 34, 201, 210, 209, 228, 229] τ t30 := Fr_call F25 q47 (by decide)
    refine r_aload_n S dX11_ferry_55 rfl (lv_at hl 1 rfl) ?_
    refine r_iconst S dX11_ferry_56 (by decide) (fun v55 z56 => ?_)
    have r57 := R_eq z56
    refine r_put (K := 0) (ty := .int) S X29 (Nat.le_of_ble_eq_true rfl) rfl lk11_116_9 (fun _ => ⟨_, rfl, Nat.le_of_ble_eq_true rfl, rfl⟩) (fun _ _ _ h => by cases h; exact ⟨rfl, rfl⟩) rfl rfl dX11_ferry_57 (fun t58 H lc M59 X60 => ?_)
    have I61 := Inv_mu q46 M59 (show Rg (kd 0) 9 v55 from (R_of (lo := 0) (hi := 8) r57 rfl))
    have F62 : Fr [(3, 1), (3, 2), (3, 5), (3, 6), (4, 0), (4, 1), (4, 2), (4, 3), (4, 4), (1, 3), (1, 4), (1, 5), (1, 7), (1, 8), (3, 4), (1, 2), (1, 1), (0, 12), (0, 9), (23, 0), (23, 1), (23, 2), (23, 3), (23, 4), (30, 4), (30, 5), (30, 6), (30, 7), (30, 8), (30, 9), (30, 10), (35, 4)] [5, 6, 7, 8, 24, 25, 26, 27, 31, 33, 34, 201, 210, 209, 228, 229] τ t58 := Fr_mu F54 M59 (by decide)
    refine r_aload_n S dX11_ferry_60 rfl (lv_at hl 1 rfl) ?_
    refine r_get (K := 0) (v := .ref (G.2.2.2.1 3)) S X60 (Nat.le_of_ble_eq_true rfl) rfl lk11_21_9 (fun _ => ⟨_, rfl, rfl⟩) dX11_ferry_61 ?_
    refine r_getn (K := 3) S X60 (Nat.le_of_ble_eq_true rfl) rfl lk11_119_0 (fun _ => ⟨_, rfl, rfl⟩) dX11_ferry_64 (fun v63 z64 => ?_)
    have r65 : R (0) (940) v63 := rd I61 rfl z64
    exact r_ret S hr hlk X60 ⟨I61, F62, (WI_eq q48 ((M59.2 23 2 (Or.inl (by decide))).trans rfl) ((M59.2 30 8 (Or.inl (by decide))).trans rfl)), (HI_0 M59.1 (by omega)), (by have h1_0 := congrArg Int32.toInt ((M59.2 1 1 (Or.inl (by decide))).trans ((q47 1 1 (by decide)).trans M22.1)); omega)⟩ rfl dX11_ferry_67
  ·
    have r66 : R (0) (0) v4 := ⟨by omega, by omega⟩
    refine r_iconst S dX11_ferry_31 (by decide) (fun v67 z68 => ?_)
    have r69 := R_eq z68
    refine r_aload_n S dX11_ferry_32 rfl (lv_at hl 1 rfl) ?_
    refine r_get (K := 0) (v := .ref (G.2.2.2.1 1)) S X23 (Nat.le_of_ble_eq_true rfl) rfl lk11_12_9 (fun _ => ⟨_, rfl, rfl⟩) dX11_ferry_33 ?_
    refine r_getn (K := 1) S X23 (Nat.le_of_ble_eq_true rfl) rfl lk11_105_7 (fun _ => ⟨_, rfl, rfl⟩) dX11_ferry_36 (fun v70 z71 => ?_)
    have r72 : R (0) (940) v70 := rd I24 rfl z71
    refine r_isub S dX11_ferry_39 (fun v73 z74 => ?_)
    obtain ⟨e75, r76⟩ := i_sub (lo := -941) (hi := -1) z74 r69 r72 rfl
    exact r_ret S hr hlk X23 ⟨I24, F25, (WI_eq hWI ((M22.2 23 2 (Or.inl (by decide))).trans ((M14.2 23 2 (Or.inl (by decide))).trans ((q6 23 2 (by decide)).trans rfl))) ((M22.2 30 8 (Or.inl (by decide))).trans ((M14.2 30 8 (Or.inl (by decide))).trans ((q6 30 8 (by decide)).trans rfl)))), (HI_eq hHI ((M22.2 23 2 (Or.inl (by decide))).trans ((M14.2 23 2 (Or.inl (by decide))).trans ((q6 23 2 (by decide)).trans rfl))) ((M22.2 0 8 (Or.inl (by decide))).trans ((M14.2 0 8 (Or.inr (by decide))).trans ((q6 0 8 (by decide)).trans rfl))) ((M22.2 0 9 (Or.inl (by decide))).trans ((M14.2 0 9 (Or.inr (by decide))).trans ((q6 0 9 (by decide)).trans rfl))) ((M22.2 52 8 (Or.inl (by decide))).trans ((M14.2 52 8 (Or.inl (by decide))).trans ((q6 52 8 (by decide)).trans rfl))) ((M22.2 57 8 (Or.inl (by decide))).trans ((M14.2 57 8 (Or.inl (by decide))).trans ((q6 57 8 (by decide)).trans rfl))) ((M22.2 62 8 (Or.inl (by decide))).trans ((M14.2 62 8 (Or.inl (by decide))).trans ((q6 62 8 (by decide)).trans rfl))) ((M22.2 67 8 (Or.inl (by decide))).trans ((M14.2 67 8 (Or.inl (by decide))).trans ((q6 67 8 (by decide)).trans rfl))) ((M22.2 72 8 (Or.inl (by decide))).trans ((M14.2 72 8 (Or.inl (by decide))).trans ((q6 72 8 (by decide)).trans rfl))) ((M22.2 77 8 (Or.inl (by decide))).trans ((M14.2 77 8 (Or.inl (by decide))).trans ((q6 77 8 (by decide)).trans rfl))) ((M22.2 82 8 (Or.inl (by decide))).trans ((M14.2 82 8 (Or.inl (by decide))).trans ((q6 82 8 (by decide)).trans rfl))) ((M22.2 87 8 (Or.inl (by decide))).trans ((M14.2 87 8 (Or.inl (by decide))).trans ((q6 87 8 (by decide)).trans rfl)))), (by have h1_0 := congrArg Int32.toInt M22.1; omega)⟩ rfl dX11_ferry_40
