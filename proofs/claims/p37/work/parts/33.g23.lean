def po_wcopy_93_22 (τ : Tau)     (u : Tau) : Prop := Inv u ∧ Fr [(94, 0), (94, 1), (94, 2), (94, 3), (94, 4), (101, 4), (101, 5), (101, 6), (101, 7), (101, 8), (101, 9), (101, 10), (106, 4)] [95, 96, 97, 98, 102, 103, 104, 105, 107, 108, 109, 299, 300] τ u ∧ YA u ∧ u 94 2 = τ 23 2 ∧ u 101 8 = τ 30 8 ∧ u 94 0 = τ 23 0 ∧ u 94 1 = τ 23 1 ∧ u 94 3 = τ 23 3 ∧ u 94 4 = τ 23 4
set_option maxHeartbeats 4000000 in
set_option maxRecDepth 100000 in
theorem c_wcopy_93_22 (l : Launch) (G : Gx) (τ : Tau) (hI : Inv τ) (hYA : YA τ) (hYW : YW τ) : Cv l G yX10_copyFrom cX10_copyFrom 2 2 81 [.ref (G.2.2.2.1 93), .ref (G.2.2.2.1 22)] τ (po_wcopy_93_22 τ    ) := by
  unfold Cv
  refine C_of (own := RX10) (by decide) rfl (Nat.le_of_ble_eq_true rfl) ?_
  intro p e s m below meth c ls S hr hlk X hl
  have hl : lv_has ls 2 [(0, .ref (G.2.2.2.1 93)), (1, .ref (G.2.2.2.1 22))] := hl
  refine r_aload_n S dX10_copyFrom_0 rfl (lv_at hl 0 rfl) ?_
  refine r_get (K := 22) (v := .ref (G.2.2.2.1 94)) S X (Nat.le_of_ble_eq_true rfl) rfl lk10_12_8 (fun _ => ⟨_, rfl, rfl⟩) dX10_copyFrom_1 ?_
  refine r_aload_n S dX10_copyFrom_4 rfl (lv_at hl 1 rfl) ?_
  refine r_get (K := 22) (v := .ref (G.2.2.2.1 23)) S X (Nat.le_of_ble_eq_true rfl) rfl lk10_12_8 (fun _ => ⟨_, rfl, rfl⟩) dX10_copyFrom_5 ?_
  refine r_kv (q_V (As := [.ref (G.2.2.2.1 23)]) (rest := []) (K := 4) (ci := 2) S X (c_pcopy_94_23 l G τ hI ) ck10_32 (Nat.le_of_ble_eq_true rfl) rfl (fun _ => ⟨_, rfl⟩) ⟨_, _, rfl⟩ ⟨Nat.le_of_ble_eq_true rfl, Nat.le_of_ble_eq_true rfl⟩ rfl hl.1 rfl (Nat.le_of_ble_eq_true rfl) dX10_copyFrom_8 ⟨Nat.le_refl 0, Nat.le_refl 0⟩) X (fun t3 H lc q1 X2 => ?_)
  unfold po_pcopy_94_23 at q1
  obtain ⟨v4, z5⟩ : ∃ x, τ 23 2 = x := ⟨_, rfl⟩
  have r6 : R (0) (9) v4 := rd hI rfl z5
  obtain ⟨v7, z8⟩ : ∃ x, τ 23 0 = x := ⟨_, rfl⟩
  have r9 : R (0) (8) v7 := rd hI rfl z8
  obtain ⟨v10, z11⟩ : ∃ x, τ 23 1 = x := ⟨_, rfl⟩
  have r12 : R (0) (9) v10 := rd hI rfl z11
  obtain ⟨v13, z14⟩ : ∃ x, τ 23 3 = x := ⟨_, rfl⟩
  have r15 : R (0) (10) v13 := rd hI rfl z14
  obtain ⟨v16, z17⟩ : ∃ x, τ 23 4 = x := ⟨_, rfl⟩
  have r18 := R_any v16
  obtain ⟨q19, q20, q21, q22, q23, q24, q25⟩ := q1
  have F26 : Fr [(94, 0), (94, 1), (94, 2), (94, 3), (94, 4), (101, 4), (101, 5), (101, 6), (101, 7), (101, 8), (101, 9), (101, 10), (106, 4)] [95, 96, 97, 98, 102, 103, 104, 105, 107, 108, 109, 299, 300] τ t3 := Fr_call Fr_rfl q20 (by decide)
  refine r_aload_n S dX10_copyFrom_11 rfl (lv_at hl 0 rfl) ?_
  refine r_get (K := 22) (v := .ref (G.2.2.2.1 101)) S X2 (Nat.le_of_ble_eq_true rfl) rfl lk10_21_8 (fun _ => ⟨_, rfl, rfl⟩) dX10_copyFrom_12 ?_
  refine r_aload_n S dX10_copyFrom_15 rfl (lv_at hl 1 rfl) ?_
  refine r_get (K := 22) (v := .ref (G.2.2.2.1 30)) S X2 (Nat.le_of_ble_eq_true rfl) rfl lk10_21_8 (fun _ => ⟨_, rfl, rfl⟩) dX10_copyFrom_16 ?_
  refine r_kv (q_V (As := [.ref (G.2.2.2.1 30)]) (rest := []) (K := 23) (ci := 3) S X2 (c_scopy_101_30 l G t3 q19 ) ck10_43 (Nat.le_of_ble_eq_true rfl) rfl (fun _ => ⟨_, rfl⟩) ⟨_, _, rfl⟩ ⟨Nat.le_of_ble_eq_true rfl, Nat.le_of_ble_eq_true rfl⟩ rfl hl.1 rfl (Nat.le_of_ble_eq_true rfl) dX10_copyFrom_19 ⟨Nat.le_refl 0, Nat.le_refl 0⟩) X2 (fun t29 H lc q27 X28 => ?_)
  unfold po_scopy_101_30 at q27
  obtain ⟨v30, z31⟩ : ∃ x, t3 30 8 = x := ⟨_, rfl⟩
  have r32 : R (-1) (8) v30 := rd q19 rfl z31
  obtain ⟨q33, q34, q35⟩ := q27
  have F36 : Fr [(94, 0), (94, 1), (94, 2), (94, 3), (94, 4), (101, 4), (101, 5), (101, 6), (101, 7), (101, 8), (101, 9), (101, 10), (106, 4)] [95, 96, 97, 98, 102, 103, 104, 105, 107, 108, 109, 299, 300] τ t29 := Fr_call F26 q34 (by decide)
  refine r_aload_n S dX10_copyFrom_22 rfl (lv_at hl 0 rfl) ?_
  refine r_get (K := 22) (v := .ref (G.2.2.2.1 106)) S X28 (Nat.le_of_ble_eq_true rfl) rfl lk10_28_8 (fun _ => ⟨_, rfl, rfl⟩) dX10_copyFrom_23 ?_
  refine r_aload_n S dX10_copyFrom_26 rfl (lv_at hl 1 rfl) ?_
  refine r_get (K := 22) (v := .ref (G.2.2.2.1 35)) S X28 (Nat.le_of_ble_eq_true rfl) rfl lk10_28_8 (fun _ => ⟨_, rfl, rfl⟩) dX10_copyFrom_27 ?_
  refine r_kv (q_V (As := [.ref (G.2.2.2.1 35)]) (rest := []) (K := 17) (ci := 5) S X28 (c_sncopy_106_35 l G t29 q33 (YA_eq hYA (fun j => ((q34 107 j (by simp [fz])).trans ((q20 107 j (by simp [fz])).trans rfl))) (fun j => ((q34 108 j (by simp [fz])).trans ((q20 108 j (by simp [fz])).trans rfl)))) (YW_eq hYW (fun j => ((q34 36 j (by simp [fz])).trans ((q20 36 j (by simp [fz])).trans rfl))) (fun j => ((q34 37 j (by simp [fz])).trans ((q20 37 j (by simp [fz])).trans rfl))))) ck10_46 (Nat.le_of_ble_eq_true rfl) rfl (fun _ => ⟨_, rfl⟩) ⟨_, _, rfl⟩ ⟨Nat.le_of_ble_eq_true rfl, Nat.le_of_ble_eq_true rfl⟩ rfl hl.1 rfl (Nat.le_of_ble_eq_true rfl) dX10_copyFrom_30 ⟨Nat.le_refl 0, Nat.le_refl 0⟩) X28 (fun t39 H lc q37 X38 => ?_)
  unfold po_sncopy_106_35 at q37
  obtain ⟨q40, q41, q42⟩ := q37
  have F43 : Fr [(94, 0), (94, 1), (94, 2), (94, 3), (94, 4), (101, 4), (101, 5), (101, 6), (101, 7), (101, 8), (101, 9), (101, 10), (106, 4)] [95, 96, 97, 98, 102, 103, 104, 105, 107, 108, 109, 299, 300] τ t39 := Fr_call F36 q41 (by decide)
  exact r_vret S hr hlk X38 ⟨q40, F43, q42, (((q41 94 2 (by decide)).trans ((q34 94 2 (by decide)).trans (q21.trans z5))).trans (rfl.symm.trans z5).symm), (((q41 101 8 (by decide)).trans (q35.trans z31)).trans (((q20 30 8 (by decide)).trans rfl).symm.trans z31).symm), (((q41 94 0 (by decide)).trans ((q34 94 0 (by decide)).trans (q22.trans z8))).trans (rfl.symm.trans z8).symm), (((q41 94 1 (by decide)).trans ((q34 94 1 (by decide)).trans (q23.trans z11))).trans (rfl.symm.trans z11).symm), (((q41 94 3 (by decide)).trans ((q34 94 3 (by decide)).trans (q24.trans z14))).trans (rfl.symm.trans z14).symm), (((q41 94 4 (by decide)).trans ((q34 94 4 (by decide)).trans (q25.trans z17))).trans (rfl.symm.trans z17).symm)⟩ dX10_copyFrom_33
def po_wcopy_111_22 (τ : Tau)     (u : Tau) : Prop := Inv u ∧ Fr [(112, 0), (112, 1), (112, 2), (112, 3), (112, 4), (119, 4), (119, 5), (119, 6), (119, 7), (119, 8), (119, 9), (119, 10), (124, 4)] [113, 114, 115, 116, 120, 121, 122, 123, 125, 126, 127, 317, 318] τ u ∧ YB u ∧ u 112 2 = τ 23 2 ∧ u 119 8 = τ 30 8 ∧ u 112 0 = τ 23 0 ∧ u 112 1 = τ 23 1 ∧ u 112 3 = τ 23 3 ∧ u 112 4 = τ 23 4
set_option maxHeartbeats 4000000 in
set_option maxRecDepth 100000 in
theorem c_wcopy_111_22 (l : Launch) (G : Gx) (τ : Tau) (hI : Inv τ) (hYB : YB τ) (hYW : YW τ) : Cv l G yX10_copyFrom cX10_copyFrom 2 2 81 [.ref (G.2.2.2.1 111), .ref (G.2.2.2.1 22)] τ (po_wcopy_111_22 τ    ) := by
  unfold Cv
  refine C_of (own := RX10) (by decide) rfl (Nat.le_of_ble_eq_true rfl) ?_
  intro p e s m below meth c ls S hr hlk X hl
  have hl : lv_has ls 2 [(0, .ref (G.2.2.2.1 111)), (1, .ref (G.2.2.2.1 22))] := hl
  refine r_aload_n S dX10_copyFrom_0 rfl (lv_at hl 0 rfl) ?_
  refine r_get (K := 22) (v := .ref (G.2.2.2.1 112)) S X (Nat.le_of_ble_eq_true rfl) rfl lk10_12_8 (fun _ => ⟨_, rfl, rfl⟩) dX10_copyFrom_1 ?_
  refine r_aload_n S dX10_copyFrom_4 rfl (lv_at hl 1 rfl) ?_
  refine r_get (K := 22) (v := .ref (G.2.2.2.1 23)) S X (Nat.le_of_ble_eq_true rfl) rfl lk10_12_8 (fun _ => ⟨_, rfl, rfl⟩) dX10_copyFrom_5 ?_
  refine r_kv (q_V (As := [.ref (G.2.2.2.1 23)]) (rest := []) (K := 4) (ci := 2) S X (c_pcopy_112_23 l G τ hI ) ck10_32 (Nat.le_of_ble_eq_true rfl) rfl (fun _ => ⟨_, rfl⟩) ⟨_, _, rfl⟩ ⟨Nat.le_of_ble_eq_true rfl, Nat.le_of_ble_eq_true rfl⟩ rfl hl.1 rfl (Nat.le_of_ble_eq_true rfl) dX10_copyFrom_8 ⟨Nat.le_refl 0, Nat.le_refl 0⟩) X (fun t3 H lc q1 X2 => ?_)
  unfold po_pcopy_112_23 at q1
  obtain ⟨v4, z5⟩ : ∃ x, τ 23 2 = x := ⟨_, rfl⟩
  have r6 : R (0) (9) v4 := rd hI rfl z5
  obtain ⟨v7, z8⟩ : ∃ x, τ 23 0 = x := ⟨_, rfl⟩
  have r9 : R (0) (8) v7 := rd hI rfl z8
  obtain ⟨v10, z11⟩ : ∃ x, τ 23 1 = x := ⟨_, rfl⟩
  have r12 : R (0) (9) v10 := rd hI rfl z11
  obtain ⟨v13, z14⟩ : ∃ x, τ 23 3 = x := ⟨_, rfl⟩
  have r15 : R (0) (10) v13 := rd hI rfl z14
  obtain ⟨v16, z17⟩ : ∃ x, τ 23 4 = x := ⟨_, rfl⟩
  have r18 := R_any v16
  obtain ⟨q19, q20, q21, q22, q23, q24, q25⟩ := q1
  have F26 : Fr [(112, 0), (112, 1), (112, 2), (112, 3), (112, 4), (119, 4), (119, 5), (119, 6), (119, 7), (119, 8), (119, 9), (119, 10), (124, 4)] [113, 114, 115, 116, 120, 121, 122, 123, 125, 126, 127, 317, 318] τ t3 := Fr_call Fr_rfl q20 (by decide)
  refine r_aload_n S dX10_copyFrom_11 rfl (lv_at hl 0 rfl) ?_
  refine r_get (K := 22) (v := .ref (G.2.2.2.1 119)) S X2 (Nat.le_of_ble_eq_true rfl) rfl lk10_21_8 (fun _ => ⟨_, rfl, rfl⟩) dX10_copyFrom_12 ?_
  refine r_aload_n S dX10_copyFrom_15 rfl (lv_at hl 1 rfl) ?_
  refine r_get (K := 22) (v := .ref (G.2.2.2.1 30)) S X2 (Nat.le_of_ble_eq_true rfl) rfl lk10_21_8 (fun _ => ⟨_, rfl, rfl⟩) dX10_copyFrom_16 ?_
  refine r_kv (q_V (As := [.ref (G.2.2.2.1 30)]) (rest := []) (K := 23) (ci := 3) S X2 (c_scopy_119_30 l G t3 q19 ) ck10_43 (Nat.le_of_ble_eq_true rfl) rfl (fun _ => ⟨_, rfl⟩) ⟨_, _, rfl⟩ ⟨Nat.le_of_ble_eq_true rfl, Nat.le_of_ble_eq_true rfl⟩ rfl hl.1 rfl (Nat.le_of_ble_eq_true rfl) dX10_copyFrom_19 ⟨Nat.le_refl 0, Nat.le_refl 0⟩) X2 (fun t29 H lc q27 X28 => ?_)
  unfold po_scopy_119_30 at q27
  obtain ⟨v30, z31⟩ : ∃ x, t3 30 8 = x := ⟨_, rfl⟩
  have r32 : R (-1) (8) v30 := rd q19 rfl z31
  obtain ⟨q33, q34, q35⟩ := q27
  have F36 : Fr [(112, 0), (112, 1), (112, 2), (112, 3), (112, 4), (119, 4), (119, 5), (119, 6), (119, 7), (119, 8), (119, 9), (119, 10), (124, 4)] [113, 114, 115, 116, 120, 121, 122, 123, 125, 126, 127, 317, 318] τ t29 := Fr_call F26 q34 (by decide)
  refine r_aload_n S dX10_copyFrom_22 rfl (lv_at hl 0 rfl) ?_
  refine r_get (K := 22) (v := .ref (G.2.2.2.1 124)) S X28 (Nat.le_of_ble_eq_true rfl) rfl lk10_28_8 (fun _ => ⟨_, rfl, rfl⟩) dX10_copyFrom_23 ?_
  refine r_aload_n S dX10_copyFrom_26 rfl (lv_at hl 1 rfl) ?_
  refine r_get (K := 22) (v := .ref (G.2.2.2.1 35)) S X28 (Nat.le_of_ble_eq_true rfl) rfl lk10_28_8 (fun _ => ⟨_, rfl, rfl⟩) dX10_copyFrom_27 ?_
  refine r_kv (q_V (As := [.ref (G.2.2.2.1 35)]) (rest := []) (K := 17) (ci := 5) S X28 (c_sncopy_124_35 l G t29 q33 (YB_eq hYB (fun j => ((q34 125 j (by simp [fz])).trans ((q20 125 j (by simp [fz])).trans rfl))) (fun j => ((q34 126 j (by simp [fz])).trans ((q20 126 j (by simp [fz])).trans rfl)))) (YW_eq hYW (fun j => ((q34 36 j (by simp [fz])).trans ((q20 36 j (by simp [fz])).trans rfl))) (fun j => ((q34 37 j (by simp [fz])).trans ((q20 37 j (by simp [fz])).trans rfl))))) ck10_46 (Nat.le_of_ble_eq_true rfl) rfl (fun _ => ⟨_, rfl⟩) ⟨_, _, rfl⟩ ⟨Nat.le_of_ble_eq_true rfl, Nat.le_of_ble_eq_true rfl⟩ rfl hl.1 rfl (Nat.le_of_ble_eq_true rfl) dX10_copyFrom_30 ⟨Nat.le_refl 0, Nat.le_refl 0⟩) X28 (fun t39 H lc q37 X38 => ?_)
  unfold po_sncopy_124_35 at q37
  obtain ⟨q40, q41, q42⟩ := q37
  have F43 : Fr [(112, 0), (112, 1), (112, 2), (112, 3), (112, 4), (119, 4), (119, 5), (119, 6), (119, 7), (119, 8), (119, 9), (119, 10), (124, 4)] [113, 114, 115, 116, 120, 121, 122, 123, 125, 126, 127, 317, 318] τ t39 := Fr_call F36 q41 (by decide)
  exact r_vret S hr hlk X38 ⟨q40, F43, q42, (((q41 112 2 (by decide)).trans ((q34 112 2 (by decide)).trans (q21.trans z5))).trans (rfl.symm.trans z5).symm), (((q41 119 8 (by decide)).trans (q35.trans z31)).trans (((q20 30 8 (by decide)).trans rfl).symm.trans z31).symm), (((q41 112 0 (by decide)).trans ((q34 112 0 (by decide)).trans (q22.trans z8))).trans (rfl.symm.trans z8).symm), (((q41 112 1 (by decide)).trans ((q34 112 1 (by decide)).trans (q23.trans z11))).trans (rfl.symm.trans z11).symm), (((q41 112 3 (by decide)).trans ((q34 112 3 (by decide)).trans (q24.trans z14))).trans (rfl.symm.trans z14).symm), (((q41 112 4 (by decide)).trans ((q34 112 4 (by decide)).trans (q25.trans z17))).trans (rfl.symm.trans z17).symm)⟩ dX10_copyFrom_33
def po_wcopy_22_93 (τ : Tau)     (u : Tau) : Prop := Inv u ∧ Fr [(23, 0), (23, 1), (23, 2), (23, 3), (23, 4), (30, 4), (30, 5), (30, 6), (30, 7), (30, 8), (30, 9), (30, 10), (35, 4)] [24, 25, 26, 27, 31, 32, 33, 34, 36, 37, 38, 228, 229] τ u ∧ YW u ∧ u 23 2 = τ 94 2 ∧ u 30 8 = τ 101 8 ∧ u 23 0 = τ 94 0 ∧ u 23 1 = τ 94 1 ∧ u 23 3 = τ 94 3 ∧ u 23 4 = τ 94 4
set_option maxHeartbeats 4000000 in
set_option maxRecDepth 100000 in
theorem c_wcopy_22_93 (l : Launch) (G : Gx) (τ : Tau) (hI : Inv τ) (hYW : YW τ) (hYA : YA τ) : Cv l G yX10_copyFrom cX10_copyFrom 2 2 81 [.ref (G.2.2.2.1 22), .ref (G.2.2.2.1 93)] τ (po_wcopy_22_93 τ    ) := by
  unfold Cv
  refine C_of (own := RX10) (by decide) rfl (Nat.le_of_ble_eq_true rfl) ?_
  intro p e s m below meth c ls S hr hlk X hl
  have hl : lv_has ls 2 [(0, .ref (G.2.2.2.1 22)), (1, .ref (G.2.2.2.1 93))] := hl
  refine r_aload_n S dX10_copyFrom_0 rfl (lv_at hl 0 rfl) ?_
  refine r_get (K := 22) (v := .ref (G.2.2.2.1 23)) S X (Nat.le_of_ble_eq_true rfl) rfl lk10_12_8 (fun _ => ⟨_, rfl, rfl⟩) dX10_copyFrom_1 ?_
  refine r_aload_n S dX10_copyFrom_4 rfl (lv_at hl 1 rfl) ?_
  refine r_get (K := 22) (v := .ref (G.2.2.2.1 94)) S X (Nat.le_of_ble_eq_true rfl) rfl lk10_12_8 (fun _ => ⟨_, rfl, rfl⟩) dX10_copyFrom_5 ?_
  refine r_kv (q_V (As := [.ref (G.2.2.2.1 94)]) (rest := []) (K := 4) (ci := 2) S X (c_pcopy_23_94 l G τ hI ) ck10_32 (Nat.le_of_ble_eq_true rfl) rfl (fun _ => ⟨_, rfl⟩) ⟨_, _, rfl⟩ ⟨Nat.le_of_ble_eq_true rfl, Nat.le_of_ble_eq_true rfl⟩ rfl hl.1 rfl (Nat.le_of_ble_eq_true rfl) dX10_copyFrom_8 ⟨Nat.le_refl 0, Nat.le_refl 0⟩) X (fun t3 H lc q1 X2 => ?_)
  unfold po_pcopy_23_94 at q1
  obtain ⟨v4, z5⟩ : ∃ x, τ 94 2 = x := ⟨_, rfl⟩
  have r6 : R (0) (9) v4 := rd hI rfl z5
  obtain ⟨v7, z8⟩ : ∃ x, τ 94 0 = x := ⟨_, rfl⟩
  have r9 : R (0) (8) v7 := rd hI rfl z8
  obtain ⟨v10, z11⟩ : ∃ x, τ 94 1 = x := ⟨_, rfl⟩
  have r12 : R (0) (9) v10 := rd hI rfl z11
  obtain ⟨v13, z14⟩ : ∃ x, τ 94 3 = x := ⟨_, rfl⟩
  have r15 : R (0) (10) v13 := rd hI rfl z14
  obtain ⟨v16, z17⟩ : ∃ x, τ 94 4 = x := ⟨_, rfl⟩
  have r18 := R_any v16
  obtain ⟨q19, q20, q21, q22, q23, q24, q25⟩ := q1
  have F26 : Fr [(23, 0), (23, 1), (23, 2), (23, 3), (23, 4), (30, 4), (30, 5), (30, 6), (30, 7), (30, 8), (30, 9), (30, 10), (35, 4)] [24, 25, 26, 27, 31, 32, 33, 34, 36, 37, 38, 228, 229] τ t3 := Fr_call Fr_rfl q20 (by decide)
  refine r_aload_n S dX10_copyFrom_11 rfl (lv_at hl 0 rfl) ?_
  refine r_get (K := 22) (v := .ref (G.2.2.2.1 30)) S X2 (Nat.le_of_ble_eq_true rfl) rfl lk10_21_8 (fun _ => ⟨_, rfl, rfl⟩) dX10_copyFrom_12 ?_
  refine r_aload_n S dX10_copyFrom_15 rfl (lv_at hl 1 rfl) ?_
  refine r_get (K := 22) (v := .ref (G.2.2.2.1 101)) S X2 (Nat.le_of_ble_eq_true rfl) rfl lk10_21_8 (fun _ => ⟨_, rfl, rfl⟩) dX10_copyFrom_16 ?_
  refine r_kv (q_V (As := [.ref (G.2.2.2.1 101)]) (rest := []) (K := 23) (ci := 3) S X2 (c_scopy_30_101 l G t3 q19 ) ck10_43 (Nat.le_of_ble_eq_true rfl) rfl (fun _ => ⟨_, rfl⟩) ⟨_, _, rfl⟩ ⟨Nat.le_of_ble_eq_true rfl, Nat.le_of_ble_eq_true rfl⟩ rfl hl.1 rfl (Nat.le_of_ble_eq_true rfl) dX10_copyFrom_19 ⟨Nat.le_refl 0, Nat.le_refl 0⟩) X2 (fun t29 H lc q27 X28 => ?_)
  unfold po_scopy_30_101 at q27
  obtain ⟨v30, z31⟩ : ∃ x, t3 101 8 = x := ⟨_, rfl⟩
  have r32 : R (-1) (8) v30 := rd q19 rfl z31
  obtain ⟨q33, q34, q35⟩ := q27
  have F36 : Fr [(23, 0), (23, 1), (23, 2), (23, 3), (23, 4), (30, 4), (30, 5), (30, 6), (30, 7), (30, 8), (30, 9), (30, 10), (35, 4)] [24, 25, 26, 27, 31, 32, 33, 34, 36, 37, 38, 228, 229] τ t29 := Fr_call F26 q34 (by decide)
  refine r_aload_n S dX10_copyFrom_22 rfl (lv_at hl 0 rfl) ?_
  refine r_get (K := 22) (v := .ref (G.2.2.2.1 35)) S X28 (Nat.le_of_ble_eq_true rfl) rfl lk10_28_8 (fun _ => ⟨_, rfl, rfl⟩) dX10_copyFrom_23 ?_
  refine r_aload_n S dX10_copyFrom_26 rfl (lv_at hl 1 rfl) ?_
  refine r_get (K := 22) (v := .ref (G.2.2.2.1 106)) S X28 (Nat.le_of_ble_eq_true rfl) rfl lk10_28_8 (fun _ => ⟨_, rfl, rfl⟩) dX10_copyFrom_27 ?_
  refine r_kv (q_V (As := [.ref (G.2.2.2.1 106)]) (rest := []) (K := 17) (ci := 5) S X28 (c_sncopy_35_106 l G t29 q33 (YW_eq hYW (fun j => ((q34 36 j (by simp [fz])).trans ((q20 36 j (by simp [fz])).trans rfl))) (fun j => ((q34 37 j (by simp [fz])).trans ((q20 37 j (by simp [fz])).trans rfl)))) (YA_eq hYA (fun j => ((q34 107 j (by simp [fz])).trans ((q20 107 j (by simp [fz])).trans rfl))) (fun j => ((q34 108 j (by simp [fz])).trans ((q20 108 j (by simp [fz])).trans rfl))))) ck10_46 (Nat.le_of_ble_eq_true rfl) rfl (fun _ => ⟨_, rfl⟩) ⟨_, _, rfl⟩ ⟨Nat.le_of_ble_eq_true rfl, Nat.le_of_ble_eq_true rfl⟩ rfl hl.1 rfl (Nat.le_of_ble_eq_true rfl) dX10_copyFrom_30 ⟨Nat.le_refl 0, Nat.le_refl 0⟩) X28 (fun t39 H lc q37 X38 => ?_)
  unfold po_sncopy_35_106 at q37
  obtain ⟨q40, q41, q42⟩ := q37
  have F43 : Fr [(23, 0), (23, 1), (23, 2), (23, 3), (23, 4), (30, 4), (30, 5), (30, 6), (30, 7), (30, 8), (30, 9), (30, 10), (35, 4)] [24, 25, 26, 27, 31, 32, 33, 34, 36, 37, 38, 228, 229] τ t39 := Fr_call F36 q41 (by decide)
  exact r_vret S hr hlk X38 ⟨q40, F43, q42, (((q41 23 2 (by decide)).trans ((q34 23 2 (by decide)).trans (q21.trans z5))).trans (rfl.symm.trans z5).symm), (((q41 30 8 (by decide)).trans (q35.trans z31)).trans (((q20 101 8 (by decide)).trans rfl).symm.trans z31).symm), (((q41 23 0 (by decide)).trans ((q34 23 0 (by decide)).trans (q22.trans z8))).trans (rfl.symm.trans z8).symm), (((q41 23 1 (by decide)).trans ((q34 23 1 (by decide)).trans (q23.trans z11))).trans (rfl.symm.trans z11).symm), (((q41 23 3 (by decide)).trans ((q34 23 3 (by decide)).trans (q24.trans z14))).trans (rfl.symm.trans z14).symm), (((q41 23 4 (by decide)).trans ((q34 23 4 (by decide)).trans (q25.trans z17))).trans (rfl.symm.trans z17).symm)⟩ dX10_copyFrom_33
def po_wcopy_22_111 (τ : Tau)     (u : Tau) : Prop := Inv u ∧ Fr [(23, 0), (23, 1), (23, 2), (23, 3), (23, 4), (30, 4), (30, 5), (30, 6), (30, 7), (30, 8), (30, 9), (30, 10), (35, 4)] [24, 25, 26, 27, 31, 32, 33, 34, 36, 37, 38, 228, 229] τ u ∧ YW u ∧ u 23 2 = τ 112 2 ∧ u 30 8 = τ 119 8 ∧ u 23 0 = τ 112 0 ∧ u 23 1 = τ 112 1 ∧ u 23 3 = τ 112 3 ∧ u 23 4 = τ 112 4
set_option maxHeartbeats 4000000 in
set_option maxRecDepth 100000 in
theorem c_wcopy_22_111 (l : Launch) (G : Gx) (τ : Tau) (hI : Inv τ) (hYW : YW τ) (hYB : YB τ) : Cv l G yX10_copyFrom cX10_copyFrom 2 2 81 [.ref (G.2.2.2.1 22), .ref (G.2.2.2.1 111)] τ (po_wcopy_22_111 τ    ) := by
  unfold Cv
  refine C_of (own := RX10) (by decide) rfl (Nat.le_of_ble_eq_true rfl) ?_
  intro p e s m below meth c ls S hr hlk X hl
  have hl : lv_has ls 2 [(0, .ref (G.2.2.2.1 22)), (1, .ref (G.2.2.2.1 111))] := hl
  refine r_aload_n S dX10_copyFrom_0 rfl (lv_at hl 0 rfl) ?_
  refine r_get (K := 22) (v := .ref (G.2.2.2.1 23)) S X (Nat.le_of_ble_eq_true rfl) rfl lk10_12_8 (fun _ => ⟨_, rfl, rfl⟩) dX10_copyFrom_1 ?_
  refine r_aload_n S dX10_copyFrom_4 rfl (lv_at hl 1 rfl) ?_
  refine r_get (K := 22) (v := .ref (G.2.2.2.1 112)) S X (Nat.le_of_ble_eq_true rfl) rfl lk10_12_8 (fun _ => ⟨_, rfl, rfl⟩) dX10_copyFrom_5 ?_
  refine r_kv (q_V (As := [.ref (G.2.2.2.1 112)]) (rest := []) (K := 4) (ci := 2) S X (c_pcopy_23_112 l G τ hI ) ck10_32 (Nat.le_of_ble_eq_true rfl) rfl (fun _ => ⟨_, rfl⟩) ⟨_, _, rfl⟩ ⟨Nat.le_of_ble_eq_true rfl, Nat.le_of_ble_eq_true rfl⟩ rfl hl.1 rfl (Nat.le_of_ble_eq_true rfl) dX10_copyFrom_8 ⟨Nat.le_refl 0, Nat.le_refl 0⟩) X (fun t3 H lc q1 X2 => ?_)
  unfold po_pcopy_23_112 at q1
  obtain ⟨v4, z5⟩ : ∃ x, τ 112 2 = x := ⟨_, rfl⟩
  have r6 : R (0) (9) v4 := rd hI rfl z5
  obtain ⟨v7, z8⟩ : ∃ x, τ 112 0 = x := ⟨_, rfl⟩
  have r9 : R (0) (8) v7 := rd hI rfl z8
  obtain ⟨v10, z11⟩ : ∃ x, τ 112 1 = x := ⟨_, rfl⟩
  have r12 : R (0) (9) v10 := rd hI rfl z11
  obtain ⟨v13, z14⟩ : ∃ x, τ 112 3 = x := ⟨_, rfl⟩
  have r15 : R (0) (10) v13 := rd hI rfl z14
  obtain ⟨v16, z17⟩ : ∃ x, τ 112 4 = x := ⟨_, rfl⟩
  have r18 := R_any v16
  obtain ⟨q19, q20, q21, q22, q23, q24, q25⟩ := q1
  have F26 : Fr [(23, 0), (23, 1), (23, 2), (23, 3), (23, 4), (30, 4), (30, 5), (30, 6), (30, 7), (30, 8), (30, 9), (30, 10), (35, 4)] [24, 25, 26, 27, 31, 32, 33, 34, 36, 37, 38, 228, 229] τ t3 := Fr_call Fr_rfl q20 (by decide)
  refine r_aload_n S dX10_copyFrom_11 rfl (lv_at hl 0 rfl) ?_
  refine r_get (K := 22) (v := .ref (G.2.2.2.1 30)) S X2 (Nat.le_of_ble_eq_true rfl) rfl lk10_21_8 (fun _ => ⟨_, rfl, rfl⟩) dX10_copyFrom_12 ?_
  refine r_aload_n S dX10_copyFrom_15 rfl (lv_at hl 1 rfl) ?_
  refine r_get (K := 22) (v := .ref (G.2.2.2.1 119)) S X2 (Nat.le_of_ble_eq_true rfl) rfl lk10_21_8 (fun _ => ⟨_, rfl, rfl⟩) dX10_copyFrom_16 ?_
  refine r_kv (q_V (As := [.ref (G.2.2.2.1 119)]) (rest := []) (K := 23) (ci := 3) S X2 (c_scopy_30_119 l G t3 q19 ) ck10_43 (Nat.le_of_ble_eq_true rfl) rfl (fun _ => ⟨_, rfl⟩) ⟨_, _, rfl⟩ ⟨Nat.le_of_ble_eq_true rfl, Nat.le_of_ble_eq_true rfl⟩ rfl hl.1 rfl (Nat.le_of_ble_eq_true rfl) dX10_copyFrom_19 ⟨Nat.le_refl 0, Nat.le_refl 0⟩) X2 (fun t29 H lc q27 X28 => ?_)
  unfold po_scopy_30_119 at q27
  obtain ⟨v30, z31⟩ : ∃ x, t3 119 8 = x := ⟨_, rfl⟩
  have r32 : R (-1) (8) v30 := rd q19 rfl z31
  obtain ⟨q33, q34, q35⟩ := q27
  have F36 : Fr [(23, 0), (23, 1), (23, 2), (23, 3), (23, 4), (30, 4), (30, 5), (30, 6), (30, 7), (30, 8), (30, 9), (30, 10), (35, 4)] [24, 25, 26, 27, 31, 32, 33, 34, 36, 37, 38, 228, 229] τ t29 := Fr_call F26 q34 (by decide)
  refine r_aload_n S dX10_copyFrom_22 rfl (lv_at hl 0 rfl) ?_
  refine r_get (K := 22) (v := .ref (G.2.2.2.1 35)) S X28 (Nat.le_of_ble_eq_true rfl) rfl lk10_28_8 (fun _ => ⟨_, rfl, rfl⟩) dX10_copyFrom_23 ?_
  refine r_aload_n S dX10_copyFrom_26 rfl (lv_at hl 1 rfl) ?_
  refine r_get (K := 22) (v := .ref (G.2.2.2.1 124)) S X28 (Nat.le_of_ble_eq_true rfl) rfl lk10_28_8 (fun _ => ⟨_, rfl, rfl⟩) dX10_copyFrom_27 ?_
  refine r_kv (q_V (As := [.ref (G.2.2.2.1 124)]) (rest := []) (K := 17) (ci := 5) S X28 (c_sncopy_35_124 l G t29 q33 (YW_eq hYW (fun j => ((q34 36 j (by simp [fz])).trans ((q20 36 j (by simp [fz])).trans rfl))) (fun j => ((q34 37 j (by simp [fz])).trans ((q20 37 j (by simp [fz])).trans rfl)))) (YB_eq hYB (fun j => ((q34 125 j (by simp [fz])).trans ((q20 125 j (by simp [fz])).trans rfl))) (fun j => ((q34 126 j (by simp [fz])).trans ((q20 126 j (by simp [fz])).trans rfl))))) ck10_46 (Nat.le_of_ble_eq_true rfl) rfl (fun _ => ⟨_, rfl⟩) ⟨_, _, rfl⟩ ⟨Nat.le_of_ble_eq_true rfl, Nat.le_of_ble_eq_true rfl⟩ rfl hl.1 rfl (Nat.le_of_ble_eq_true rfl) dX10_copyFrom_30 ⟨Nat.le_refl 0, Nat.le_refl 0⟩) X28 (fun t39 H lc q37 X38 => ?_)
  unfold po_sncopy_35_124 at q37
  obtain ⟨q40, q41, q42⟩ := q37
  have F43 : Fr [(23, 0), (23, 1), (23, 2), (23, 3), (23, 4), (30, 4), (30, 5), (30, 6), (30, 7), (30, 8), (30, 9), (30, 10), (35, 4)] [24, 25, 26, 27, 31, 32, 33, 34, 36, 37, 38, 228, 229] τ t39 := Fr_call F36 q41 (by decide)
  exact r_vret S hr hlk X38 ⟨q40, F43, q42, (((q41 23 2 (by decide)).trans ((q34 23 2 (by decide)).trans (q21.trans z5))).trans (rfl.symm.trans z5).symm), (((q41 30 8 (by decide)).trans (q35.trans z31)).trans (((q20 119 8 (by decide)).trans rfl).symm.trans z31).symm), (((q41 23 0 (by decide)).trans ((q34 23 0 (by decide)).trans (q22.trans z8))).trans (rfl.symm.trans z8).symm), (((q41 23 1 (by decide)).trans ((q34 23 1 (by decide)).trans (q23.trans z11))).trans (rfl.symm.trans z11).symm), (((q41 23 3 (by decide)).trans ((q34 23 3 (by decide)).trans (q24.trans z14))).trans (rfl.symm.trans z14).symm), (((q41 23 4 (by decide)).trans ((q34 23 4 (by decide)).trans (q25.trans z17))).trans (rfl.symm.trans z17).symm)⟩ dX10_copyFrom_33
def po_X11_bit_x (τ : Tau)  (a0 a1 : Int32)   (r : Int32) (u : Tau) : Prop := u = τ ∧ R (0) (1) r ∧ ((a1.toInt = 0 → r.toInt = a0.toInt % 2) ∧ (a1.toInt = 1 → r.toInt = a0.toInt / 2))
set_option maxHeartbeats 4000000 in
set_option maxRecDepth 100000 in
theorem c_X11_bit_x (l : Launch) (G : Gx) (τ : Tau) (hI : Inv τ) (a0 : Int32) (a1 : Int32) (h_a0 : R (0) (3) a0) (h_a1 : R (0) (1) a1) : Ci l G yX11_bit cX11_bit 2 (some .int) 0 0 [.int a0, .int a1] τ (po_X11_bit_x τ  a0 a1  ) := by
  unfold Ci
  refine C_of (own := RX11) (by decide) rfl (Nat.le_of_ble_eq_true rfl) ?_
  intro p e s m below meth c ls S hr hlk X hl
  have hl : lv_has ls 2 [(0, .int a0), (1, .int a1)] := hl
  refine r_iload_n S dX11_bit_0 rfl (lv_at hl 0 rfl) ?_
  refine r_iload_n S dX11_bit_1 rfl (lv_at hl 1 rfl) ?_
  refine r_ishr S dX11_bit_2 (fun v1 z2 => ?_)
  have r4 : R (0) (3) v1 := i_shr z2 h_a0 h_a1 rfl
  refine r_iconst S dX11_bit_3 (by decide) (fun v5 z6 => ?_)
  have r7 := R_eq z6
  refine r_iand S dX11_bit_4 (fun v8 z9 => ?_)
  have r11 : R (0) (1) v8 := i_and2 z9 r4 r7 rfl
  have e12 := i_andle z9 r4 rfl
  exact r_ret S hr hlk X ⟨rfl, r11, (bx_bit h_a0 h_a1 z2 (show v5.toInt = 1 by omega) z9)⟩ rfl dX11_bit_5
def po_X11_image (τ : Tau)  (a0 : Int32)   (r : Int32) (u : Tau) : Prop := Inv u ∧ Fr [(94, 0), (94, 1), (94, 2), (94, 3), (94, 4), (101, 4), (101, 5), (101, 6), (101, 7), (101, 8), (101, 9), (101, 10), (106, 4), (112, 0), (112, 1), (112, 2), (112, 3), (112, 4), (119, 4), (119, 5), (119, 6), (119, 7), (119, 8), (119, 9), (119, 10), (124, 4), (0, 11)] [95, 96, 97, 98, 102, 103, 104, 105, 107, 108, 109, 113, 114, 115, 116, 120, 121, 122, 123, 125, 126, 127, 299, 300, 317, 318] τ u ∧ IM u ∧ YA u ∧ YB u ∧ R (0) (1) r ∧ (0 ≤ a0.toInt ∧ a0.toInt ≤ 1 → r.toInt = 1) ∧ (a0.toInt < 0 ∨ 1 < a0.toInt → r.toInt = 0) ∧ (a0.toInt = 0 → (u 0 11).toInt = (τ 0 11).toInt / 2 * 2 + 1) ∧ (a0.toInt = 1 → (u 0 11).toInt = (τ 0 11).toInt % 2 + 2) ∧ (a0.toInt < 0 ∨ 1 < a0.toInt → (u 0 11).toInt = (τ 0 11).toInt) ∧ ((a0.toInt = 0 → ∀ j, j < 5 → u 94 j = τ 23 j) ∧ (a0.toInt ≠ 0 → ∀ j, u 94 j = τ 94 j)) ∧ ((a0.toInt = 1 → ∀ j, j < 5 → u 112 j = τ 23 j) ∧ (a0.toInt ≠ 1 → ∀ j, u 112 j = τ 112 j))
set_option maxHeartbeats 4000000 in
set_option maxRecDepth 100000 in
theorem c_X11_image (l : Launch) (G : Gx) (τ : Tau) (hI : Inv τ) (a0 : Int32) (h_a0 : R (-2147483648) (2147483647) a0) (hWI : WI τ) (hIM : IM τ) (hYW : YW τ) (hYA : YA τ) (hYB : YB τ) : Ci l G yX11_image cX11_image 2 (some .boolean) 3 102 [.ref (G.2.2.2.1 0), .int a0] τ (po_X11_image τ  a0  ) := by
  unfold Ci
  refine C_of (own := RX11) (by decide) rfl (Nat.le_of_ble_eq_true rfl) ?_
  intro p e s m below meth c ls S hr hlk X hl
  have hl : lv_has ls 2 [(0, .ref (G.2.2.2.1 0)), (1, .int a0)] := hl
  obtain ⟨v1, z2⟩ : ∃ x, τ 0 11 = x := ⟨_, rfl⟩
  have r3 : R (0) (3) v1 := rd hI rfl z2
  refine r_iload_n S dX11_image_0 rfl (lv_at hl 1 rfl) ?_
  refine r_if_lt (tgt := 9) S dX11_image_1 (by decide) (fun c4 => ?_) (fun c4 => ?_)
  ·
    have r5 : R (-2147483648) (-1) a0 := ⟨by omega, by omega⟩
    refine r_iconst S dX11_image_9 (by decide) (fun v6 z7 => ?_)
    have r8 := R_eq z7
    exact r_ret S hr hlk X ⟨hI, Fr_rfl, hIM, hYA, hYB, (R_of r8 rfl), (by omega), (by omega), (by have h1_0 := congrArg Int32.toInt z2; have h2_0 := congrArg Int32.toInt z2; omega), (by have h1_0 := congrArg Int32.toInt z2; have h2_0 := congrArg Int32.toInt z2; omega), (by have h1_0 := congrArg Int32.toInt z2; have h2_0 := congrArg Int32.toInt z2; omega), ⟨(fun h => by exfalso; omega), fun _ j => rfl⟩, ⟨(fun h => by exfalso; omega), fun _ j => rfl⟩⟩ (nr_bool (R_of (lo := 0) (hi := 1) r8 rfl)) dX11_image_10
  ·
    have r9 : R (0) (2147483647) a0 := ⟨by omega, by omega⟩
    refine r_iload_n S dX11_image_4 rfl (lv_at hl 1 rfl) ?_
    refine r_iconst S dX11_image_5 (by decide) (fun v10 z11 => ?_)
    have r12 := R_eq z11
    refine r_icmp_lt (tgt := 11) S dX11_image_6 (by decide) (fun c13 => ?_) (fun c13 => ?_)
    ·
      have r14 : R (0) (1) a0 := ⟨by omega, by omega⟩
      refine r_aload_n S dX11_image_11 rfl (lv_at hl 0 rfl) ?_
      refine r_get (K := 0) (v := .ref (G.2.2.2.1 92)) S X (Nat.le_of_ble_eq_true rfl) rfl lk11_64_9 (fun _ => ⟨_, rfl, rfl⟩) dX11_image_12 ?_
      refine r_iload_n S dX11_image_15 rfl (lv_at hl 1 rfl) ?_
      refine r_aldO S X (ix_of r14 rfl) dX11_image_16 (fun n15 h16 h17 => ?_)
      rcases (show n15 = 0 ∨ n15 = 1 by omega) with rfl | rfl
      ·
        refine r_aload_n S dX11_image_17 rfl (lv_at hl 0 rfl) ?_
        refine r_get (K := 0) (v := .ref (G.2.2.2.1 22)) S X (Nat.le_of_ble_eq_true rfl) rfl lk11_42_9 (fun _ => ⟨_, rfl, rfl⟩) dX11_image_18 ?_
        refine r_kv (q_V (As := [.ref (G.2.2.2.1 22)]) (rest := []) (K := 22) (ci := 8) S X (c_wcopy_93_22 l G τ hI hYA hYW) ck11_301 (Nat.le_of_ble_eq_true rfl) rfl (fun _ => ⟨_, rfl⟩) ⟨_, _, rfl⟩ ⟨Nat.le_of_ble_eq_true rfl, Nat.le_of_ble_eq_true rfl⟩ rfl hl.1 rfl (Nat.le_of_ble_eq_true rfl) dX11_image_21 ⟨Nat.le_refl 0, Nat.le_refl 0⟩) X (fun t20 H lc q18 X19 => ?_)
        unfold po_wcopy_93_22 at q18
        obtain ⟨v21, z22⟩ : ∃ x, τ 23 2 = x := ⟨_, rfl⟩
        have r23 : R (0) (9) v21 := rd hI rfl z22
        obtain ⟨v24, z25⟩ : ∃ x, τ 30 8 = x := ⟨_, rfl⟩
        have r26 : R (-1) (8) v24 := rd hI rfl z25
        obtain ⟨v27, z28⟩ : ∃ x, τ 23 0 = x := ⟨_, rfl⟩
        have r29 : R (0) (8) v27 := rd hI rfl z28
        obtain ⟨v30, z31⟩ : ∃ x, τ 23 1 = x := ⟨_, rfl⟩
        have r32 : R (0) (9) v30 := rd hI rfl z31
        obtain ⟨v33, z34⟩ : ∃ x, τ 23 3 = x := ⟨_, rfl⟩
        have r35 : R (0) (10) v33 := rd hI rfl z34
        obtain ⟨v36, z37⟩ : ∃ x, τ 23 4 = x := ⟨_, rfl⟩
        have r38 := R_any v36
        obtain ⟨q39, q40, q41, q42, q43, q44, q45, q46, q47⟩ := q18
        have F48 : Fr [(94, 0), (94, 1), (94, 2), (94, 3), (94, 4), (101, 4), (101, 5), (101, 6), (101, 7), (101, 8), (101, 9), (101, 10), (106, 4), (112, 0), (112, 1), (112, 2), (112, 3), (112, 4), (119, 4), (119, 5), (119, 6), (119, 7), (119, 8), (119, 9), (119, 10), (124, 4), (0, 11)] [95, 96, 97, 98, 102, 103, 104, 105, 107, 108, 109, 113, 114, 115, 116, 120, 121, 122, 123, 125, 126, 127, 299, 300, 317, 318] τ t20 := Fr_call Fr_rfl q40 (by decide)
        refine r_aload_n S dX11_image_24 rfl (lv_at hl 0 rfl) ?_
        refine r_dup S dX11_image_25 rfl ?_
        refine r_geti (K := 0) S X19 (Nat.le_of_ble_eq_true rfl) rfl lk11_304_9 (fun _ => ⟨_, rfl, rfl⟩) ((q40 0 11 (by decide)).trans z2) dX11_image_26 ?_
        refine r_iconst S dX11_image_29 (by decide) (fun v49 z50 => ?_)
        have r51 := R_eq z50
        refine r_iload_n S dX11_image_30 rfl (lv_at hl 1 rfl) ?_
        refine r_ishl S dX11_image_31 (fun v52 z53 => ?_)
        have r55 : R (1) (2) v52 := i_shl z53 r51 r14 rfl
        refine r_ior S dX11_image_32 (fun v56 z57 => ?_)
        have r59 : R (0) (3) v56 := i_or 2 z57 r3 r55 rfl
        obtain ⟨h60, h61⟩ := bx_or (x := v1) (k := a0) ⟨by omega, by omega⟩ ⟨by omega, by omega⟩ (show v49.toInt = 1 by omega) z53 z57
        refine r_put (K := 0) (ty := .int) S X19 (Nat.le_of_ble_eq_true rfl) rfl lk11_304_9 (fun _ => ⟨_, rfl, Nat.le_of_ble_eq_true rfl, rfl⟩) (fun _ _ _ h => by cases h; exact ⟨rfl, rfl⟩) rfl rfl dX11_image_33 (fun t62 H lc M63 X64 => ?_)
        have I65 := Inv_mu q39 M63 (show Rg (kd 0) 11 v56 from (R_of (lo := 0) (hi := 3) r59 rfl))
        have F66 : Fr [(94, 0), (94, 1), (94, 2), (94, 3), (94, 4), (101, 4), (101, 5), (101, 6), (101, 7), (101, 8), (101, 9), (101, 10), (106, 4), (112, 0), (112, 1), (112, 2), (112, 3), (112, 4), (119, 4), (119, 5), (119, 6), (119, 7), (119, 8), (119, 9), (119, 10), (124, 4), (0, 11)] [95, 96, 97, 98, 102, 103, 104, 105, 107, 108, 109, 113, 114, 115, 116, 120, 121, 122, 123, 125, 126, 127, 299, 300, 317, 318] τ t62 := Fr_mu F48 M63 (by decide)
        refine r_iconst S dX11_image_36 (by decide) (fun v67 z68 => ?_)
        have r69 := R_eq z68
        exact r_ret S hr hlk X64 ⟨I65, F66, (IM_0 hIM hWI (((M63.2 94 2 (Or.inl (by decide))).trans (q42.trans z22)).trans (rfl.symm.trans z22).symm) (((M63.2 101 8 (Or.inl (by decide))).trans (q43.trans z25)).trans (rfl.symm.trans z25).symm) ((M63.2 112 2 (Or.inl (by decide))).trans ((q40 112 2 (by decide)).trans rfl)) ((M63.2 119 8 (Or.inl (by decide))).trans ((q40 119 8 (by decide)).trans rfl))), (YA_eq q41 (fun j => ((M63.2 107 j (Or.inl (by decide))).trans rfl)) (fun j => ((M63.2 108 j (Or.inl (by decide))).trans rfl))), (YB_eq hYB (fun j => ((M63.2 125 j (Or.inl (by decide))).trans ((q40 125 j (by simp [fz])).trans rfl))) (fun j => ((M63.2 126 j (Or.inl (by decide))).trans ((q40 126 j (by simp [fz])).trans rfl)))), (R_of r69 rfl), (by omega), (by omega), (by have h1_0 := congrArg Int32.toInt M63.1; have h2_0 := congrArg Int32.toInt z2; omega), (by have h1_0 := congrArg Int32.toInt M63.1; have h2_0 := congrArg Int32.toInt z2; omega), (by have h1_0 := congrArg Int32.toInt M63.1; have h2_0 := congrArg Int32.toInt z2; omega), ⟨fun h j hj => (match j, hj with | 0, _ => (((M63.2 94 0 (Or.inl (by decide))).trans (q44.trans z28)).trans (rfl.symm.trans z28).symm) | 1, _ => (((M63.2 94 1 (Or.inl (by decide))).trans (q45.trans z31)).trans (rfl.symm.trans z31).symm) | 2, _ => (((M63.2 94 2 (Or.inl (by decide))).trans (q42.trans z22)).trans (rfl.symm.trans z22).symm) | 3, _ => (((M63.2 94 3 (Or.inl (by decide))).trans (q46.trans z34)).trans (rfl.symm.trans z34).symm) | 4, _ => (((M63.2 94 4 (Or.inl (by decide))).trans (q47.trans z37)).trans (rfl.symm.trans z37).symm) | n + 5, h => absurd h (by omega)), (fun h => by exfalso; omega)⟩, ⟨(fun h => by exfalso; omega), fun _ j => ((M63.2 112 j (Or.inl (by decide))).trans ((q40 112 j (by simp [fz])).trans rfl))⟩⟩ (nr_bool (R_of (lo := 0) (hi := 1) r69 rfl)) dX11_image_37
      ·
        refine r_aload_n S dX11_image_17 rfl (lv_at hl 0 rfl) ?_
        refine r_get (K := 0) (v := .ref (G.2.2.2.1 22)) S X (Nat.le_of_ble_eq_true rfl) rfl lk11_42_9 (fun _ => ⟨_, rfl, rfl⟩) dX11_image_18 ?_
        refine r_kv (q_V (As := [.ref (G.2.2.2.1 22)]) (rest := []) (K := 22) (ci := 8) S X (c_wcopy_111_22 l G τ hI hYB hYW) ck11_301 (Nat.le_of_ble_eq_true rfl) rfl (fun _ => ⟨_, rfl⟩) ⟨_, _, rfl⟩ ⟨Nat.le_of_ble_eq_true rfl, Nat.le_of_ble_eq_true rfl⟩ rfl hl.1 rfl (Nat.le_of_ble_eq_true rfl) dX11_image_21 ⟨Nat.le_refl 0, Nat.le_refl 0⟩) X (fun t72 H lc q70 X71 => ?_)
        unfold po_wcopy_111_22 at q70
        obtain ⟨v73, z74⟩ : ∃ x, τ 23 2 = x := ⟨_, rfl⟩
        have r75 : R (0) (9) v73 := rd hI rfl z74
        obtain ⟨v76, z77⟩ : ∃ x, τ 30 8 = x := ⟨_, rfl⟩
        have r78 : R (-1) (8) v76 := rd hI rfl z77
        obtain ⟨v79, z80⟩ : ∃ x, τ 23 0 = x := ⟨_, rfl⟩
        have r81 : R (0) (8) v79 := rd hI rfl z80
        obtain ⟨v82, z83⟩ : ∃ x, τ 23 1 = x := ⟨_, rfl⟩
        have r84 : R (0) (9) v82 := rd hI rfl z83
        obtain ⟨v85, z86⟩ : ∃ x, τ 23 3 = x := ⟨_, rfl⟩
        have r87 : R (0) (10) v85 := rd hI rfl z86
        obtain ⟨v88, z89⟩ : ∃ x, τ 23 4 = x := ⟨_, rfl⟩
        have r90 := R_any v88
        obtain ⟨q91, q92, q93, q94, q95, q96, q97, q98, q99⟩ := q70
        have F100 : Fr [(94, 0), (94, 1), (94, 2), (94, 3), (94, 4), (101, 4), (101, 5), (101, 6), (101, 7), (101, 8), (101, 9), (101, 10), (106, 4), (112, 0), (112, 1), (112, 2), (112, 3), (112, 4), (119, 4), (119, 5), (119, 6), (119, 7), (119, 8), (119, 9), (119, 10), (124, 4), (0, 11)] [95, 96, 97, 98, 102, 103, 104, 105, 107, 108, 109, 113, 114, 115, 116, 120, 121, 122, 123, 125, 126, 127, 299, 300, 317, 318] τ t72 := Fr_call Fr_rfl q92 (by decide)
        refine r_aload_n S dX11_image_24 rfl (lv_at hl 0 rfl) ?_
        refine r_dup S dX11_image_25 rfl ?_
        refine r_geti (K := 0) S X71 (Nat.le_of_ble_eq_true rfl) rfl lk11_304_9 (fun _ => ⟨_, rfl, rfl⟩) ((q92 0 11 (by decide)).trans z2) dX11_image_26 ?_
        refine r_iconst S dX11_image_29 (by decide) (fun v101 z102 => ?_)
        have r103 := R_eq z102
        refine r_iload_n S dX11_image_30 rfl (lv_at hl 1 rfl) ?_
        refine r_ishl S dX11_image_31 (fun v104 z105 => ?_)
        have r107 : R (1) (2) v104 := i_shl z105 r103 r14 rfl
        refine r_ior S dX11_image_32 (fun v108 z109 => ?_)
        have r111 : R (0) (3) v108 := i_or 2 z109 r3 r107 rfl
        obtain ⟨h112, h113⟩ := bx_or (x := v1) (k := a0) ⟨by omega, by omega⟩ ⟨by omega, by omega⟩ (show v101.toInt = 1 by omega) z105 z109
        refine r_put (K := 0) (ty := .int) S X71 (Nat.le_of_ble_eq_true rfl) rfl lk11_304_9 (fun _ => ⟨_, rfl, Nat.le_of_ble_eq_true rfl, rfl⟩) (fun _ _ _ h => by cases h; exact ⟨rfl, rfl⟩) rfl rfl dX11_image_33 (fun t114 H lc M115 X116 => ?_)
        have I117 := Inv_mu q91 M115 (show Rg (kd 0) 11 v108 from (R_of (lo := 0) (hi := 3) r111 rfl))
        have F118 : Fr [(94, 0), (94, 1), (94, 2), (94, 3), (94, 4), (101, 4), (101, 5), (101, 6), (101, 7), (101, 8), (101, 9), (101, 10), (106, 4), (112, 0), (112, 1), (112, 2), (112, 3), (112, 4), (119, 4), (119, 5), (119, 6), (119, 7), (119, 8), (119, 9), (119, 10), (124, 4), (0, 11)] [95, 96, 97, 98, 102, 103, 104, 105, 107, 108, 109, 113, 114, 115, 116, 120, 121, 122, 123, 125, 126, 127, 299, 300, 317, 318] τ t114 := Fr_mu F100 M115 (by decide)
        refine r_iconst S dX11_image_36 (by decide) (fun v119 z120 => ?_)
        have r121 := R_eq z120
        exact r_ret S hr hlk X116 ⟨I117, F118, (IM_1 hIM hWI (((M115.2 112 2 (Or.inl (by decide))).trans (q94.trans z74)).trans (rfl.symm.trans z74).symm) (((M115.2 119 8 (Or.inl (by decide))).trans (q95.trans z77)).trans (rfl.symm.trans z77).symm) ((M115.2 94 2 (Or.inl (by decide))).trans ((q92 94 2 (by decide)).trans rfl)) ((M115.2 101 8 (Or.inl (by decide))).trans ((q92 101 8 (by decide)).trans rfl))), (YA_eq hYA (fun j => ((M115.2 107 j (Or.inl (by decide))).trans ((q92 107 j (by simp [fz])).trans rfl))) (fun j => ((M115.2 108 j (Or.inl (by decide))).trans ((q92 108 j (by simp [fz])).trans rfl)))), (YB_eq q93 (fun j => ((M115.2 125 j (Or.inl (by decide))).trans rfl)) (fun j => ((M115.2 126 j (Or.inl (by decide))).trans rfl))), (R_of r121 rfl), (by omega), (by omega), (by have h1_0 := congrArg Int32.toInt M115.1; have h2_0 := congrArg Int32.toInt z2; omega), (by have h1_0 := congrArg Int32.toInt M115.1; have h2_0 := congrArg Int32.toInt z2; omega), (by have h1_0 := congrArg Int32.toInt M115.1; have h2_0 := congrArg Int32.toInt z2; omega), ⟨(fun h => by exfalso; omega), fun _ j => ((M115.2 94 j (Or.inl (by decide))).trans ((q92 94 j (by simp [fz])).trans rfl))⟩, ⟨fun h j hj => (match j, hj with | 0, _ => (((M115.2 112 0 (Or.inl (by decide))).trans (q96.trans z80)).trans (rfl.symm.trans z80).symm) | 1, _ => (((M115.2 112 1 (Or.inl (by decide))).trans (q97.trans z83)).trans (rfl.symm.trans z83).symm) | 2, _ => (((M115.2 112 2 (Or.inl (by decide))).trans (q94.trans z74)).trans (rfl.symm.trans z74).symm) | 3, _ => (((M115.2 112 3 (Or.inl (by decide))).trans (q98.trans z86)).trans (rfl.symm.trans z86).symm) | 4, _ => (((M115.2 112 4 (Or.inl (by decide))).trans (q99.trans z89)).trans (rfl.symm.trans z89).symm) | n + 5, h => absurd h (by omega)), (fun h => by exfalso; omega)⟩⟩ (nr_bool (R_of (lo := 0) (hi := 1) r121 rfl)) dX11_image_37
    ·
      have r122 : R (2) (2147483647) a0 := ⟨by omega, by omega⟩
      refine r_iconst S dX11_image_9 (by decide) (fun v123 z124 => ?_)
      have r125 := R_eq z124
      exact r_ret S hr hlk X ⟨hI, Fr_rfl, hIM, hYA, hYB, (R_of r125 rfl), (by omega), (by omega), (by have h1_0 := congrArg Int32.toInt z2; have h2_0 := congrArg Int32.toInt z2; omega), (by have h1_0 := congrArg Int32.toInt z2; have h2_0 := congrArg Int32.toInt z2; omega), (by have h1_0 := congrArg Int32.toInt z2; have h2_0 := congrArg Int32.toInt z2; omega), ⟨(fun h => by exfalso; omega), fun _ j => rfl⟩, ⟨(fun h => by exfalso; omega), fun _ j => rfl⟩⟩ (nr_bool (R_of (lo := 0) (hi := 1) r125 rfl)) dX11_image_10
def po_X11_restore (τ : Tau)  (a0 : Int32)   (r : Int32) (u : Tau) : Prop := Inv u ∧ Fr [(23, 0), (23, 1), (23, 2), (23, 3), (23, 4), (30, 4), (30, 5), (30, 6), (30, 7), (30, 8), (30, 9), (30, 10), (35, 4), (0, 9)] [24, 25, 26, 27, 31, 32, 33, 34, 36, 37, 38, 228, 229] τ u ∧ WI u ∧ HI u ∧ YW u ∧ R (0) (1) r ∧ (a0.toInt = 0 → r.toInt = (τ 0 11).toInt % 2) ∧ (a0.toInt = 1 → r.toInt = (τ 0 11).toInt / 2) ∧ (a0.toInt < 0 ∨ 1 < a0.toInt → r.toInt = 0) ∧ ((r.toInt = 0 → ∀ j, u 23 j = τ 23 j) ∧ (r.toInt = 1 → a0.toInt = 0 → ∀ j, j < 5 → u 23 j = τ 94 j) ∧ (r.toInt = 1 → a0.toInt = 1 → ∀ j, j < 5 → u 23 j = τ 112 j))
set_option maxHeartbeats 4000000 in
set_option maxRecDepth 100000 in
theorem c_X11_restore (l : Launch) (G : Gx) (τ : Tau) (hI : Inv τ) (a0 : Int32) (h_a0 : R (-2147483648) (2147483647) a0) (hWI : WI τ) (hHI : HI τ) (hIM : IM τ) (hYW : YW τ) (hYA : YA τ) (hYB : YB τ) : Ci l G yX11_restore cX11_restore 2 (some .boolean) 3 102 [.ref (G.2.2.2.1 0), .int a0] τ (po_X11_restore τ  a0  ) := by
  unfold Ci
  refine C_of (own := RX11) (by decide) rfl (Nat.le_of_ble_eq_true rfl) ?_
  intro p e s m below meth c ls S hr hlk X hl
  have hl : lv_has ls 2 [(0, .ref (G.2.2.2.1 0)), (1, .int a0)] := hl
  obtain ⟨v1, z2⟩ : ∃ x, τ 0 11 = x := ⟨_, rfl⟩
  have r3 : R (0) (3) v1 := rd hI rfl z2
  refine r_iload_n S dX11_restore_0 rfl (lv_at hl 1 rfl) ?_
  refine r_if_lt (tgt := 20) S dX11_restore_1 (by decide) (fun c4 => ?_) (fun c4 => ?_)
  ·
    have r5 : R (-2147483648) (-1) a0 := ⟨by omega, by omega⟩
    refine r_iconst S dX11_restore_20 (by decide) (fun v6 z7 => ?_)
    have r8 := R_eq z7
    exact r_ret S hr hlk X ⟨hI, Fr_rfl, hWI, hHI, hYW, (R_of r8 rfl), (by have h1_0 := congrArg Int32.toInt z2; have h2_0 := congrArg Int32.toInt z2; omega), (by have h1_0 := congrArg Int32.toInt z2; have h2_0 := congrArg Int32.toInt z2; omega), (by omega), ⟨fun _ j => rfl, (fun h => by exfalso; omega), (fun h => by exfalso; omega)⟩⟩ (nr_bool (R_of (lo := 0) (hi := 1) r8 rfl)) dX11_restore_21
  ·
    have r9 : R (0) (2147483647) a0 := ⟨by omega, by omega⟩
    refine r_iload_n S dX11_restore_4 rfl (lv_at hl 1 rfl) ?_
    refine r_iconst S dX11_restore_5 (by decide) (fun v10 z11 => ?_)
    have r12 := R_eq z11
    refine r_icmp_ge (tgt := 20) S dX11_restore_6 (by decide) (fun c13 => ?_) (fun c13 => ?_)
    ·
      have r14 : R (2) (2147483647) a0 := ⟨by omega, by omega⟩
      refine r_iconst S dX11_restore_20 (by decide) (fun v15 z16 => ?_)
      have r17 := R_eq z16
      exact r_ret S hr hlk X ⟨hI, Fr_rfl, hWI, hHI, hYW, (R_of r17 rfl), (by have h1_0 := congrArg Int32.toInt z2; have h2_0 := congrArg Int32.toInt z2; omega), (by have h1_0 := congrArg Int32.toInt z2; have h2_0 := congrArg Int32.toInt z2; omega), (by omega), ⟨fun _ j => rfl, (fun h => by exfalso; omega), (fun h => by exfalso; omega)⟩⟩ (nr_bool (R_of (lo := 0) (hi := 1) r17 rfl)) dX11_restore_21
    ·
      have r18 : R (0) (1) a0 := ⟨by omega, by omega⟩
      refine r_aload_n S dX11_restore_9 rfl (lv_at hl 0 rfl) ?_
      refine r_geti (K := 0) S X (Nat.le_of_ble_eq_true rfl) rfl lk11_304_9 (fun _ => ⟨_, rfl, rfl⟩) z2 dX11_restore_10 ?_
      refine r_iload_n S dX11_restore_13 rfl (lv_at hl 1 rfl) ?_
      refine r_ki (q_S (As := [.int v1, .int a0]) (rest := []) S X (c_X11_bit_x l G τ hI v1 a0 r3 r18) ck11_135 ⟨Nat.le_of_ble_eq_true rfl, Nat.le_of_ble_eq_true rfl⟩ rfl hl.1 rfl (Nat.le_of_ble_eq_true rfl) dX11_restore_14 ⟨Nat.le_refl 0, Nat.le_refl 0⟩) X (fun v22 t21 H lc q19 X20 => ?_)
      unfold po_X11_bit_x at q19
      obtain ⟨q23, q24, q25⟩ := q19
      rw [q23] at X20
      refine r_if_ne (tgt := 22) S dX11_restore_17 (by decide) (fun c26 => ?_) (fun c26 => ?_)
      ·
        have r27 : R (1) (1) v22 := ⟨by omega, by omega⟩
        refine r_aload_n S dX11_restore_22 rfl (lv_at hl 0 rfl) ?_
        refine r_get (K := 0) (v := .ref (G.2.2.2.1 22)) S X20 (Nat.le_of_ble_eq_true rfl) rfl lk11_42_9 (fun _ => ⟨_, rfl, rfl⟩) dX11_restore_23 ?_
        refine r_aload_n S dX11_restore_26 rfl (lv_at hl 0 rfl) ?_
        refine r_get (K := 0) (v := .ref (G.2.2.2.1 92)) S X20 (Nat.le_of_ble_eq_true rfl) rfl lk11_64_9 (fun _ => ⟨_, rfl, rfl⟩) dX11_restore_27 ?_
        refine r_iload_n S dX11_restore_30 rfl (lv_at hl 1 rfl) ?_
        refine r_aldO S X20 (ix_of r18 rfl) dX11_restore_31 (fun n28 h29 h30 => ?_)
        rcases (show n28 = 0 ∨ n28 = 1 by omega) with rfl | rfl
        ·
          refine r_kv (q_V (As := [.ref (G.2.2.2.1 93)]) (rest := []) (K := 22) (ci := 8) S X20 (c_wcopy_22_93 l G τ hI hYW hYA) ck11_301 (Nat.le_of_ble_eq_true rfl) rfl (fun _ => ⟨_, rfl⟩) ⟨_, _, rfl⟩ ⟨Nat.le_of_ble_eq_true rfl, Nat.le_of_ble_eq_true rfl⟩ rfl hl.1 rfl (Nat.le_of_ble_eq_true rfl) dX11_restore_32 ⟨Nat.le_refl 0, Nat.le_refl 0⟩) X20 (fun t33 H lc q31 X32 => ?_)
          unfold po_wcopy_22_93 at q31
          obtain ⟨v34, z35⟩ : ∃ x, τ 94 2 = x := ⟨_, rfl⟩
          have r36 : R (0) (9) v34 := rd hI rfl z35
          obtain ⟨v37, z38⟩ : ∃ x, τ 101 8 = x := ⟨_, rfl⟩
          have r39 : R (-1) (8) v37 := rd hI rfl z38
          obtain ⟨v40, z41⟩ : ∃ x, τ 94 0 = x := ⟨_, rfl⟩
          have r42 : R (0) (8) v40 := rd hI rfl z41
          obtain ⟨v43, z44⟩ : ∃ x, τ 94 1 = x := ⟨_, rfl⟩
          have r45 : R (0) (9) v43 := rd hI rfl z44
          obtain ⟨v46, z47⟩ : ∃ x, τ 94 3 = x := ⟨_, rfl⟩
          have r48 : R (0) (10) v46 := rd hI rfl z47
          obtain ⟨v49, z50⟩ : ∃ x, τ 94 4 = x := ⟨_, rfl⟩
          have r51 := R_any v49
          obtain ⟨q52, q53, q54, q55, q56, q57, q58, q59, q60⟩ := q31
          have F61 : Fr [(23, 0), (23, 1), (23, 2), (23, 3), (23, 4), (30, 4), (30, 5), (30, 6), (30, 7), (30, 8), (30, 9), (30, 10), (35, 4), (0, 9)] [24, 25, 26, 27, 31, 32, 33, 34, 36, 37, 38, 228, 229] τ t33 := Fr_call Fr_rfl q53 (by decide)
          refine r_aload_n S dX11_restore_35 rfl (lv_at hl 0 rfl) ?_
          refine r_iconst S dX11_restore_36 (by decide) (fun v62 z63 => ?_)
          have r64 := R_eq z63
          refine r_put (K := 0) (ty := .int) S X32 (Nat.le_of_ble_eq_true rfl) rfl lk11_116_9 (fun _ => ⟨_, rfl, Nat.le_of_ble_eq_true rfl, rfl⟩) (fun _ _ _ h => by cases h; exact ⟨rfl, rfl⟩) rfl rfl dX11_restore_37 (fun t65 H lc M66 X67 => ?_)
          have I68 := Inv_mu q52 M66 (show Rg (kd 0) 9 v62 from (R_of (lo := 0) (hi := 8) r64 rfl))
          have F69 : Fr [(23, 0), (23, 1), (23, 2), (23, 3), (23, 4), (30, 4), (30, 5), (30, 6), (30, 7), (30, 8), (30, 9), (30, 10), (35, 4), (0, 9)] [24, 25, 26, 27, 31, 32, 33, 34, 36, 37, 38, 228, 229] τ t65 := Fr_mu F61 M66 (by decide)
          refine r_iconst S dX11_restore_40 (by decide) (fun v70 z71 => ?_)
          have r72 := R_eq z71
          exact r_ret S hr hlk X67 ⟨I68, F69, (WI_0 hIM (((M66.2 23 2 (Or.inl (by decide))).trans (q55.trans z35)).trans (rfl.symm.trans z35).symm) (((M66.2 30 8 (Or.inl (by decide))).trans (q56.trans z38)).trans (rfl.symm.trans z38).symm)), (HI_0 M66.1 (by omega)), (YW_eq q54 (fun j => ((M66.2 36 j (Or.inl (by decide))).trans rfl)) (fun j => ((M66.2 37 j (Or.inl (by decide))).trans rfl))), (R_of r72 rfl), (by have h1_0 := congrArg Int32.toInt ((M66.2 0 11 (Or.inr (by decide))).trans ((q53 0 11 (by decide)).trans z2)); have h2_0 := congrArg Int32.toInt z2; omega), (by have h1_0 := congrArg Int32.toInt ((M66.2 0 11 (Or.inr (by decide))).trans ((q53 0 11 (by decide)).trans z2)); have h2_0 := congrArg Int32.toInt z2; omega), (by omega), ⟨(fun h => by exfalso; omega), fun _ _ j hj => (match j, hj with | 0, _ => (((M66.2 23 0 (Or.inl (by decide))).trans (q57.trans z41)).trans (rfl.symm.trans z41).symm) | 1, _ => (((M66.2 23 1 (Or.inl (by decide))).trans (q58.trans z44)).trans (rfl.symm.trans z44).symm) | 2, _ => (((M66.2 23 2 (Or.inl (by decide))).trans (q55.trans z35)).trans (rfl.symm.trans z35).symm) | 3, _ => (((M66.2 23 3 (Or.inl (by decide))).trans (q59.trans z47)).trans (rfl.symm.trans z47).symm) | 4, _ => (((M66.2 23 4 (Or.inl (by decide))).trans (q60.trans z50)).trans (rfl.symm.trans z50).symm) | n + 5, h => absurd h (by omega)), (fun _ h => by exfalso; omega)⟩⟩ (nr_bool (R_of (lo := 0) (hi := 1) r72 rfl)) dX11_restore_41
        ·
          refine r_kv (q_V (As := [.ref (G.2.2.2.1 111)]) (rest := []) (K := 22) (ci := 8) S X20 (c_wcopy_22_111 l G τ hI hYW hYB) ck11_301 (Nat.le_of_ble_eq_true rfl) rfl (fun _ => ⟨_, rfl⟩) ⟨_, _, rfl⟩ ⟨Nat.le_of_ble_eq_true rfl, Nat.le_of_ble_eq_true rfl⟩ rfl hl.1 rfl (Nat.le_of_ble_eq_true rfl) dX11_restore_32 ⟨Nat.le_refl 0, Nat.le_refl 0⟩) X20 (fun t75 H lc q73 X74 => ?_)
          unfold po_wcopy_22_111 at q73
          obtain ⟨v76, z77⟩ : ∃ x, τ 112 2 = x := ⟨_, rfl⟩
          have r78 : R (0) (9) v76 := rd hI rfl z77
          obtain ⟨v79, z80⟩ : ∃ x, τ 119 8 = x := ⟨_, rfl⟩
          have r81 : R (-1) (8) v79 := rd hI rfl z80
          obtain ⟨v82, z83⟩ : ∃ x, τ 112 0 = x := ⟨_, rfl⟩
          have r84 : R (0) (8) v82 := rd hI rfl z83
          obtain ⟨v85, z86⟩ : ∃ x, τ 112 1 = x := ⟨_, rfl⟩
          have r87 : R (0) (9) v85 := rd hI rfl z86
          obtain ⟨v88, z89⟩ : ∃ x, τ 112 3 = x := ⟨_, rfl⟩
          have r90 : R (0) (10) v88 := rd hI rfl z89
          obtain ⟨v91, z92⟩ : ∃ x, τ 112 4 = x := ⟨_, rfl⟩
          have r93 := R_any v91
          obtain ⟨q94, q95, q96, q97, q98, q99, q100, q101, q102⟩ := q73
          have F103 : Fr [(23, 0), (23, 1), (23, 2), (23, 3), (23, 4), (30, 4), (30, 5), (30, 6), (30, 7), (30, 8), (30, 9), (30, 10), (35, 4), (0, 9)] [24, 25, 26, 27, 31, 32, 33, 34, 36, 37, 38, 228, 229] τ t75 := Fr_call Fr_rfl q95 (by decide)
          refine r_aload_n S dX11_restore_35 rfl (lv_at hl 0 rfl) ?_
          refine r_iconst S dX11_restore_36 (by decide) (fun v104 z105 => ?_)
          have r106 := R_eq z105
          refine r_put (K := 0) (ty := .int) S X74 (Nat.le_of_ble_eq_true rfl) rfl lk11_116_9 (fun _ => ⟨_, rfl, Nat.le_of_ble_eq_true rfl, rfl⟩) (fun _ _ _ h => by cases h; exact ⟨rfl, rfl⟩) rfl rfl dX11_restore_37 (fun t107 H lc M108 X109 => ?_)
          have I110 := Inv_mu q94 M108 (show Rg (kd 0) 9 v104 from (R_of (lo := 0) (hi := 8) r106 rfl))
          have F111 : Fr [(23, 0), (23, 1), (23, 2), (23, 3), (23, 4), (30, 4), (30, 5), (30, 6), (30, 7), (30, 8), (30, 9), (30, 10), (35, 4), (0, 9)] [24, 25, 26, 27, 31, 32, 33, 34, 36, 37, 38, 228, 229] τ t107 := Fr_mu F103 M108 (by decide)
          refine r_iconst S dX11_restore_40 (by decide) (fun v112 z113 => ?_)
          have r114 := R_eq z113
          exact r_ret S hr hlk X109 ⟨I110, F111, (WI_1 hIM (((M108.2 23 2 (Or.inl (by decide))).trans (q97.trans z77)).trans (rfl.symm.trans z77).symm) (((M108.2 30 8 (Or.inl (by decide))).trans (q98.trans z80)).trans (rfl.symm.trans z80).symm)), (HI_0 M108.1 (by omega)), (YW_eq q96 (fun j => ((M108.2 36 j (Or.inl (by decide))).trans rfl)) (fun j => ((M108.2 37 j (Or.inl (by decide))).trans rfl))), (R_of r114 rfl), (by have h1_0 := congrArg Int32.toInt ((M108.2 0 11 (Or.inr (by decide))).trans ((q95 0 11 (by decide)).trans z2)); have h2_0 := congrArg Int32.toInt z2; omega), (by have h1_0 := congrArg Int32.toInt ((M108.2 0 11 (Or.inr (by decide))).trans ((q95 0 11 (by decide)).trans z2)); have h2_0 := congrArg Int32.toInt z2; omega), (by omega), ⟨(fun h => by exfalso; omega), (fun _ h => by exfalso; omega), fun _ _ j hj => (match j, hj with | 0, _ => (((M108.2 23 0 (Or.inl (by decide))).trans (q99.trans z83)).trans (rfl.symm.trans z83).symm) | 1, _ => (((M108.2 23 1 (Or.inl (by decide))).trans (q100.trans z86)).trans (rfl.symm.trans z86).symm) | 2, _ => (((M108.2 23 2 (Or.inl (by decide))).trans (q97.trans z77)).trans (rfl.symm.trans z77).symm) | 3, _ => (((M108.2 23 3 (Or.inl (by decide))).trans (q101.trans z89)).trans (rfl.symm.trans z89).symm) | 4, _ => (((M108.2 23 4 (Or.inl (by decide))).trans (q102.trans z92)).trans (rfl.symm.trans z92).symm) | n + 5, h => absurd h (by omega))⟩⟩ (nr_bool (R_of (lo := 0) (hi := 1) r114 rfl)) dX11_restore_41
      ·
        have r115 : R (0) (0) v22 := ⟨by omega, by omega⟩
        refine r_iconst S dX11_restore_20 (by decide) (fun v116 z117 => ?_)
        have r118 := R_eq z117
        exact r_ret S hr hlk X20 ⟨hI, Fr_rfl, hWI, hHI, hYW, (R_of r118 rfl), (by have h1_0 := congrArg Int32.toInt z2; have h2_0 := congrArg Int32.toInt z2; omega), (by have h1_0 := congrArg Int32.toInt z2; have h2_0 := congrArg Int32.toInt z2; omega), (by omega), ⟨fun _ j => rfl, (fun h => by exfalso; omega), (fun h => by exfalso; omega)⟩⟩ (nr_bool (R_of (lo := 0) (hi := 1) r118 rfl)) dX11_restore_21
