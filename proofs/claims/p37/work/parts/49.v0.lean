def po_wcopyn_93_22 (τ : Tau)     (u : Tau) : Prop := Inv u ∧ Fr [(94, 0), (94, 1), (94, 2), (94, 3), (94, 4), (101, 4), (101, 5), (101, 6), (101, 7), (101, 8), (101, 9), (101, 10), (106, 4)] [95, 96, 97, 98, 102, 103, 104, 105, 107, 108, 109, 299, 300] τ u ∧ YA u ∧ u 94 2 = τ 23 2 ∧ u 101 8 = τ 30 8 ∧ u 94 0 = τ 23 0 ∧ u 94 1 = τ 23 1 ∧ u 94 3 = τ 23 3 ∧ u 94 4 = τ 23 4 ∧ NMq u 99 100 τ 28 29
set_option maxHeartbeats 4000000 in
set_option maxRecDepth 100000 in
theorem c_wcopyn_93_22 (l : Launch) (G : Gx) (τ : Tau) (hI : Inv τ) (hYA : YA τ) (hYW : YW τ) : Cv l G yX10_copyFrom cX10_copyFrom 2 2 81 [.ref (G.2.2.2.1 93), .ref (G.2.2.2.1 22)] τ (po_wcopyn_93_22 τ    ) := by
  unfold Cv
  refine C_of (own := RX10) (by decide) rfl (Nat.le_of_ble_eq_true rfl) ?_
  intro p e s m below meth c ls S hr hlk X hl
  have hl : lv_has ls 2 [(0, .ref (G.2.2.2.1 93)), (1, .ref (G.2.2.2.1 22))] := hl
  refine r_aload_n S dX10_copyFrom_0 rfl (lv_at hl 0 rfl) ?_
  refine r_get (K := 22) (v := .ref (G.2.2.2.1 94)) S X (Nat.le_of_ble_eq_true rfl) rfl lk10_12_8 (fun _ => ⟨_, rfl, rfl⟩) dX10_copyFrom_1 ?_
  refine r_aload_n S dX10_copyFrom_4 rfl (lv_at hl 1 rfl) ?_
  refine r_get (K := 22) (v := .ref (G.2.2.2.1 23)) S X (Nat.le_of_ble_eq_true rfl) rfl lk10_12_8 (fun _ => ⟨_, rfl, rfl⟩) dX10_copyFrom_5 ?_
  refine r_kv (q_V (As := [.ref (G.2.2.2.1 23)]) (rest := []) (K := 4) (ci := 2) S X (c_pcopyn_94_23 l G τ hI ) ck10_32 (Nat.le_of_ble_eq_true rfl) rfl (fun _ => ⟨_, rfl⟩) ⟨_, _, rfl⟩ ⟨Nat.le_of_ble_eq_true rfl, Nat.le_of_ble_eq_true rfl⟩ rfl hl.1 rfl (Nat.le_of_ble_eq_true rfl) dX10_copyFrom_8 ⟨Nat.le_refl 0, Nat.le_refl 0⟩) X (fun t3 H lc q1 X2 => ?_)
  unfold po_pcopyn_94_23 at q1
  obtain ⟨v4, z5⟩ : ∃ x, τ 23 2 = x := ⟨_, rfl⟩
  have r6 : R (0) (9) v4 := rd hI rfl z5
  obtain ⟨v7, z8⟩ : ∃ x, τ 23 0 = x := ⟨_, rfl⟩
  have r9 : R (0) (8) v7 := rd hI rfl z8
  obtain ⟨v10, z11⟩ : ∃ x, τ 23 1 = x := ⟨_, rfl⟩
  have r12 : R (0) (9) v10 := rd hI rfl z11
  obtain ⟨v13, z14⟩ : ∃ x, τ 23 3 = x := ⟨_, rfl⟩
  have r15 : R (0) (10) v13 := rd hI rfl z14
  obtain ⟨v16, z17⟩ : ∃ x, τ 23 4 = x := ⟨_, rfl⟩
  have r18 := R_any v16
  obtain ⟨q19, q20, q21, q22, q23, q24, q25, q26⟩ := q1
  have F27 : Fr [(94, 0), (94, 1), (94, 2), (94, 3), (94, 4), (101, 4), (101, 5), (101, 6), (101, 7), (101, 8), (101, 9), (101, 10), (106, 4)] [95, 96, 97, 98, 102, 103, 104, 105, 107, 108, 109, 299, 300] τ t3 := Fr_call Fr_rfl q20 (by decide)
  refine r_aload_n S dX10_copyFrom_11 rfl (lv_at hl 0 rfl) ?_
  refine r_get (K := 22) (v := .ref (G.2.2.2.1 101)) S X2 (Nat.le_of_ble_eq_true rfl) rfl lk10_21_8 (fun _ => ⟨_, rfl, rfl⟩) dX10_copyFrom_12 ?_
  refine r_aload_n S dX10_copyFrom_15 rfl (lv_at hl 1 rfl) ?_
  refine r_get (K := 22) (v := .ref (G.2.2.2.1 30)) S X2 (Nat.le_of_ble_eq_true rfl) rfl lk10_21_8 (fun _ => ⟨_, rfl, rfl⟩) dX10_copyFrom_16 ?_
  refine r_kv (q_V (As := [.ref (G.2.2.2.1 30)]) (rest := []) (K := 23) (ci := 3) S X2 (c_scopy_101_30 l G t3 q19 ) ck10_43 (Nat.le_of_ble_eq_true rfl) rfl (fun _ => ⟨_, rfl⟩) ⟨_, _, rfl⟩ ⟨Nat.le_of_ble_eq_true rfl, Nat.le_of_ble_eq_true rfl⟩ rfl hl.1 rfl (Nat.le_of_ble_eq_true rfl) dX10_copyFrom_19 ⟨Nat.le_refl 0, Nat.le_refl 0⟩) X2 (fun t30 H lc q28 X29 => ?_)
  unfold po_scopy_101_30 at q28
  obtain ⟨v31, z32⟩ : ∃ x, t3 30 8 = x := ⟨_, rfl⟩
  have r33 : R (-1) (8) v31 := rd q19 rfl z32
  obtain ⟨q34, q35, q36⟩ := q28
  have F37 : Fr [(94, 0), (94, 1), (94, 2), (94, 3), (94, 4), (101, 4), (101, 5), (101, 6), (101, 7), (101, 8), (101, 9), (101, 10), (106, 4)] [95, 96, 97, 98, 102, 103, 104, 105, 107, 108, 109, 299, 300] τ t30 := Fr_call F27 q35 (by decide)
  refine r_aload_n S dX10_copyFrom_22 rfl (lv_at hl 0 rfl) ?_
  refine r_get (K := 22) (v := .ref (G.2.2.2.1 106)) S X29 (Nat.le_of_ble_eq_true rfl) rfl lk10_28_8 (fun _ => ⟨_, rfl, rfl⟩) dX10_copyFrom_23 ?_
  refine r_aload_n S dX10_copyFrom_26 rfl (lv_at hl 1 rfl) ?_
  refine r_get (K := 22) (v := .ref (G.2.2.2.1 35)) S X29 (Nat.le_of_ble_eq_true rfl) rfl lk10_28_8 (fun _ => ⟨_, rfl, rfl⟩) dX10_copyFrom_27 ?_
  refine r_kv (q_V (As := [.ref (G.2.2.2.1 35)]) (rest := []) (K := 17) (ci := 5) S X29 (c_sncopy_106_35 l G t30 q34 (YA_eq hYA (fun j => ((q35 107 j (by simp [fz])).trans ((q20 107 j (by simp [fz])).trans rfl))) (fun j => ((q35 108 j (by simp [fz])).trans ((q20 108 j (by simp [fz])).trans rfl)))) (YW_eq hYW (fun j => ((q35 36 j (by simp [fz])).trans ((q20 36 j (by simp [fz])).trans rfl))) (fun j => ((q35 37 j (by simp [fz])).trans ((q20 37 j (by simp [fz])).trans rfl))))) ck10_46 (Nat.le_of_ble_eq_true rfl) rfl (fun _ => ⟨_, rfl⟩) ⟨_, _, rfl⟩ ⟨Nat.le_of_ble_eq_true rfl, Nat.le_of_ble_eq_true rfl⟩ rfl hl.1 rfl (Nat.le_of_ble_eq_true rfl) dX10_copyFrom_30 ⟨Nat.le_refl 0, Nat.le_refl 0⟩) X29 (fun t40 H lc q38 X39 => ?_)
  unfold po_sncopy_106_35 at q38
  obtain ⟨q41, q42, q43⟩ := q38
  have F44 : Fr [(94, 0), (94, 1), (94, 2), (94, 3), (94, 4), (101, 4), (101, 5), (101, 6), (101, 7), (101, 8), (101, 9), (101, 10), (106, 4)] [95, 96, 97, 98, 102, 103, 104, 105, 107, 108, 109, 299, 300] τ t40 := Fr_call F37 q42 (by decide)
  exact r_vret S hr hlk X39 ⟨q41, F44, q43, (((q42 94 2 (by decide)).trans ((q35 94 2 (by decide)).trans (q21.trans z5))).trans (rfl.symm.trans z5).symm), (((q42 101 8 (by decide)).trans (q36.trans z32)).trans (((q20 30 8 (by decide)).trans rfl).symm.trans z32).symm), (((q42 94 0 (by decide)).trans ((q35 94 0 (by decide)).trans (q22.trans z8))).trans (rfl.symm.trans z8).symm), (((q42 94 1 (by decide)).trans ((q35 94 1 (by decide)).trans (q23.trans z11))).trans (rfl.symm.trans z11).symm), (((q42 94 3 (by decide)).trans ((q35 94 3 (by decide)).trans (q24.trans z14))).trans (rfl.symm.trans z14).symm), (((q42 94 4 (by decide)).trans ((q35 94 4 (by decide)).trans (q25.trans z17))).trans (rfl.symm.trans z17).symm), ⟨fun j hj => ((qof_of (k := 99) (fun j => ((q42 299 j (by simp [fz])).trans ((q35 299 j (by simp [fz])).trans rfl))) j).trans (q26.1 j hj)).trans (qof_of (k := 28) (fun j => rfl) j), fun j hj => ((qof_of (k := 100) (fun j => ((q42 300 j (by simp [fz])).trans ((q35 300 j (by simp [fz])).trans rfl))) j).trans (q26.2 j hj)).trans (qof_of (k := 29) (fun j => rfl) j)⟩⟩ dX10_copyFrom_33
def po_wcopyn_111_22 (τ : Tau)     (u : Tau) : Prop := Inv u ∧ Fr [(112, 0), (112, 1), (112, 2), (112, 3), (112, 4), (119, 4), (119, 5), (119, 6), (119, 7), (119, 8), (119, 9), (119, 10), (124, 4)] [113, 114, 115, 116, 120, 121, 122, 123, 125, 126, 127, 317, 318] τ u ∧ YB u ∧ u 112 2 = τ 23 2 ∧ u 119 8 = τ 30 8 ∧ u 112 0 = τ 23 0 ∧ u 112 1 = τ 23 1 ∧ u 112 3 = τ 23 3 ∧ u 112 4 = τ 23 4 ∧ NMq u 117 118 τ 28 29
set_option maxHeartbeats 4000000 in
set_option maxRecDepth 100000 in
theorem c_wcopyn_111_22 (l : Launch) (G : Gx) (τ : Tau) (hI : Inv τ) (hYB : YB τ) (hYW : YW τ) : Cv l G yX10_copyFrom cX10_copyFrom 2 2 81 [.ref (G.2.2.2.1 111), .ref (G.2.2.2.1 22)] τ (po_wcopyn_111_22 τ    ) := by
  unfold Cv
  refine C_of (own := RX10) (by decide) rfl (Nat.le_of_ble_eq_true rfl) ?_
  intro p e s m below meth c ls S hr hlk X hl
  have hl : lv_has ls 2 [(0, .ref (G.2.2.2.1 111)), (1, .ref (G.2.2.2.1 22))] := hl
  refine r_aload_n S dX10_copyFrom_0 rfl (lv_at hl 0 rfl) ?_
  refine r_get (K := 22) (v := .ref (G.2.2.2.1 112)) S X (Nat.le_of_ble_eq_true rfl) rfl lk10_12_8 (fun _ => ⟨_, rfl, rfl⟩) dX10_copyFrom_1 ?_
  refine r_aload_n S dX10_copyFrom_4 rfl (lv_at hl 1 rfl) ?_
  refine r_get (K := 22) (v := .ref (G.2.2.2.1 23)) S X (Nat.le_of_ble_eq_true rfl) rfl lk10_12_8 (fun _ => ⟨_, rfl, rfl⟩) dX10_copyFrom_5 ?_
  refine r_kv (q_V (As := [.ref (G.2.2.2.1 23)]) (rest := []) (K := 4) (ci := 2) S X (c_pcopyn_112_23 l G τ hI ) ck10_32 (Nat.le_of_ble_eq_true rfl) rfl (fun _ => ⟨_, rfl⟩) ⟨_, _, rfl⟩ ⟨Nat.le_of_ble_eq_true rfl, Nat.le_of_ble_eq_true rfl⟩ rfl hl.1 rfl (Nat.le_of_ble_eq_true rfl) dX10_copyFrom_8 ⟨Nat.le_refl 0, Nat.le_refl 0⟩) X (fun t3 H lc q1 X2 => ?_)
  unfold po_pcopyn_112_23 at q1
  obtain ⟨v4, z5⟩ : ∃ x, τ 23 2 = x := ⟨_, rfl⟩
  have r6 : R (0) (9) v4 := rd hI rfl z5
  obtain ⟨v7, z8⟩ : ∃ x, τ 23 0 = x := ⟨_, rfl⟩
  have r9 : R (0) (8) v7 := rd hI rfl z8
  obtain ⟨v10, z11⟩ : ∃ x, τ 23 1 = x := ⟨_, rfl⟩
  have r12 : R (0) (9) v10 := rd hI rfl z11
  obtain ⟨v13, z14⟩ : ∃ x, τ 23 3 = x := ⟨_, rfl⟩
  have r15 : R (0) (10) v13 := rd hI rfl z14
  obtain ⟨v16, z17⟩ : ∃ x, τ 23 4 = x := ⟨_, rfl⟩
  have r18 := R_any v16
  obtain ⟨q19, q20, q21, q22, q23, q24, q25, q26⟩ := q1
  have F27 : Fr [(112, 0), (112, 1), (112, 2), (112, 3), (112, 4), (119, 4), (119, 5), (119, 6), (119, 7), (119, 8), (119, 9), (119, 10), (124, 4)] [113, 114, 115, 116, 120, 121, 122, 123, 125, 126, 127, 317, 318] τ t3 := Fr_call Fr_rfl q20 (by decide)
  refine r_aload_n S dX10_copyFrom_11 rfl (lv_at hl 0 rfl) ?_
  refine r_get (K := 22) (v := .ref (G.2.2.2.1 119)) S X2 (Nat.le_of_ble_eq_true rfl) rfl lk10_21_8 (fun _ => ⟨_, rfl, rfl⟩) dX10_copyFrom_12 ?_
  refine r_aload_n S dX10_copyFrom_15 rfl (lv_at hl 1 rfl) ?_
  refine r_get (K := 22) (v := .ref (G.2.2.2.1 30)) S X2 (Nat.le_of_ble_eq_true rfl) rfl lk10_21_8 (fun _ => ⟨_, rfl, rfl⟩) dX10_copyFrom_16 ?_
  refine r_kv (q_V (As := [.ref (G.2.2.2.1 30)]) (rest := []) (K := 23) (ci := 3) S X2 (c_scopy_119_30 l G t3 q19 ) ck10_43 (Nat.le_of_ble_eq_true rfl) rfl (fun _ => ⟨_, rfl⟩) ⟨_, _, rfl⟩ ⟨Nat.le_of_ble_eq_true rfl, Nat.le_of_ble_eq_true rfl⟩ rfl hl.1 rfl (Nat.le_of_ble_eq_true rfl) dX10_copyFrom_19 ⟨Nat.le_refl 0, Nat.le_refl 0⟩) X2 (fun t30 H lc q28 X29 => ?_)
  unfold po_scopy_119_30 at q28
  obtain ⟨v31, z32⟩ : ∃ x, t3 30 8 = x := ⟨_, rfl⟩
  have r33 : R (-1) (8) v31 := rd q19 rfl z32
  obtain ⟨q34, q35, q36⟩ := q28
  have F37 : Fr [(112, 0), (112, 1), (112, 2), (112, 3), (112, 4), (119, 4), (119, 5), (119, 6), (119, 7), (119, 8), (119, 9), (119, 10), (124, 4)] [113, 114, 115, 116, 120, 121, 122, 123, 125, 126, 127, 317, 318] τ t30 := Fr_call F27 q35 (by decide)
  refine r_aload_n S dX10_copyFrom_22 rfl (lv_at hl 0 rfl) ?_
  refine r_get (K := 22) (v := .ref (G.2.2.2.1 124)) S X29 (Nat.le_of_ble_eq_true rfl) rfl lk10_28_8 (fun _ => ⟨_, rfl, rfl⟩) dX10_copyFrom_23 ?_
  refine r_aload_n S dX10_copyFrom_26 rfl (lv_at hl 1 rfl) ?_
  refine r_get (K := 22) (v := .ref (G.2.2.2.1 35)) S X29 (Nat.le_of_ble_eq_true rfl) rfl lk10_28_8 (fun _ => ⟨_, rfl, rfl⟩) dX10_copyFrom_27 ?_
  refine r_kv (q_V (As := [.ref (G.2.2.2.1 35)]) (rest := []) (K := 17) (ci := 5) S X29 (c_sncopy_124_35 l G t30 q34 (YB_eq hYB (fun j => ((q35 125 j (by simp [fz])).trans ((q20 125 j (by simp [fz])).trans rfl))) (fun j => ((q35 126 j (by simp [fz])).trans ((q20 126 j (by simp [fz])).trans rfl)))) (YW_eq hYW (fun j => ((q35 36 j (by simp [fz])).trans ((q20 36 j (by simp [fz])).trans rfl))) (fun j => ((q35 37 j (by simp [fz])).trans ((q20 37 j (by simp [fz])).trans rfl))))) ck10_46 (Nat.le_of_ble_eq_true rfl) rfl (fun _ => ⟨_, rfl⟩) ⟨_, _, rfl⟩ ⟨Nat.le_of_ble_eq_true rfl, Nat.le_of_ble_eq_true rfl⟩ rfl hl.1 rfl (Nat.le_of_ble_eq_true rfl) dX10_copyFrom_30 ⟨Nat.le_refl 0, Nat.le_refl 0⟩) X29 (fun t40 H lc q38 X39 => ?_)
  unfold po_sncopy_124_35 at q38
  obtain ⟨q41, q42, q43⟩ := q38
  have F44 : Fr [(112, 0), (112, 1), (112, 2), (112, 3), (112, 4), (119, 4), (119, 5), (119, 6), (119, 7), (119, 8), (119, 9), (119, 10), (124, 4)] [113, 114, 115, 116, 120, 121, 122, 123, 125, 126, 127, 317, 318] τ t40 := Fr_call F37 q42 (by decide)
  exact r_vret S hr hlk X39 ⟨q41, F44, q43, (((q42 112 2 (by decide)).trans ((q35 112 2 (by decide)).trans (q21.trans z5))).trans (rfl.symm.trans z5).symm), (((q42 119 8 (by decide)).trans (q36.trans z32)).trans (((q20 30 8 (by decide)).trans rfl).symm.trans z32).symm), (((q42 112 0 (by decide)).trans ((q35 112 0 (by decide)).trans (q22.trans z8))).trans (rfl.symm.trans z8).symm), (((q42 112 1 (by decide)).trans ((q35 112 1 (by decide)).trans (q23.trans z11))).trans (rfl.symm.trans z11).symm), (((q42 112 3 (by decide)).trans ((q35 112 3 (by decide)).trans (q24.trans z14))).trans (rfl.symm.trans z14).symm), (((q42 112 4 (by decide)).trans ((q35 112 4 (by decide)).trans (q25.trans z17))).trans (rfl.symm.trans z17).symm), ⟨fun j hj => ((qof_of (k := 117) (fun j => ((q42 317 j (by simp [fz])).trans ((q35 317 j (by simp [fz])).trans rfl))) j).trans (q26.1 j hj)).trans (qof_of (k := 28) (fun j => rfl) j), fun j hj => ((qof_of (k := 118) (fun j => ((q42 318 j (by simp [fz])).trans ((q35 318 j (by simp [fz])).trans rfl))) j).trans (q26.2 j hj)).trans (qof_of (k := 29) (fun j => rfl) j)⟩⟩ dX10_copyFrom_33
def po_wcopyn_22_93 (τ : Tau)     (u : Tau) : Prop := Inv u ∧ Fr [(23, 0), (23, 1), (23, 2), (23, 3), (23, 4), (30, 4), (30, 5), (30, 6), (30, 7), (30, 8), (30, 9), (30, 10), (35, 4)] [24, 25, 26, 27, 31, 32, 33, 34, 36, 37, 38, 228, 229] τ u ∧ YW u ∧ u 23 2 = τ 94 2 ∧ u 30 8 = τ 101 8 ∧ u 23 0 = τ 94 0 ∧ u 23 1 = τ 94 1 ∧ u 23 3 = τ 94 3 ∧ u 23 4 = τ 94 4 ∧ NMq u 28 29 τ 99 100
set_option maxHeartbeats 4000000 in
set_option maxRecDepth 100000 in
theorem c_wcopyn_22_93 (l : Launch) (G : Gx) (τ : Tau) (hI : Inv τ) (hYW : YW τ) (hYA : YA τ) : Cv l G yX10_copyFrom cX10_copyFrom 2 2 81 [.ref (G.2.2.2.1 22), .ref (G.2.2.2.1 93)] τ (po_wcopyn_22_93 τ    ) := by
  unfold Cv
  refine C_of (own := RX10) (by decide) rfl (Nat.le_of_ble_eq_true rfl) ?_
  intro p e s m below meth c ls S hr hlk X hl
  have hl : lv_has ls 2 [(0, .ref (G.2.2.2.1 22)), (1, .ref (G.2.2.2.1 93))] := hl
  refine r_aload_n S dX10_copyFrom_0 rfl (lv_at hl 0 rfl) ?_
  refine r_get (K := 22) (v := .ref (G.2.2.2.1 23)) S X (Nat.le_of_ble_eq_true rfl) rfl lk10_12_8 (fun _ => ⟨_, rfl, rfl⟩) dX10_copyFrom_1 ?_
  refine r_aload_n S dX10_copyFrom_4 rfl (lv_at hl 1 rfl) ?_
  refine r_get (K := 22) (v := .ref (G.2.2.2.1 94)) S X (Nat.le_of_ble_eq_true rfl) rfl lk10_12_8 (fun _ => ⟨_, rfl, rfl⟩) dX10_copyFrom_5 ?_
  refine r_kv (q_V (As := [.ref (G.2.2.2.1 94)]) (rest := []) (K := 4) (ci := 2) S X (c_pcopyn_23_94 l G τ hI ) ck10_32 (Nat.le_of_ble_eq_true rfl) rfl (fun _ => ⟨_, rfl⟩) ⟨_, _, rfl⟩ ⟨Nat.le_of_ble_eq_true rfl, Nat.le_of_ble_eq_true rfl⟩ rfl hl.1 rfl (Nat.le_of_ble_eq_true rfl) dX10_copyFrom_8 ⟨Nat.le_refl 0, Nat.le_refl 0⟩) X (fun t3 H lc q1 X2 => ?_)
  unfold po_pcopyn_23_94 at q1
  obtain ⟨v4, z5⟩ : ∃ x, τ 94 2 = x := ⟨_, rfl⟩
  have r6 : R (0) (9) v4 := rd hI rfl z5
  obtain ⟨v7, z8⟩ : ∃ x, τ 94 0 = x := ⟨_, rfl⟩
  have r9 : R (0) (8) v7 := rd hI rfl z8
  obtain ⟨v10, z11⟩ : ∃ x, τ 94 1 = x := ⟨_, rfl⟩
  have r12 : R (0) (9) v10 := rd hI rfl z11
  obtain ⟨v13, z14⟩ : ∃ x, τ 94 3 = x := ⟨_, rfl⟩
  have r15 : R (0) (10) v13 := rd hI rfl z14
  obtain ⟨v16, z17⟩ : ∃ x, τ 94 4 = x := ⟨_, rfl⟩
  have r18 := R_any v16
  obtain ⟨q19, q20, q21, q22, q23, q24, q25, q26⟩ := q1
  have F27 : Fr [(23, 0), (23, 1), (23, 2), (23, 3), (23, 4), (30, 4), (30, 5), (30, 6), (30, 7), (30, 8), (30, 9), (30, 10), (35, 4)] [24, 25, 26, 27, 31, 32, 33, 34, 36, 37, 38, 228, 229] τ t3 := Fr_call Fr_rfl q20 (by decide)
  refine r_aload_n S dX10_copyFrom_11 rfl (lv_at hl 0 rfl) ?_
  refine r_get (K := 22) (v := .ref (G.2.2.2.1 30)) S X2 (Nat.le_of_ble_eq_true rfl) rfl lk10_21_8 (fun _ => ⟨_, rfl, rfl⟩) dX10_copyFrom_12 ?_
  refine r_aload_n S dX10_copyFrom_15 rfl (lv_at hl 1 rfl) ?_
  refine r_get (K := 22) (v := .ref (G.2.2.2.1 101)) S X2 (Nat.le_of_ble_eq_true rfl) rfl lk10_21_8 (fun _ => ⟨_, rfl, rfl⟩) dX10_copyFrom_16 ?_
  refine r_kv (q_V (As := [.ref (G.2.2.2.1 101)]) (rest := []) (K := 23) (ci := 3) S X2 (c_scopy_30_101 l G t3 q19 ) ck10_43 (Nat.le_of_ble_eq_true rfl) rfl (fun _ => ⟨_, rfl⟩) ⟨_, _, rfl⟩ ⟨Nat.le_of_ble_eq_true rfl, Nat.le_of_ble_eq_true rfl⟩ rfl hl.1 rfl (Nat.le_of_ble_eq_true rfl) dX10_copyFrom_19 ⟨Nat.le_refl 0, Nat.le_refl 0⟩) X2 (fun t30 H lc q28 X29 => ?_)
  unfold po_scopy_30_101 at q28
  obtain ⟨v31, z32⟩ : ∃ x, t3 101 8 = x := ⟨_, rfl⟩
  have r33 : R (-1) (8) v31 := rd q19 rfl z32
  obtain ⟨q34, q35, q36⟩ := q28
  have F37 : Fr [(23, 0), (23, 1), (23, 2), (23, 3), (23, 4), (30, 4), (30, 5), (30, 6), (30, 7), (30, 8), (30, 9), (30, 10), (35, 4)] [24, 25, 26, 27, 31, 32, 33, 34, 36, 37, 38, 228, 229] τ t30 := Fr_call F27 q35 (by decide)
  refine r_aload_n S dX10_copyFrom_22 rfl (lv_at hl 0 rfl) ?_
  refine r_get (K := 22) (v := .ref (G.2.2.2.1 35)) S X29 (Nat.le_of_ble_eq_true rfl) rfl lk10_28_8 (fun _ => ⟨_, rfl, rfl⟩) dX10_copyFrom_23 ?_
  refine r_aload_n S dX10_copyFrom_26 rfl (lv_at hl 1 rfl) ?_
  refine r_get (K := 22) (v := .ref (G.2.2.2.1 106)) S X29 (Nat.le_of_ble_eq_true rfl) rfl lk10_28_8 (fun _ => ⟨_, rfl, rfl⟩) dX10_copyFrom_27 ?_
  refine r_kv (q_V (As := [.ref (G.2.2.2.1 106)]) (rest := []) (K := 17) (ci := 5) S X29 (c_sncopy_35_106 l G t30 q34 (YW_eq hYW (fun j => ((q35 36 j (by simp [fz])).trans ((q20 36 j (by simp [fz])).trans rfl))) (fun j => ((q35 37 j (by simp [fz])).trans ((q20 37 j (by simp [fz])).trans rfl)))) (YA_eq hYA (fun j => ((q35 107 j (by simp [fz])).trans ((q20 107 j (by simp [fz])).trans rfl))) (fun j => ((q35 108 j (by simp [fz])).trans ((q20 108 j (by simp [fz])).trans rfl))))) ck10_46 (Nat.le_of_ble_eq_true rfl) rfl (fun _ => ⟨_, rfl⟩) ⟨_, _, rfl⟩ ⟨Nat.le_of_ble_eq_true rfl, Nat.le_of_ble_eq_true rfl⟩ rfl hl.1 rfl (Nat.le_of_ble_eq_true rfl) dX10_copyFrom_30 ⟨Nat.le_refl 0, Nat.le_refl 0⟩) X29 (fun t40 H lc q38 X39 => ?_)
  unfold po_sncopy_35_106 at q38
  obtain ⟨q41, q42, q43⟩ := q38
  have F44 : Fr [(23, 0), (23, 1), (23, 2), (23, 3), (23, 4), (30, 4), (30, 5), (30, 6), (30, 7), (30, 8), (30, 9), (30, 10), (35, 4)] [24, 25, 26, 27, 31, 32, 33, 34, 36, 37, 38, 228, 229] τ t40 := Fr_call F37 q42 (by decide)
  exact r_vret S hr hlk X39 ⟨q41, F44, q43, (((q42 23 2 (by decide)).trans ((q35 23 2 (by decide)).trans (q21.trans z5))).trans (rfl.symm.trans z5).symm), (((q42 30 8 (by decide)).trans (q36.trans z32)).trans (((q20 101 8 (by decide)).trans rfl).symm.trans z32).symm), (((q42 23 0 (by decide)).trans ((q35 23 0 (by decide)).trans (q22.trans z8))).trans (rfl.symm.trans z8).symm), (((q42 23 1 (by decide)).trans ((q35 23 1 (by decide)).trans (q23.trans z11))).trans (rfl.symm.trans z11).symm), (((q42 23 3 (by decide)).trans ((q35 23 3 (by decide)).trans (q24.trans z14))).trans (rfl.symm.trans z14).symm), (((q42 23 4 (by decide)).trans ((q35 23 4 (by decide)).trans (q25.trans z17))).trans (rfl.symm.trans z17).symm), ⟨fun j hj => ((qof_of (k := 28) (fun j => ((q42 228 j (by simp [fz])).trans ((q35 228 j (by simp [fz])).trans rfl))) j).trans (q26.1 j hj)).trans (qof_of (k := 99) (fun j => rfl) j), fun j hj => ((qof_of (k := 29) (fun j => ((q42 229 j (by simp [fz])).trans ((q35 229 j (by simp [fz])).trans rfl))) j).trans (q26.2 j hj)).trans (qof_of (k := 100) (fun j => rfl) j)⟩⟩ dX10_copyFrom_33
def po_wcopyn_22_111 (τ : Tau)     (u : Tau) : Prop := Inv u ∧ Fr [(23, 0), (23, 1), (23, 2), (23, 3), (23, 4), (30, 4), (30, 5), (30, 6), (30, 7), (30, 8), (30, 9), (30, 10), (35, 4)] [24, 25, 26, 27, 31, 32, 33, 34, 36, 37, 38, 228, 229] τ u ∧ YW u ∧ u 23 2 = τ 112 2 ∧ u 30 8 = τ 119 8 ∧ u 23 0 = τ 112 0 ∧ u 23 1 = τ 112 1 ∧ u 23 3 = τ 112 3 ∧ u 23 4 = τ 112 4 ∧ NMq u 28 29 τ 117 118
set_option maxHeartbeats 4000000 in
set_option maxRecDepth 100000 in
theorem c_wcopyn_22_111 (l : Launch) (G : Gx) (τ : Tau) (hI : Inv τ) (hYW : YW τ) (hYB : YB τ) : Cv l G yX10_copyFrom cX10_copyFrom 2 2 81 [.ref (G.2.2.2.1 22), .ref (G.2.2.2.1 111)] τ (po_wcopyn_22_111 τ    ) := by
  unfold Cv
  refine C_of (own := RX10) (by decide) rfl (Nat.le_of_ble_eq_true rfl) ?_
  intro p e s m below meth c ls S hr hlk X hl
  have hl : lv_has ls 2 [(0, .ref (G.2.2.2.1 22)), (1, .ref (G.2.2.2.1 111))] := hl
  refine r_aload_n S dX10_copyFrom_0 rfl (lv_at hl 0 rfl) ?_
  refine r_get (K := 22) (v := .ref (G.2.2.2.1 23)) S X (Nat.le_of_ble_eq_true rfl) rfl lk10_12_8 (fun _ => ⟨_, rfl, rfl⟩) dX10_copyFrom_1 ?_
  refine r_aload_n S dX10_copyFrom_4 rfl (lv_at hl 1 rfl) ?_
  refine r_get (K := 22) (v := .ref (G.2.2.2.1 112)) S X (Nat.le_of_ble_eq_true rfl) rfl lk10_12_8 (fun _ => ⟨_, rfl, rfl⟩) dX10_copyFrom_5 ?_
  refine r_kv (q_V (As := [.ref (G.2.2.2.1 112)]) (rest := []) (K := 4) (ci := 2) S X (c_pcopyn_23_112 l G τ hI ) ck10_32 (Nat.le_of_ble_eq_true rfl) rfl (fun _ => ⟨_, rfl⟩) ⟨_, _, rfl⟩ ⟨Nat.le_of_ble_eq_true rfl, Nat.le_of_ble_eq_true rfl⟩ rfl hl.1 rfl (Nat.le_of_ble_eq_true rfl) dX10_copyFrom_8 ⟨Nat.le_refl 0, Nat.le_refl 0⟩) X (fun t3 H lc q1 X2 => ?_)
  unfold po_pcopyn_23_112 at q1
  obtain ⟨v4, z5⟩ : ∃ x, τ 112 2 = x := ⟨_, rfl⟩
  have r6 : R (0) (9) v4 := rd hI rfl z5
  obtain ⟨v7, z8⟩ : ∃ x, τ 112 0 = x := ⟨_, rfl⟩
  have r9 : R (0) (8) v7 := rd hI rfl z8
  obtain ⟨v10, z11⟩ : ∃ x, τ 112 1 = x := ⟨_, rfl⟩
  have r12 : R (0) (9) v10 := rd hI rfl z11
  obtain ⟨v13, z14⟩ : ∃ x, τ 112 3 = x := ⟨_, rfl⟩
  have r15 : R (0) (10) v13 := rd hI rfl z14
  obtain ⟨v16, z17⟩ : ∃ x, τ 112 4 = x := ⟨_, rfl⟩
  have r18 := R_any v16
  obtain ⟨q19, q20, q21, q22, q23, q24, q25, q26⟩ := q1
  have F27 : Fr [(23, 0), (23, 1), (23, 2), (23, 3), (23, 4), (30, 4), (30, 5), (30, 6), (30, 7), (30, 8), (30, 9), (30, 10), (35, 4)] [24, 25, 26, 27, 31, 32, 33, 34, 36, 37, 38, 228, 229] τ t3 := Fr_call Fr_rfl q20 (by decide)
  refine r_aload_n S dX10_copyFrom_11 rfl (lv_at hl 0 rfl) ?_
  refine r_get (K := 22) (v := .ref (G.2.2.2.1 30)) S X2 (Nat.le_of_ble_eq_true rfl) rfl lk10_21_8 (fun _ => ⟨_, rfl, rfl⟩) dX10_copyFrom_12 ?_
  refine r_aload_n S dX10_copyFrom_15 rfl (lv_at hl 1 rfl) ?_
  refine r_get (K := 22) (v := .ref (G.2.2.2.1 119)) S X2 (Nat.le_of_ble_eq_true rfl) rfl lk10_21_8 (fun _ => ⟨_, rfl, rfl⟩) dX10_copyFrom_16 ?_
  refine r_kv (q_V (As := [.ref (G.2.2.2.1 119)]) (rest := []) (K := 23) (ci := 3) S X2 (c_scopy_30_119 l G t3 q19 ) ck10_43 (Nat.le_of_ble_eq_true rfl) rfl (fun _ => ⟨_, rfl⟩) ⟨_, _, rfl⟩ ⟨Nat.le_of_ble_eq_true rfl, Nat.le_of_ble_eq_true rfl⟩ rfl hl.1 rfl (Nat.le_of_ble_eq_true rfl) dX10_copyFrom_19 ⟨Nat.le_refl 0, Nat.le_refl 0⟩) X2 (fun t30 H lc q28 X29 => ?_)
  unfold po_scopy_30_119 at q28
  obtain ⟨v31, z32⟩ : ∃ x, t3 119 8 = x := ⟨_, rfl⟩
  have r33 : R (-1) (8) v31 := rd q19 rfl z32
  obtain ⟨q34, q35, q36⟩ := q28
  have F37 : Fr [(23, 0), (23, 1), (23, 2), (23, 3), (23, 4), (30, 4), (30, 5), (30, 6), (30, 7), (30, 8), (30, 9), (30, 10), (35, 4)] [24, 25, 26, 27, 31, 32, 33, 34, 36, 37, 38, 228, 229] τ t30 := Fr_call F27 q35 (by decide)
  refine r_aload_n S dX10_copyFrom_22 rfl (lv_at hl 0 rfl) ?_
  refine r_get (K := 22) (v := .ref (G.2.2.2.1 35)) S X29 (Nat.le_of_ble_eq_true rfl) rfl lk10_28_8 (fun _ => ⟨_, rfl, rfl⟩) dX10_copyFrom_23 ?_
  refine r_aload_n S dX10_copyFrom_26 rfl (lv_at hl 1 rfl) ?_
  refine r_get (K := 22) (v := .ref (G.2.2.2.1 124)) S X29 (Nat.le_of_ble_eq_true rfl) rfl lk10_28_8 (fun _ => ⟨_, rfl, rfl⟩) dX10_copyFrom_27 ?_
  refine r_kv (q_V (As := [.ref (G.2.2.2.1 124)]) (rest := []) (K := 17) (ci := 5) S X29 (c_sncopy_35_124 l G t30 q34 (YW_eq hYW (fun j => ((q35 36 j (by simp [fz])).trans ((q20 36 j (by simp [fz])).trans rfl))) (fun j => ((q35 37 j (by simp [fz])).trans ((q20 37 j (by simp [fz])).trans rfl)))) (YB_eq hYB (fun j => ((q35 125 j (by simp [fz])).trans ((q20 125 j (by simp [fz])).trans rfl))) (fun j => ((q35 126 j (by simp [fz])).trans ((q20 126 j (by simp [fz])).trans rfl))))) ck10_46 (Nat.le_of_ble_eq_true rfl) rfl (fun _ => ⟨_, rfl⟩) ⟨_, _, rfl⟩ ⟨Nat.le_of_ble_eq_true rfl, Nat.le_of_ble_eq_true rfl⟩ rfl hl.1 rfl (Nat.le_of_ble_eq_true rfl) dX10_copyFrom_30 ⟨Nat.le_refl 0, Nat.le_refl 0⟩) X29 (fun t40 H lc q38 X39 => ?_)
  unfold po_sncopy_35_124 at q38
  obtain ⟨q41, q42, q43⟩ := q38
  have F44 : Fr [(23, 0), (23, 1), (23, 2), (23, 3), (23, 4), (30, 4), (30, 5), (30, 6), (30, 7), (30, 8), (30, 9), (30, 10), (35, 4)] [24, 25, 26, 27, 31, 32, 33, 34, 36, 37, 38, 228, 229] τ t40 := Fr_call F37 q42 (by decide)
  exact r_vret S hr hlk X39 ⟨q41, F44, q43, (((q42 23 2 (by decide)).trans ((q35 23 2 (by decide)).trans (q21.trans z5))).trans (rfl.symm.trans z5).symm), (((q42 30 8 (by decide)).trans (q36.trans z32)).trans (((q20 119 8 (by decide)).trans rfl).symm.trans z32).symm), (((q42 23 0 (by decide)).trans ((q35 23 0 (by decide)).trans (q22.trans z8))).trans (rfl.symm.trans z8).symm), (((q42 23 1 (by decide)).trans ((q35 23 1 (by decide)).trans (q23.trans z11))).trans (rfl.symm.trans z11).symm), (((q42 23 3 (by decide)).trans ((q35 23 3 (by decide)).trans (q24.trans z14))).trans (rfl.symm.trans z14).symm), (((q42 23 4 (by decide)).trans ((q35 23 4 (by decide)).trans (q25.trans z17))).trans (rfl.symm.trans z17).symm), ⟨fun j hj => ((qof_of (k := 28) (fun j => ((q42 228 j (by simp [fz])).trans ((q35 228 j (by simp [fz])).trans rfl))) j).trans (q26.1 j hj)).trans (qof_of (k := 117) (fun j => rfl) j), fun j hj => ((qof_of (k := 29) (fun j => ((q42 229 j (by simp [fz])).trans ((q35 229 j (by simp [fz])).trans rfl))) j).trans (q26.2 j hj)).trans (qof_of (k := 118) (fun j => rfl) j)⟩⟩ dX10_copyFrom_33
def po_X11_image_n (τ : Tau)  (a0 : Int32)   (r : Int32) (u : Tau) : Prop := Inv u ∧ Fr [(94, 0), (94, 1), (94, 2), (94, 3), (94, 4), (101, 4), (101, 5), (101, 6), (101, 7), (101, 8), (101, 9), (101, 10), (106, 4), (112, 0), (112, 1), (112, 2), (112, 3), (112, 4), (119, 4), (119, 5), (119, 6), (119, 7), (119, 8), (119, 9), (119, 10), (124, 4), (0, 11)] [95, 96, 97, 98, 102, 103, 104, 105, 107, 108, 109, 113, 114, 115, 116, 120, 121, 122, 123, 125, 126, 127, 299, 300, 317, 318] τ u ∧ IM u ∧ YA u ∧ YB u ∧ R (0) (1) r ∧ (0 ≤ a0.toInt ∧ a0.toInt ≤ 1 → r.toInt = 1) ∧ (a0.toInt < 0 ∨ 1 < a0.toInt → r.toInt = 0) ∧ (a0.toInt = 0 → (u 0 11).toInt = (τ 0 11).toInt / 2 * 2 + 1) ∧ (a0.toInt = 1 → (u 0 11).toInt = (τ 0 11).toInt % 2 + 2) ∧ (a0.toInt < 0 ∨ 1 < a0.toInt → (u 0 11).toInt = (τ 0 11).toInt) ∧ ((a0.toInt = 0 → ∀ j, j < 5 → u 94 j = τ 23 j) ∧ (a0.toInt ≠ 0 → ∀ j, u 94 j = τ 94 j)) ∧ ((a0.toInt = 1 → ∀ j, j < 5 → u 112 j = τ 23 j) ∧ (a0.toInt ≠ 1 → ∀ j, u 112 j = τ 112 j)) ∧ ((a0.toInt = 0 → NMq u 99 100 τ 28 29) ∧ (a0.toInt ≠ 0 → (∀ j, u 299 j = τ 299 j) ∧ ∀ j, u 300 j = τ 300 j)) ∧ ((a0.toInt = 1 → NMq u 117 118 τ 28 29) ∧ (a0.toInt ≠ 1 → (∀ j, u 317 j = τ 317 j) ∧ ∀ j, u 318 j = τ 318 j))
set_option maxHeartbeats 4000000 in
set_option maxRecDepth 100000 in
theorem c_X11_image_n (l : Launch) (G : Gx) (τ : Tau) (hI : Inv τ) (a0 : Int32) (h_a0 : R (-2147483648) (2147483647) a0) (hWI : WI τ) (hIM : IM τ) (hYW : YW τ) (hYA : YA τ) (hYB : YB τ) : Ci l G yX11_image cX11_image 2 (some .boolean) 3 102 [.ref (G.2.2.2.1 0), .int a0] τ (po_X11_image_n τ  a0  ) := by
  unfold Ci
  refine C_of (own := RX11) (by decide) rfl (Nat.le_of_ble_eq_true rfl) ?_
  intro p e s m below meth c ls S hr hlk X hl
  have hl : lv_has ls 2 [(0, .ref (G.2.2.2.1 0)), (1, .int a0)] := hl
  obtain ⟨v1, z2⟩ : ∃ x, τ 0 11 = x := ⟨_, rfl⟩
  have r3 : R (0) (3) v1 := rd hI rfl z2
  refine r_iload_n S dX11_image_0 rfl (lv_at hl 1 rfl) ?_
  refine r_if_lt (tgt := 9) S dX11_image_1 (by decide) (fun c4 => ?_) (fun c4 => ?_)
  ·
    have r5 : R (-2147483648) (-1) a0 := ⟨by omega, by omega⟩
    refine r_iconst S dX11_image_9 (by decide) (fun v6 z7 => ?_)
    have r8 := R_eq z7
    exact r_ret S hr hlk X ⟨hI, Fr_rfl, hIM, hYA, hYB, (R_of r8 rfl), (by omega), (by omega), (by have h1_0 := congrArg Int32.toInt z2; have h2_0 := congrArg Int32.toInt z2; omega), (by have h1_0 := congrArg Int32.toInt z2; have h2_0 := congrArg Int32.toInt z2; omega), (by have h1_0 := congrArg Int32.toInt z2; have h2_0 := congrArg Int32.toInt z2; omega), ⟨(fun h => by exfalso; omega), fun _ j => rfl⟩, ⟨(fun h => by exfalso; omega), fun _ j => rfl⟩, ⟨(fun h => by exfalso; omega), fun _ => ⟨fun j => rfl, fun j => rfl⟩⟩, ⟨(fun h => by exfalso; omega), fun _ => ⟨fun j => rfl, fun j => rfl⟩⟩⟩ (nr_bool (R_of (lo := 0) (hi := 1) r8 rfl)) dX11_image_10
  ·
    have r9 : R (0) (2147483647) a0 := ⟨by omega, by omega⟩
    refine r_iload_n S dX11_image_4 rfl (lv_at hl 1 rfl) ?_
    refine r_iconst S dX11_image_5 (by decide) (fun v10 z11 => ?_)
    have r12 := R_eq z11
    refine r_icmp_lt (tgt := 11) S dX11_image_6 (by decide) (fun c13 => ?_) (fun c13 => ?_)
    ·
      have r14 : R (0) (1) a0 := ⟨by omega, by omega⟩
      refine r_aload_n S dX11_image_11 rfl (lv_at hl 0 rfl) ?_
      refine r_get (K := 0) (v := .ref (G.2.2.2.1 92)) S X (Nat.le_of_ble_eq_true rfl) rfl lk11_64_9 (fun _ => ⟨_, rfl, rfl⟩) dX11_image_12 ?_
      refine r_iload_n S dX11_image_15 rfl (lv_at hl 1 rfl) ?_
      refine r_aldO S X (ix_of r14 rfl) dX11_image_16 (fun n15 h16 h17 => ?_)
      rcases (show n15 = 0 ∨ n15 = 1 by omega) with rfl | rfl
      ·
        refine r_aload_n S dX11_image_17 rfl (lv_at hl 0 rfl) ?_
        refine r_get (K := 0) (v := .ref (G.2.2.2.1 22)) S X (Nat.le_of_ble_eq_true rfl) rfl lk11_42_9 (fun _ => ⟨_, rfl, rfl⟩) dX11_image_18 ?_
        refine r_kv (q_V (As := [.ref (G.2.2.2.1 22)]) (rest := []) (K := 22) (ci := 8) S X (c_wcopyn_93_22 l G τ hI hYA hYW) ck11_301 (Nat.le_of_ble_eq_true rfl) rfl (fun _ => ⟨_, rfl⟩) ⟨_, _, rfl⟩ ⟨Nat.le_of_ble_eq_true rfl, Nat.le_of_ble_eq_true rfl⟩ rfl hl.1 rfl (Nat.le_of_ble_eq_true rfl) dX11_image_21 ⟨Nat.le_refl 0, Nat.le_refl 0⟩) X (fun t20 H lc q18 X19 => ?_)
        unfold po_wcopyn_93_22 at q18
        obtain ⟨v21, z22⟩ : ∃ x, τ 23 2 = x := ⟨_, rfl⟩
        have r23 : R (0) (9) v21 := rd hI rfl z22
        obtain ⟨v24, z25⟩ : ∃ x, τ 30 8 = x := ⟨_, rfl⟩
        have r26 : R (-1) (8) v24 := rd hI rfl z25
        obtain ⟨v27, z28⟩ : ∃ x, τ 23 0 = x := ⟨_, rfl⟩
        have r29 : R (0) (8) v27 := rd hI rfl z28
        obtain ⟨v30, z31⟩ : ∃ x, τ 23 1 = x := ⟨_, rfl⟩
        have r32 : R (0) (9) v30 := rd hI rfl z31
        obtain ⟨v33, z34⟩ : ∃ x, τ 23 3 = x := ⟨_, rfl⟩
        have r35 : R (0) (10) v33 := rd hI rfl z34
        obtain ⟨v36, z37⟩ : ∃ x, τ 23 4 = x := ⟨_, rfl⟩
        have r38 := R_any v36
        obtain ⟨q39, q40, q41, q42, q43, q44, q45, q46, q47, q48⟩ := q18
        have F49 : Fr [(94, 0), (94, 1), (94, 2), (94, 3), (94, 4), (101, 4), (101, 5), (101, 6), (101, 7), (101, 8), (101, 9), (101, 10), (106, 4), (112, 0), (112, 1), (112, 2), (112, 3), (112, 4), (119, 4), (119, 5), (119, 6), (119, 7), (119, 8), (119, 9), (119, 10), (124, 4), (0, 11)] [95, 96, 97, 98, 102, 103, 104, 105, 107, 108, 109, 113, 114, 115, 116, 120, 121, 122, 123, 125, 126, 127, 299, 300, 317, 318] τ t20 := Fr_call Fr_rfl q40 (by decide)
        refine r_aload_n S dX11_image_24 rfl (lv_at hl 0 rfl) ?_
        refine r_dup S dX11_image_25 rfl ?_
        refine r_geti (K := 0) S X19 (Nat.le_of_ble_eq_true rfl) rfl lk11_304_9 (fun _ => ⟨_, rfl, rfl⟩) ((q40 0 11 (by decide)).trans z2) dX11_image_26 ?_
        refine r_iconst S dX11_image_29 (by decide) (fun v50 z51 => ?_)
        have r52 := R_eq z51
        refine r_iload_n S dX11_image_30 rfl (lv_at hl 1 rfl) ?_
        refine r_ishl S dX11_image_31 (fun v53 z54 => ?_)
        have r56 : R (1) (2) v53 := i_shl z54 r52 r14 rfl
        refine r_ior S dX11_image_32 (fun v57 z58 => ?_)
        have r60 : R (0) (3) v57 := i_or 2 z58 r3 r56 rfl
        obtain ⟨h61, h62⟩ := bx_or (x := v1) (k := a0) ⟨by omega, by omega⟩ ⟨by omega, by omega⟩ (show v50.toInt = 1 by omega) z54 z58
        refine r_put (K := 0) (ty := .int) S X19 (Nat.le_of_ble_eq_true rfl) rfl lk11_304_9 (fun _ => ⟨_, rfl, Nat.le_of_ble_eq_true rfl, rfl⟩) (fun _ _ _ h => by cases h; exact ⟨rfl, rfl⟩) rfl rfl dX11_image_33 (fun t63 H lc M64 X65 => ?_)
        have I66 := Inv_mu q39 M64 (show Rg (kd 0) 11 v57 from (R_of (lo := 0) (hi := 3) r60 rfl))
        have F67 : Fr [(94, 0), (94, 1), (94, 2), (94, 3), (94, 4), (101, 4), (101, 5), (101, 6), (101, 7), (101, 8), (101, 9), (101, 10), (106, 4), (112, 0), (112, 1), (112, 2), (112, 3), (112, 4), (119, 4), (119, 5), (119, 6), (119, 7), (119, 8), (119, 9), (119, 10), (124, 4), (0, 11)] [95, 96, 97, 98, 102, 103, 104, 105, 107, 108, 109, 113, 114, 115, 116, 120, 121, 122, 123, 125, 126, 127, 299, 300, 317, 318] τ t63 := Fr_mu F49 M64 (by decide)
        refine r_iconst S dX11_image_36 (by decide) (fun v68 z69 => ?_)
        have r70 := R_eq z69
        exact r_ret S hr hlk X65 ⟨I66, F67, (IM_0 hIM hWI (((M64.2 94 2 (Or.inl (by decide))).trans (q42.trans z22)).trans (rfl.symm.trans z22).symm) (((M64.2 101 8 (Or.inl (by decide))).trans (q43.trans z25)).trans (rfl.symm.trans z25).symm) ((M64.2 112 2 (Or.inl (by decide))).trans ((q40 112 2 (by decide)).trans rfl)) ((M64.2 119 8 (Or.inl (by decide))).trans ((q40 119 8 (by decide)).trans rfl))), (YA_eq q41 (fun j => ((M64.2 107 j (Or.inl (by decide))).trans rfl)) (fun j => ((M64.2 108 j (Or.inl (by decide))).trans rfl))), (YB_eq hYB (fun j => ((M64.2 125 j (Or.inl (by decide))).trans ((q40 125 j (by simp [fz])).trans rfl))) (fun j => ((M64.2 126 j (Or.inl (by decide))).trans ((q40 126 j (by simp [fz])).trans rfl)))), (R_of r70 rfl), (by omega), (by omega), (by have h1_0 := congrArg Int32.toInt M64.1; have h2_0 := congrArg Int32.toInt z2; omega), (by have h1_0 := congrArg Int32.toInt M64.1; have h2_0 := congrArg Int32.toInt z2; omega), (by have h1_0 := congrArg Int32.toInt M64.1; have h2_0 := congrArg Int32.toInt z2; omega), ⟨fun h j hj => (match j, hj with | 0, _ => (((M64.2 94 0 (Or.inl (by decide))).trans (q44.trans z28)).trans (rfl.symm.trans z28).symm) | 1, _ => (((M64.2 94 1 (Or.inl (by decide))).trans (q45.trans z31)).trans (rfl.symm.trans z31).symm) | 2, _ => (((M64.2 94 2 (Or.inl (by decide))).trans (q42.trans z22)).trans (rfl.symm.trans z22).symm) | 3, _ => (((M64.2 94 3 (Or.inl (by decide))).trans (q46.trans z34)).trans (rfl.symm.trans z34).symm) | 4, _ => (((M64.2 94 4 (Or.inl (by decide))).trans (q47.trans z37)).trans (rfl.symm.trans z37).symm) | n + 5, h => absurd h (by omega)), (fun h => by exfalso; omega)⟩, ⟨(fun h => by exfalso; omega), fun _ j => ((M64.2 112 j (Or.inl (by decide))).trans ((q40 112 j (by simp [fz])).trans rfl))⟩, ⟨fun _ => ⟨fun j hj => ((qof_of (k := 99) (fun j => ((M64.2 299 j (Or.inl (by decide))).trans rfl)) j).trans (q48.1 j hj)).trans (qof_of (k := 28) (fun j => rfl) j), fun j hj => ((qof_of (k := 100) (fun j => ((M64.2 300 j (Or.inl (by decide))).trans rfl)) j).trans (q48.2 j hj)).trans (qof_of (k := 29) (fun j => rfl) j)⟩, (fun h => by exfalso; omega)⟩, ⟨(fun h => by exfalso; omega), fun _ => ⟨fun j => ((M64.2 317 j (Or.inl (by decide))).trans ((q40 317 j (by simp [fz])).trans rfl)), fun j => ((M64.2 318 j (Or.inl (by decide))).trans ((q40 318 j (by simp [fz])).trans rfl))⟩⟩⟩ (nr_bool (R_of (lo := 0) (hi := 1) r70 rfl)) dX11_image_37
      ·
        refine r_aload_n S dX11_image_17 rfl (lv_at hl 0 rfl) ?_
        refine r_get (K := 0) (v := .ref (G.2.2.2.1 22)) S X (Nat.le_of_ble_eq_true rfl) rfl lk11_42_9 (fun _ => ⟨_, rfl, rfl⟩) dX11_image_18 ?_
        refine r_kv (q_V (As := [.ref (G.2.2.2.1 22)]) (rest := []) (K := 22) (ci := 8) S X (c_wcopyn_111_22 l G τ hI hYB hYW) ck11_301 (Nat.le_of_ble_eq_true rfl) rfl (fun _ => ⟨_, rfl⟩) ⟨_, _, rfl⟩ ⟨Nat.le_of_ble_eq_true rfl, Nat.le_of_ble_eq_true rfl⟩ rfl hl.1 rfl (Nat.le_of_ble_eq_true rfl) dX11_image_21 ⟨Nat.le_refl 0, Nat.le_refl 0⟩) X (fun t73 H lc q71 X72 => ?_)
        unfold po_wcopyn_111_22 at q71
        obtain ⟨v74, z75⟩ : ∃ x, τ 23 2 = x := ⟨_, rfl⟩
        have r76 : R (0) (9) v74 := rd hI rfl z75
        obtain ⟨v77, z78⟩ : ∃ x, τ 30 8 = x := ⟨_, rfl⟩
        have r79 : R (-1) (8) v77 := rd hI rfl z78
        obtain ⟨v80, z81⟩ : ∃ x, τ 23 0 = x := ⟨_, rfl⟩
        have r82 : R (0) (8) v80 := rd hI rfl z81
        obtain ⟨v83, z84⟩ : ∃ x, τ 23 1 = x := ⟨_, rfl⟩
        have r85 : R (0) (9) v83 := rd hI rfl z84
        obtain ⟨v86, z87⟩ : ∃ x, τ 23 3 = x := ⟨_, rfl⟩
        have r88 : R (0) (10) v86 := rd hI rfl z87
        obtain ⟨v89, z90⟩ : ∃ x, τ 23 4 = x := ⟨_, rfl⟩
        have r91 := R_any v89
        obtain ⟨q92, q93, q94, q95, q96, q97, q98, q99, q100, q101⟩ := q71
        have F102 : Fr [(94, 0), (94, 1), (94, 2), (94, 3), (94, 4), (101, 4), (101, 5), (101, 6), (101, 7), (101, 8), (101, 9), (101, 10), (106, 4), (112, 0), (112, 1), (112, 2), (112, 3), (112, 4), (119, 4), (119, 5), (119, 6), (119, 7), (119, 8), (119, 9), (119, 10), (124, 4), (0, 11)] [95, 96, 97, 98, 102, 103, 104, 105, 107, 108, 109, 113, 114, 115, 116, 120, 121, 122, 123, 125, 126, 127, 299, 300, 317, 318] τ t73 := Fr_call Fr_rfl q93 (by decide)
        refine r_aload_n S dX11_image_24 rfl (lv_at hl 0 rfl) ?_
        refine r_dup S dX11_image_25 rfl ?_
        refine r_geti (K := 0) S X72 (Nat.le_of_ble_eq_true rfl) rfl lk11_304_9 (fun _ => ⟨_, rfl, rfl⟩) ((q93 0 11 (by decide)).trans z2) dX11_image_26 ?_
        refine r_iconst S dX11_image_29 (by decide) (fun v103 z104 => ?_)
        have r105 := R_eq z104
        refine r_iload_n S dX11_image_30 rfl (lv_at hl 1 rfl) ?_
        refine r_ishl S dX11_image_31 (fun v106 z107 => ?_)
        have r109 : R (1) (2) v106 := i_shl z107 r105 r14 rfl
        refine r_ior S dX11_image_32 (fun v110 z111 => ?_)
        have r113 : R (0) (3) v110 := i_or 2 z111 r3 r109 rfl
        obtain ⟨h114, h115⟩ := bx_or (x := v1) (k := a0) ⟨by omega, by omega⟩ ⟨by omega, by omega⟩ (show v103.toInt = 1 by omega) z107 z111
        refine r_put (K := 0) (ty := .int) S X72 (Nat.le_of_ble_eq_true rfl) rfl lk11_304_9 (fun _ => ⟨_, rfl, Nat.le_of_ble_eq_true rfl, rfl⟩) (fun _ _ _ h => by cases h; exact ⟨rfl, rfl⟩) rfl rfl dX11_image_33 (fun t116 H lc M117 X118 => ?_)
        have I119 := Inv_mu q92 M117 (show Rg (kd 0) 11 v110 from (R_of (lo := 0) (hi := 3) r113 rfl))
        have F120 : Fr [(94, 0), (94, 1), (94, 2), (94, 3), (94, 4), (101, 4), (101, 5), (101, 6), (101, 7), (101, 8), (101, 9), (101, 10), (106, 4), (112, 0), (112, 1), (112, 2), (112, 3), (112, 4), (119, 4), (119, 5), (119, 6), (119, 7), (119, 8), (119, 9), (119, 10), (124, 4), (0, 11)] [95, 96, 97, 98, 102, 103, 104, 105, 107, 108, 109, 113, 114, 115, 116, 120, 121, 122, 123, 125, 126, 127, 299, 300, 317, 318] τ t116 := Fr_mu F102 M117 (by decide)
        refine r_iconst S dX11_image_36 (by decide) (fun v121 z122 => ?_)
        have r123 := R_eq z122
        exact r_ret S hr hlk X118 ⟨I119, F120, (IM_1 hIM hWI (((M117.2 112 2 (Or.inl (by decide))).trans (q95.trans z75)).trans (rfl.symm.trans z75).symm) (((M117.2 119 8 (Or.inl (by decide))).trans (q96.trans z78)).trans (rfl.symm.trans z78).symm) ((M117.2 94 2 (Or.inl (by decide))).trans ((q93 94 2 (by decide)).trans rfl)) ((M117.2 101 8 (Or.inl (by decide))).trans ((q93 101 8 (by decide)).trans rfl))), (YA_eq hYA (fun j => ((M117.2 107 j (Or.inl (by decide))).trans ((q93 107 j (by simp [fz])).trans rfl))) (fun j => ((M117.2 108 j (Or.inl (by decide))).trans ((q93 108 j (by simp [fz])).trans rfl)))), (YB_eq q94 (fun j => ((M117.2 125 j (Or.inl (by decide))).trans rfl)) (fun j => ((M117.2 126 j (Or.inl (by decide))).trans rfl))), (R_of r123 rfl), (by omega), (by omega), (by have h1_0 := congrArg Int32.toInt M117.1; have h2_0 := congrArg Int32.toInt z2; omega), (by have h1_0 := congrArg Int32.toInt M117.1; have h2_0 := congrArg Int32.toInt z2; omega), (by have h1_0 := congrArg Int32.toInt M117.1; have h2_0 := congrArg Int32.toInt z2; omega), ⟨(fun h => by exfalso; omega), fun _ j => ((M117.2 94 j (Or.inl (by decide))).trans ((q93 94 j (by simp [fz])).trans rfl))⟩, ⟨fun h j hj => (match j, hj with | 0, _ => (((M117.2 112 0 (Or.inl (by decide))).trans (q97.trans z81)).trans (rfl.symm.trans z81).symm) | 1, _ => (((M117.2 112 1 (Or.inl (by decide))).trans (q98.trans z84)).trans (rfl.symm.trans z84).symm) | 2, _ => (((M117.2 112 2 (Or.inl (by decide))).trans (q95.trans z75)).trans (rfl.symm.trans z75).symm) | 3, _ => (((M117.2 112 3 (Or.inl (by decide))).trans (q99.trans z87)).trans (rfl.symm.trans z87).symm) | 4, _ => (((M117.2 112 4 (Or.inl (by decide))).trans (q100.trans z90)).trans (rfl.symm.trans z90).symm) | n + 5, h => absurd h (by omega)), (fun h => by exfalso; omega)⟩, ⟨(fun h => by exfalso; omega), fun _ => ⟨fun j => ((M117.2 299 j (Or.inl (by decide))).trans ((q93 299 j (by simp [fz])).trans rfl)), fun j => ((M117.2 300 j (Or.inl (by decide))).trans ((q93 300 j (by simp [fz])).trans rfl))⟩⟩, ⟨fun _ => ⟨fun j hj => ((qof_of (k := 117) (fun j => ((M117.2 317 j (Or.inl (by decide))).trans rfl)) j).trans (q101.1 j hj)).trans (qof_of (k := 28) (fun j => rfl) j), fun j hj => ((qof_of (k := 118) (fun j => ((M117.2 318 j (Or.inl (by decide))).trans rfl)) j).trans (q101.2 j hj)).trans (qof_of (k := 29) (fun j => rfl) j)⟩, (fun h => by exfalso; omega)⟩⟩ (nr_bool (R_of (lo := 0) (hi := 1) r123 rfl)) dX11_image_37
    ·
      have r124 : R (2) (2147483647) a0 := ⟨by omega, by omega⟩
      refine r_iconst S dX11_image_9 (by decide) (fun v125 z126 => ?_)
      have r127 := R_eq z126
      exact r_ret S hr hlk X ⟨hI, Fr_rfl, hIM, hYA, hYB, (R_of r127 rfl), (by omega), (by omega), (by have h1_0 := congrArg Int32.toInt z2; have h2_0 := congrArg Int32.toInt z2; omega), (by have h1_0 := congrArg Int32.toInt z2; have h2_0 := congrArg Int32.toInt z2; omega), (by have h1_0 := congrArg Int32.toInt z2; have h2_0 := congrArg Int32.toInt z2; omega), ⟨(fun h => by exfalso; omega), fun _ j => rfl⟩, ⟨(fun h => by exfalso; omega), fun _ j => rfl⟩, ⟨(fun h => by exfalso; omega), fun _ => ⟨fun j => rfl, fun j => rfl⟩⟩, ⟨(fun h => by exfalso; omega), fun _ => ⟨fun j => rfl, fun j => rfl⟩⟩⟩ (nr_bool (R_of (lo := 0) (hi := 1) r127 rfl)) dX11_image_10
def po_X11_restore_n (τ : Tau)  (a0 : Int32)   (r : Int32) (u : Tau) : Prop := Inv u ∧ Fr [(23, 0), (23, 1), (23, 2), (23, 3), (23, 4), (30, 4), (30, 5), (30, 6), (30, 7), (30, 8), (30, 9), (30, 10), (35, 4), (0, 9)] [24, 25, 26, 27, 31, 32, 33, 34, 36, 37, 38, 228, 229] τ u ∧ WI u ∧ HI u ∧ YW u ∧ R (0) (1) r ∧ (a0.toInt = 0 → r.toInt = (τ 0 11).toInt % 2) ∧ (a0.toInt = 1 → r.toInt = (τ 0 11).toInt / 2) ∧ (a0.toInt < 0 ∨ 1 < a0.toInt → r.toInt = 0) ∧ ((r.toInt = 0 → ∀ j, u 23 j = τ 23 j) ∧ (r.toInt = 1 → a0.toInt = 0 → ∀ j, j < 5 → u 23 j = τ 94 j) ∧ (r.toInt = 1 → a0.toInt = 1 → ∀ j, j < 5 → u 23 j = τ 112 j)) ∧ ((r.toInt = 0 → (∀ j, u 228 j = τ 228 j) ∧ ∀ j, u 229 j = τ 229 j) ∧ (r.toInt = 1 → a0.toInt = 0 → NMq u 28 29 τ 99 100) ∧ (r.toInt = 1 → a0.toInt = 1 → NMq u 28 29 τ 117 118))
set_option maxHeartbeats 4000000 in
set_option maxRecDepth 100000 in
theorem c_X11_restore_n (l : Launch) (G : Gx) (τ : Tau) (hI : Inv τ) (a0 : Int32) (h_a0 : R (-2147483648) (2147483647) a0) (hWI : WI τ) (hHI : HI τ) (hIM : IM τ) (hYW : YW τ) (hYA : YA τ) (hYB : YB τ) : Ci l G yX11_restore cX11_restore 2 (some .boolean) 3 102 [.ref (G.2.2.2.1 0), .int a0] τ (po_X11_restore_n τ  a0  ) := by
  unfold Ci
  refine C_of (own := RX11) (by decide) rfl (Nat.le_of_ble_eq_true rfl) ?_
  intro p e s m below meth c ls S hr hlk X hl
  have hl : lv_has ls 2 [(0, .ref (G.2.2.2.1 0)), (1, .int a0)] := hl
  obtain ⟨v1, z2⟩ : ∃ x, τ 0 11 = x := ⟨_, rfl⟩
  have r3 : R (0) (3) v1 := rd hI rfl z2
  refine r_iload_n S dX11_restore_0 rfl (lv_at hl 1 rfl) ?_
  refine r_if_lt (tgt := 20) S dX11_restore_1 (by decide) (fun c4 => ?_) (fun c4 => ?_)
  ·
    have r5 : R (-2147483648) (-1) a0 := ⟨by omega, by omega⟩
    refine r_iconst S dX11_restore_20 (by decide) (fun v6 z7 => ?_)
    have r8 := R_eq z7
    exact r_ret S hr hlk X ⟨hI, Fr_rfl, hWI, hHI, hYW, (R_of r8 rfl), (by have h1_0 := congrArg Int32.toInt z2; have h2_0 := congrArg Int32.toInt z2; omega), (by have h1_0 := congrArg Int32.toInt z2; have h2_0 := congrArg Int32.toInt z2; omega), (by omega), ⟨fun _ j => rfl, (fun h => by exfalso; omega), (fun h => by exfalso; omega)⟩, ⟨fun _ => ⟨fun j => rfl, fun j => rfl⟩, (fun h => by exfalso; omega), (fun h => by exfalso; omega)⟩⟩ (nr_bool (R_of (lo := 0) (hi := 1) r8 rfl)) dX11_restore_21
  ·
    have r9 : R (0) (2147483647) a0 := ⟨by omega, by omega⟩
    refine r_iload_n S dX11_restore_4 rfl (lv_at hl 1 rfl) ?_
    refine r_iconst S dX11_restore_5 (by decide) (fun v10 z11 => ?_)
    have r12 := R_eq z11
    refine r_icmp_ge (tgt := 20) S dX11_restore_6 (by decide) (fun c13 => ?_) (fun c13 => ?_)
    ·
      have r14 : R (2) (2147483647) a0 := ⟨by omega, by omega⟩
      refine r_iconst S dX11_restore_20 (by decide) (fun v15 z16 => ?_)
      have r17 := R_eq z16
      exact r_ret S hr hlk X ⟨hI, Fr_rfl, hWI, hHI, hYW, (R_of r17 rfl), (by have h1_0 := congrArg Int32.toInt z2; have h2_0 := congrArg Int32.toInt z2; omega), (by have h1_0 := congrArg Int32.toInt z2; have h2_0 := congrArg Int32.toInt z2; omega), (by omega), ⟨fun _ j => rfl, (fun h => by exfalso; omega), (fun h => by exfalso; omega)⟩, ⟨fun _ => ⟨fun j => rfl, fun j => rfl⟩, (fun h => by exfalso; omega), (fun h => by exfalso; omega)⟩⟩ (nr_bool (R_of (lo := 0) (hi := 1) r17 rfl)) dX11_restore_21
    ·
      have r18 : R (0) (1) a0 := ⟨by omega, by omega⟩
      refine r_aload_n S dX11_restore_9 rfl (lv_at hl 0 rfl) ?_
      refine r_geti (K := 0) S X (Nat.le_of_ble_eq_true rfl) rfl lk11_304_9 (fun _ => ⟨_, rfl, rfl⟩) z2 dX11_restore_10 ?_
      refine r_iload_n S dX11_restore_13 rfl (lv_at hl 1 rfl) ?_
      refine r_ki (q_S (As := [.int v1, .int a0]) (rest := []) S X (c_X11_bit_x l G τ hI v1 a0 r3 r18) ck11_135 ⟨Nat.le_of_ble_eq_true rfl, Nat.le_of_ble_eq_true rfl⟩ rfl hl.1 rfl (Nat.le_of_ble_eq_true rfl) dX11_restore_14 ⟨Nat.le_refl 0, Nat.le_refl 0⟩) X (fun v22 t21 H lc q19 X20 => ?_)
      unfold po_X11_bit_x at q19
      obtain ⟨q23, q24, q25⟩ := q19
      rw [q23] at X20
      refine r_if_ne (tgt := 22) S dX11_restore_17 (by decide) (fun c26 => ?_) (fun c26 => ?_)
      ·
        have r27 : R (1) (1) v22 := ⟨by omega, by omega⟩
        refine r_aload_n S dX11_restore_22 rfl (lv_at hl 0 rfl) ?_
        refine r_get (K := 0) (v := .ref (G.2.2.2.1 22)) S X20 (Nat.le_of_ble_eq_true rfl) rfl lk11_42_9 (fun _ => ⟨_, rfl, rfl⟩) dX11_restore_23 ?_
        refine r_aload_n S dX11_restore_26 rfl (lv_at hl 0 rfl) ?_
        refine r_get (K := 0) (v := .ref (G.2.2.2.1 92)) S X20 (Nat.le_of_ble_eq_true rfl) rfl lk11_64_9 (fun _ => ⟨_, rfl, rfl⟩) dX11_restore_27 ?_
        refine r_iload_n S dX11_restore_30 rfl (lv_at hl 1 rfl) ?_
        refine r_aldO S X20 (ix_of r18 rfl) dX11_restore_31 (fun n28 h29 h30 => ?_)
        rcases (show n28 = 0 ∨ n28 = 1 by omega) with rfl | rfl
        ·
          refine r_kv (q_V (As := [.ref (G.2.2.2.1 93)]) (rest := []) (K := 22) (ci := 8) S X20 (c_wcopyn_22_93 l G τ hI hYW hYA) ck11_301 (Nat.le_of_ble_eq_true rfl) rfl (fun _ => ⟨_, rfl⟩) ⟨_, _, rfl⟩ ⟨Nat.le_of_ble_eq_true rfl, Nat.le_of_ble_eq_true rfl⟩ rfl hl.1 rfl (Nat.le_of_ble_eq_true rfl) dX11_restore_32 ⟨Nat.le_refl 0, Nat.le_refl 0⟩) X20 (fun t33 H lc q31 X32 => ?_)
          unfold po_wcopyn_22_93 at q31
          obtain ⟨v34, z35⟩ : ∃ x, τ 94 2 = x := ⟨_, rfl⟩
          have r36 : R (0) (9) v34 := rd hI rfl z35
          obtain ⟨v37, z38⟩ : ∃ x, τ 101 8 = x := ⟨_, rfl⟩
          have r39 : R (-1) (8) v37 := rd hI rfl z38
          obtain ⟨v40, z41⟩ : ∃ x, τ 94 0 = x := ⟨_, rfl⟩
          have r42 : R (0) (8) v40 := rd hI rfl z41
          obtain ⟨v43, z44⟩ : ∃ x, τ 94 1 = x := ⟨_, rfl⟩
          have r45 : R (0) (9) v43 := rd hI rfl z44
          obtain ⟨v46, z47⟩ : ∃ x, τ 94 3 = x := ⟨_, rfl⟩
          have r48 : R (0) (10) v46 := rd hI rfl z47
          obtain ⟨v49, z50⟩ : ∃ x, τ 94 4 = x := ⟨_, rfl⟩
          have r51 := R_any v49
          obtain ⟨q52, q53, q54, q55, q56, q57, q58, q59, q60, q61⟩ := q31
          have F62 : Fr [(23, 0), (23, 1), (23, 2), (23, 3), (23, 4), (30, 4), (30, 5), (30, 6), (30, 7), (30, 8), (30, 9), (30, 10), (35, 4), (0, 9)] [24, 25, 26, 27, 31, 32, 33, 34, 36, 37, 38, 228, 229] τ t33 := Fr_call Fr_rfl q53 (by decide)
          refine r_aload_n S dX11_restore_35 rfl (lv_at hl 0 rfl) ?_
          refine r_iconst S dX11_restore_36 (by decide) (fun v63 z64 => ?_)
          have r65 := R_eq z64
          refine r_put (K := 0) (ty := .int) S X32 (Nat.le_of_ble_eq_true rfl) rfl lk11_116_9 (fun _ => ⟨_, rfl, Nat.le_of_ble_eq_true rfl, rfl⟩) (fun _ _ _ h => by cases h; exact ⟨rfl, rfl⟩) rfl rfl dX11_restore_37 (fun t66 H lc M67 X68 => ?_)
          have I69 := Inv_mu q52 M67 (show Rg (kd 0) 9 v63 from (R_of (lo := 0) (hi := 8) r65 rfl))
          have F70 : Fr [(23, 0), (23, 1), (23, 2), (23, 3), (23, 4), (30, 4), (30, 5), (30, 6), (30, 7), (30, 8), (30, 9), (30, 10), (35, 4), (0, 9)] [24, 25, 26, 27, 31, 32, 33, 34, 36, 37, 38, 228, 229] τ t66 := Fr_mu F62 M67 (by decide)
          refine r_iconst S dX11_restore_40 (by decide) (fun v71 z72 => ?_)
          have r73 := R_eq z72
          exact r_ret S hr hlk X68 ⟨I69, F70, (WI_0 hIM (((M67.2 23 2 (Or.inl (by decide))).trans (q55.trans z35)).trans (rfl.symm.trans z35).symm) (((M67.2 30 8 (Or.inl (by decide))).trans (q56.trans z38)).trans (rfl.symm.trans z38).symm)), (HI_0 M67.1 (by omega)), (YW_eq q54 (fun j => ((M67.2 36 j (Or.inl (by decide))).trans rfl)) (fun j => ((M67.2 37 j (Or.inl (by decide))).trans rfl))), (R_of r73 rfl), (by have h1_0 := congrArg Int32.toInt ((M67.2 0 11 (Or.inr (by decide))).trans ((q53 0 11 (by decide)).trans z2)); have h2_0 := congrArg Int32.toInt z2; omega), (by have h1_0 := congrArg Int32.toInt ((M67.2 0 11 (Or.inr (by decide))).trans ((q53 0 11 (by decide)).trans z2)); have h2_0 := congrArg Int32.toInt z2; omega), (by omega), ⟨(fun h => by exfalso; omega), fun _ _ j hj => (match j, hj with | 0, _ => (((M67.2 23 0 (Or.inl (by decide))).trans (q57.trans z41)).trans (rfl.symm.trans z41).symm) | 1, _ => (((M67.2 23 1 (Or.inl (by decide))).trans (q58.trans z44)).trans (rfl.symm.trans z44).symm) | 2, _ => (((M67.2 23 2 (Or.inl (by decide))).trans (q55.trans z35)).trans (rfl.symm.trans z35).symm) | 3, _ => (((M67.2 23 3 (Or.inl (by decide))).trans (q59.trans z47)).trans (rfl.symm.trans z47).symm) | 4, _ => (((M67.2 23 4 (Or.inl (by decide))).trans (q60.trans z50)).trans (rfl.symm.trans z50).symm) | n + 5, h => absurd h (by omega)), (fun _ h => by exfalso; omega)⟩, ⟨(fun h => by exfalso; omega), fun _ _ => ⟨fun j hj => ((qof_of (k := 28) (fun j => ((M67.2 228 j (Or.inl (by decide))).trans rfl)) j).trans (q61.1 j hj)).trans (qof_of (k := 99) (fun j => rfl) j), fun j hj => ((qof_of (k := 29) (fun j => ((M67.2 229 j (Or.inl (by decide))).trans rfl)) j).trans (q61.2 j hj)).trans (qof_of (k := 100) (fun j => rfl) j)⟩, (fun _ h => by exfalso; omega)⟩⟩ (nr_bool (R_of (lo := 0) (hi := 1) r73 rfl)) dX11_restore_41
        ·
          refine r_kv (q_V (As := [.ref (G.2.2.2.1 111)]) (rest := []) (K := 22) (ci := 8) S X20 (c_wcopyn_22_111 l G τ hI hYW hYB) ck11_301 (Nat.le_of_ble_eq_true rfl) rfl (fun _ => ⟨_, rfl⟩) ⟨_, _, rfl⟩ ⟨Nat.le_of_ble_eq_true rfl, Nat.le_of_ble_eq_true rfl⟩ rfl hl.1 rfl (Nat.le_of_ble_eq_true rfl) dX11_restore_32 ⟨Nat.le_refl 0, Nat.le_refl 0⟩) X20 (fun t76 H lc q74 X75 => ?_)
          unfold po_wcopyn_22_111 at q74
          obtain ⟨v77, z78⟩ : ∃ x, τ 112 2 = x := ⟨_, rfl⟩
          have r79 : R (0) (9) v77 := rd hI rfl z78
          obtain ⟨v80, z81⟩ : ∃ x, τ 119 8 = x := ⟨_, rfl⟩
          have r82 : R (-1) (8) v80 := rd hI rfl z81
          obtain ⟨v83, z84⟩ : ∃ x, τ 112 0 = x := ⟨_, rfl⟩
          have r85 : R (0) (8) v83 := rd hI rfl z84
          obtain ⟨v86, z87⟩ : ∃ x, τ 112 1 = x := ⟨_, rfl⟩
          have r88 : R (0) (9) v86 := rd hI rfl z87
          obtain ⟨v89, z90⟩ : ∃ x, τ 112 3 = x := ⟨_, rfl⟩
          have r91 : R (0) (10) v89 := rd hI rfl z90
          obtain ⟨v92, z93⟩ : ∃ x, τ 112 4 = x := ⟨_, rfl⟩
          have r94 := R_any v92
          obtain ⟨q95, q96, q97, q98, q99, q100, q101, q102, q103, q104⟩ := q74
          have F105 : Fr [(23, 0), (23, 1), (23, 2), (23, 3), (23, 4), (30, 4), (30, 5), (30, 6), (30, 7), (30, 8), (30, 9), (30, 10), (35, 4), (0, 9)] [24, 25, 26, 27, 31, 32, 33, 34, 36, 37, 38, 228, 229] τ t76 := Fr_call Fr_rfl q96 (by decide)
          refine r_aload_n S dX11_restore_35 rfl (lv_at hl 0 rfl) ?_
          refine r_iconst S dX11_restore_36 (by decide) (fun v106 z107 => ?_)
          have r108 := R_eq z107
          refine r_put (K := 0) (ty := .int) S X75 (Nat.le_of_ble_eq_true rfl) rfl lk11_116_9 (fun _ => ⟨_, rfl, Nat.le_of_ble_eq_true rfl, rfl⟩) (fun _ _ _ h => by cases h; exact ⟨rfl, rfl⟩) rfl rfl dX11_restore_37 (fun t109 H lc M110 X111 => ?_)
          have I112 := Inv_mu q95 M110 (show Rg (kd 0) 9 v106 from (R_of (lo := 0) (hi := 8) r108 rfl))
          have F113 : Fr [(23, 0), (23, 1), (23, 2), (23, 3), (23, 4), (30, 4), (30, 5), (30, 6), (30, 7), (30, 8), (30, 9), (30, 10), (35, 4), (0, 9)] [24, 25, 26, 27, 31, 32, 33, 34, 36, 37, 38, 228, 229] τ t109 := Fr_mu F105 M110 (by decide)
          refine r_iconst S dX11_restore_40 (by decide) (fun v114 z115 => ?_)
          have r116 := R_eq z115
          exact r_ret S hr hlk X111 ⟨I112, F113, (WI_1 hIM (((M110.2 23 2 (Or.inl (by decide))).trans (q98.trans z78)).trans (rfl.symm.trans z78).symm) (((M110.2 30 8 (Or.inl (by decide))).trans (q99.trans z81)).trans (rfl.symm.trans z81).symm)), (HI_0 M110.1 (by omega)), (YW_eq q97 (fun j => ((M110.2 36 j (Or.inl (by decide))).trans rfl)) (fun j => ((M110.2 37 j (Or.inl (by decide))).trans rfl))), (R_of r116 rfl), (by have h1_0 := congrArg Int32.toInt ((M110.2 0 11 (Or.inr (by decide))).trans ((q96 0 11 (by decide)).trans z2)); have h2_0 := congrArg Int32.toInt z2; omega), (by have h1_0 := congrArg Int32.toInt ((M110.2 0 11 (Or.inr (by decide))).trans ((q96 0 11 (by decide)).trans z2)); have h2_0 := congrArg Int32.toInt z2; omega), (by omega), ⟨(fun h => by exfalso; omega), (fun _ h => by exfalso; omega), fun _ _ j hj => (match j, hj with | 0, _ => (((M110.2 23 0 (Or.inl (by decide))).trans (q100.trans z84)).trans (rfl.symm.trans z84).symm) | 1, _ => (((M110.2 23 1 (Or.inl (by decide))).trans (q101.trans z87)).trans (rfl.symm.trans z87).symm) | 2, _ => (((M110.2 23 2 (Or.inl (by decide))).trans (q98.trans z78)).trans (rfl.symm.trans z78).symm) | 3, _ => (((M110.2 23 3 (Or.inl (by decide))).trans (q102.trans z90)).trans (rfl.symm.trans z90).symm) | 4, _ => (((M110.2 23 4 (Or.inl (by decide))).trans (q103.trans z93)).trans (rfl.symm.trans z93).symm) | n + 5, h => absurd h (by omega))⟩, ⟨(fun h => by exfalso; omega), (fun _ h => by exfalso; omega), fun _ _ => ⟨fun j hj => ((qof_of (k := 28) (fun j => ((M110.2 228 j (Or.inl (by decide))).trans rfl)) j).trans (q104.1 j hj)).trans (qof_of (k := 117) (fun j => rfl) j), fun j hj => ((qof_of (k := 29) (fun j => ((M110.2 229 j (Or.inl (by decide))).trans rfl)) j).trans (q104.2 j hj)).trans (qof_of (k := 118) (fun j => rfl) j)⟩⟩⟩ (nr_bool (R_of (lo := 0) (hi := 1) r116 rfl)) dX11_restore_41
      ·
        have r117 : R (0) (0) v22 := ⟨by omega, by omega⟩
        refine r_iconst S dX11_restore_20 (by decide) (fun v118 z119 => ?_)
        have r120 := R_eq z119
        exact r_ret S hr hlk X20 ⟨hI, Fr_rfl, hWI, hHI, hYW, (R_of r120 rfl), (by have h1_0 := congrArg Int32.toInt z2; have h2_0 := congrArg Int32.toInt z2; omega), (by have h1_0 := congrArg Int32.toInt z2; have h2_0 := congrArg Int32.toInt z2; omega), (by omega), ⟨fun _ j => rfl, (fun h => by exfalso; omega), (fun h => by exfalso; omega)⟩, ⟨fun _ => ⟨fun j => rfl, fun j => rfl⟩, (fun h => by exfalso; omega), (fun h => by exfalso; omega)⟩⟩ (nr_bool (R_of (lo := 0) (hi := 1) r120 rfl)) dX11_restore_21
def po_X12_image_n (τ : Tau)  (a0 : Int32)   (r : Int32) (u : Tau) : Prop := Inv u ∧ Fr [(131, 0)] [150, 152, 351] τ u ∧ R (0) (1) r ∧ PK u ∧ (0 ≤ a0.toInt ∧ a0.toInt ≤ 1 → r.toInt = 1) ∧ (a0.toInt < 0 ∨ 1 < a0.toInt → r.toInt = 0) ∧ ((a0.toInt = 0 → (u 152 0).toInt = 1 ∧ u 152 1 = τ 152 1) ∧ (a0.toInt = 1 → (u 152 1).toInt = 1 ∧ u 152 0 = τ 152 0)) ∧ (a0.toInt < 0 ∨ 1 < a0.toInt → u 152 0 = τ 152 0 ∧ u 152 1 = τ 152 1) ∧ ((r.toInt = 1 → (∀ j : Nat, j < 5 → u 150 ((513 * a0.toInt).toNat + j) = τ 133 j) ∧ ∀ j : Nat, ((j : Int) < 513 * a0.toInt ∨ 513 * a0.toInt + 513 ≤ (j : Int)) → u 150 j = τ 150 j) ∧ (r.toInt = 0 → ∀ j, u 150 j = τ 150 j)) ∧ ((r.toInt = 1 → (∀ j : Nat, j < 19 → qof u 151 ((19 * a0.toInt).toNat + j) = qof τ 136 j) ∧ ∀ j : Nat, (j < (19 * a0.toInt).toNat ∨ (19 * a0.toInt).toNat + 19 ≤ j) → qof u 151 j = qof τ 151 j) ∧ (r.toInt = 0 → ∀ j, u 351 j = τ 351 j))
set_option maxHeartbeats 4000000 in
set_option maxRecDepth 100000 in
theorem c_X12_image_n (l : Launch) (G : Gx) (τ : Tau) (hI : Inv τ) (a0 : Int32) (h_a0 : R (-2147483648) (2147483647) a0) (hp_0 : PF τ) (hp_1 : PK τ) : Ci l G yX12_image cX12_image 3 (some .boolean) 1 22 [.ref (G.2.2.2.1 131), .int a0] τ (po_X12_image_n τ  a0  ) := by
  unfold Ci
  refine C_of (own := RX12) (by decide) rfl (Nat.le_of_ble_eq_true rfl) ?_
  intro p e s m below meth c ls S hr hlk X hl
  have hl : lv_has ls 3 [(0, .ref (G.2.2.2.1 131)), (1, .int a0)] := hl
  refine r_aload_n S dX12_image_0 rfl (lv_at hl 0 rfl) ?_
  refine r_iconst S dX12_image_1 (by decide) (fun v1 z2 => ?_)
  have r3 := R_eq z2
  refine r_put (K := 38) (ty := .int) S X (Nat.le_of_ble_eq_true rfl) rfl lk12_1_10 (fun _ => ⟨_, rfl, Nat.le_of_ble_eq_true rfl, rfl⟩) (fun _ _ _ h => by cases h; exact ⟨rfl, rfl⟩) rfl rfl dX12_image_2 (fun t4 H lc M5 X6 => ?_)
  have I7 := Inv_mu hI M5 (R_any v1)
  have F8 : Fr [(131, 0)] [150, 152, 351] τ t4 := Fr_mu Fr_rfl M5 (by decide)
  refine r_iload_n S dX12_image_5 rfl (lv_at hl 1 rfl) ?_
  refine r_iconst S dX12_image_6 (by decide) (fun v9 z10 => ?_)
  have r11 := R_eq z10
  refine r_iconst S dX12_image_7 (by decide) (fun v12 z13 => ?_)
  have r14 := R_eq z13
  refine r_ki (q_S (As := [.int a0, .int v9, .int v12]) (rest := []) S X6 (c_X12_isIn_x l G t4 I7 a0 v9 v12 h_a0 (R_of (lo := -2147483648) (hi := 2147483647) r11 rfl) (R_of (lo := -2147483648) (hi := 2147483647) r14 rfl)) ck12_189 ⟨Nat.le_of_ble_eq_true rfl, Nat.le_of_ble_eq_true rfl⟩ rfl hl.1 rfl (Nat.le_of_ble_eq_true rfl) dX12_image_8 ⟨Nat.le_refl 0, Nat.le_refl 0⟩) X6 (fun v18 t17 H lc q15 X16 => ?_)
  unfold po_X12_isIn_x at q15
  obtain ⟨q19, q20, q21, q22⟩ := q15
  rw [q19] at X16
  refine r_if_ne (tgt := 16) S dX12_image_11 (by decide) (fun c23 => ?_) (fun c23 => ?_)
  ·
    have r24 : R (1) (1) v18 := ⟨by omega, by omega⟩
    obtain ⟨p25, p26⟩ := q21 (by omega)
    have r27 : R (0) (1) a0 := ⟨by omega, by omega⟩
    refine r_iconst S dX12_image_16 (by decide) (fun v28 z29 => ?_)
    have r30 := R_eq z29
    refine r_istore_n (lv' := [(2, .int v28), (0, .ref (G.2.2.2.1 131)), (1, .int a0)]) S dX12_image_17 rfl hl (by decide) rfl (fun ls hl => ?_)
    have L1161 : ∀ (n : Nat) (t1156 : Tau) (H : Heap) (lc : List Loc) (ls : Array Slot) (i1154 : Int32), Xd G s H lc t1156 → Inv t1156 → Fr [(131, 0)] [150, 152, 351] τ t1156 → R (0) (513) i1154 → t1156 131 0 = v1 → (∀ j : Nat, (j : Int) < i1154.toInt → t1156 150 ((513 * a0.toInt).toNat + j) = τ 133 j) → (∀ j : Nat, ((j : Int) < 513 * a0.toInt ∨ 513 * a0.toInt + 513 ≤ (j : Int)) → t1156 150 j = τ 150 j) → (∀ j : Nat, t1156 152 j = τ 152 j) → (∀ j : Nat, t1156 336 j = t4 336 j) → (∀ j : Nat, t1156 351 j = t4 351 j) → lv_has ls 3 [(0, .ref (G.2.2.2.1 131)), (1, .int a0), (2, .int i1154)] → (513 - i1154.toInt).toNat < n → W p l e (Rm 1 22) s m ([.ref (G.2.2.2.1 131), .int a0] : List Value).toArray below meth c H lc 0 0 (MQ below (va_Qi (po_X12_image_n τ  a0  ) (Bs G) G.2.2.2.2) ([.ref (G.2.2.2.1 131), .int a0] : List Value).toArray s 0 0 G.2.2.2.2) (F0 m 18 ls []) := by
      intro n
      induction n with
      | zero => intros; omega
      | succ n ih1167 =>
        intro t1156 H lc ls i1154 X1159 I1157 F1158 r1155 z1160 x1162 x1163 x1164 kp1165 kp1166 hl hm
        refine r_iload_n S dX12_image_18 rfl (lv_at hl 2 rfl) ?_
        refine r_sipush S dX12_image_19 (by decide) (fun v1168 z1169 => ?_)
        have r1170 := R_eq z1169
        refine r_icmp_ge (tgt := 49) S dX12_image_22 (by decide) (fun c1171 => ?_) (fun c1171 => ?_)
        ·
          have r1172 : R (513) (513) i1154 := ⟨by omega, by omega⟩
          refine r_iconst S dX12_image_49 (by decide) (fun v1173 z1174 => ?_)
          have r1175 := R_eq z1174
          refine r_istore_n (lv' := [(2, .int v1173), (0, .ref (G.2.2.2.1 131)), (1, .int a0)]) S dX12_image_50 rfl hl (by decide) rfl (fun ls hl => ?_)
          have L1505 : ∀ (n : Nat) (t1500 : Tau) (H : Heap) (lc : List Loc) (ls : Array Slot) (i1498 : Int32), Xd G s H lc t1500 → Inv t1500 → Fr [(131, 0)] [150, 152, 351] τ t1500 → R (0) (19) i1498 → t1500 131 0 = v1 → (∀ k : Nat, (k : Int) < (i1498).toInt → qof t1500 151 ((19 * a0.toInt).toNat + k) = qof t1156 136 k) → (∀ k : Nat, (k < (19 * a0.toInt).toNat ∨ (19 * a0.toInt).toNat + 19 ≤ k) → qof t1500 151 k = qof t1156 151 k) → (∀ j : Nat, t1500 150 j = t1156 150 j) → (∀ j : Nat, t1500 152 j = t1156 152 j) → (∀ j : Nat, t1500 336 j = t1156 336 j) → lv_has ls 3 [(0, .ref (G.2.2.2.1 131)), (1, .int a0), (2, .int i1498)] → (19 - i1498.toInt).toNat < n → W p l e (Rm 1 22) s m ([.ref (G.2.2.2.1 131), .int a0] : List Value).toArray below meth c H lc 0 0 (MQ below (va_Qi (po_X12_image_n τ  a0  ) (Bs G) G.2.2.2.2) ([.ref (G.2.2.2.1 131), .int a0] : List Value).toArray s 0 0 G.2.2.2.2) (F0 m 51 ls []) := by
            intro n
            induction n with
            | zero => intros; omega
            | succ n ih1511 =>
              intro t1500 H lc ls i1498 X1503 I1501 F1502 r1499 z1504 x1506 x1507 kp1508 kp1509 kp1510 hl hm
              refine r_iload_n S dX12_image_51 rfl (lv_at hl 2 rfl) ?_
              refine r_bipush S dX12_image_52 (by decide) (fun v1512 z1513 => ?_)
              have r1514 := R_eq z1513
              refine r_icmp_ge (tgt := 80) S dX12_image_54 (by decide) (fun c1515 => ?_) (fun c1515 => ?_)
              ·
                have r1516 : R (19) (19) i1498 := ⟨by omega, by omega⟩
                refine r_aload_n S dX12_image_80 rfl (lv_at hl 0 rfl) ?_
                refine r_get (K := 38) (v := .ref (G.2.2.2.1 152)) S X1503 (Nat.le_of_ble_eq_true rfl) rfl lk12_96_10 (fun _ => ⟨_, rfl, rfl⟩) dX12_image_81 ?_
                refine r_iload_n S dX12_image_84 rfl (lv_at hl 1 rfl) ?_
                refine r_iconst S dX12_image_85 (by decide) (fun v1517 z1518 => ?_)
                have r1519 := R_eq z1518
                refine r_zast (n := 2) (K := 59) S X1503 (Nat.le_of_ble_eq_true rfl) rfl (fun _ _ => rfl) (ix_of r27 rfl) (R_of (lo := 0) (hi := 1) r1519 rfl) dX12_image_86 (fun t1520 H lc M1521 X1522 => ?_)
                have I1523 := Inv_mu I1501 M1521 (show Rg (kd 152) _ v1517 from (R_of (lo := 0) (hi := 1) r1519 rfl))
                have F1524 : Fr [(131, 0)] [150, 152, 351] τ t1520 := Fr_cell F1502 M1521 (by decide)
                refine r_iconst S dX12_image_87 (by decide) (fun v1525 z1526 => ?_)
                have r1527 := R_eq z1526
                exact r_ret S hr hlk X1522 ⟨I1523, F1524, (R_of r1527 rfl), (PK_eq (PK_img hp_0 hp_1 ⟨by omega, by omega⟩ (by omega) x1162 x1163) (fun j => ((M1521.2 150 j (Or.inl (by decide))).trans ((kp1508 j).trans rfl)))), (by omega), (by omega), (kp_mu M1521 (by omega) ⟨by omega, by omega⟩ (fun j => (((kp1509 j).trans rfl)).trans (x1164 j))), (fun h => by exfalso; omega), ⟨fun _ => ⟨fun j hj => (((M1521.2 150 ((513 * a0.toInt).toNat + j) (Or.inl (by decide))).trans ((kp1508 ((513 * a0.toInt).toNat + j)).trans rfl))).trans (x1162 j (by omega)), fun j hj => (((M1521.2 150 j (Or.inl (by decide))).trans ((kp1508 j).trans rfl))).trans (x1163 j hj)⟩, fun h => by exfalso; omega⟩, ⟨fun _ => ⟨fun j hj => ((qof_of (k := 151) (fun j => ((M1521.2 351 j (Or.inl (by decide))).trans rfl)) _).trans (x1506 j (by omega))).trans (qof_of (k := 136) (fun j => ((kp1165 j).trans ((M5.2 336 j (Or.inl (by decide))).trans rfl))) _), fun j hj => ((qof_of (k := 151) (fun j => ((M1521.2 351 j (Or.inl (by decide))).trans rfl)) _).trans (x1507 j hj)).trans (qof_of (k := 151) (fun j => ((kp1166 j).trans ((M5.2 351 j (Or.inl (by decide))).trans rfl))) _)⟩, fun h => by exfalso; omega⟩⟩ (nr_bool (R_of (lo := 0) (hi := 1) r1527 rfl)) dX12_image_88
              ·
                have r1528 : R (0) (18) i1498 := ⟨by omega, by omega⟩
                refine r_aload_n S dX12_image_57 rfl (lv_at hl 0 rfl) ?_
                refine r_get (K := 38) (v := .ref (G.2.2.2.1 151)) S X1503 (Nat.le_of_ble_eq_true rfl) rfl lk12_93_10 (fun _ => ⟨_, rfl, rfl⟩) dX12_image_58 ?_
                refine r_bipush S dX12_image_61 (by decide) (fun v1529 z1530 => ?_)
                have r1531 := R_eq z1530
                refine r_iload_n S dX12_image_63 rfl (lv_at hl 1 rfl) ?_
                refine r_imul S dX12_image_64 (fun v1532 z1533 => ?_)
                obtain ⟨e1534, r1535⟩ := i_mul (lo := 0) (hi := 19) z1533 r1531 r27 rfl rfl
                have e1536 : v1532.toInt = 19 * a0.toInt := by rw [e1534, show v1529.toInt = 19 by omega]
                refine r_iload_n S dX12_image_65 rfl (lv_at hl 2 rfl) ?_
                refine r_iadd S dX12_image_66 (fun v1537 z1538 => ?_)
                obtain ⟨e1539, r1540⟩ := i_add (lo := 0) (hi := 37) z1538 r1535 r1528 rfl
                refine r_aload_n S dX12_image_67 rfl (lv_at hl 0 rfl) ?_
                refine r_get (K := 38) (v := .ref (G.2.2.2.1 136)) S X1503 (Nat.le_of_ble_eq_true rfl) rfl lk12_43_10 (fun _ => ⟨_, rfl, rfl⟩) dX12_image_68 ?_
                refine r_iload_n S dX12_image_71 rfl (lv_at hl 2 rfl) ?_
                refine r_lald (n := 38) (K := 43) S X1503 (Nat.le_of_ble_eq_true rfl) rfl (fun _ => rfl) (ix_of r1528 rfl) dX12_image_72 (fun j1541 z1542 => ?_)
                refine r_last (n := 38) (K := 58) S X1503 (Nat.le_of_ble_eq_true rfl) rfl (fun _ => rfl) (ix_of r1540 rfl) dX12_image_73 (fun t1544 H lc M1545 X1543 => ?_)
                have I1546 := Inv_ml I1501 M1545
                have F1547 : Fr [(131, 0)] [150, 152, 351] τ t1544 := Fr_ml F1502 M1545 (by decide)
                refine r_iinc (k := 2) S dX12_image_74 hl rfl (by decide) (by decide) (fun v1548 d1549 ls z1550 z1551 hl => ?_)
                obtain ⟨e1552, r1553⟩ := i_add (lo := 1) (hi := 19) z1550 r1528 (R_eq z1551) rfl
                have hl : lv_has ls 3 [(2, .int v1548), (0, .ref (G.2.2.2.1 131)), (1, .int a0)] := hl
                refine r_goto (tgt := 51) S dX12_image_77 (by decide) ?_
                exact ih1511 t1544 _ _ _ v1548 X1543 I1546 F1547 (R_of r1553 rfl) ((M1545.1 131 (by decide) 0).trans z1504) (cpl_up (f := qof t1156 136) (i := i1498) x1506 M1545 ((qof_of (k := 136) (fun j => ((kp1510 j).trans rfl)) _).symm.trans z1542) (by omega) (by omega) (by omega)) (cpl_ot (n := 19) (i := i1498) x1507 M1545 (by omega) ⟨by omega, by omega⟩) (fun j => ((M1545.1 150 (by decide) j).trans ((kp1508 j).trans rfl))) (fun j => ((M1545.1 152 (by decide) j).trans ((kp1509 j).trans rfl))) (fun j => ((M1545.1 336 (by decide) j).trans ((kp1510 j).trans rfl))) (lv_sub hl [1, 2, 0] rfl) (by omega)
          exact L1505 _ t1156 _ _ _ v1173 X1159 I1157 F1158 (R_of r1175 rfl) z1160 (fun k hk => by exfalso; omega) (fun k _ => rfl) (fun j => rfl) (fun j => rfl) (fun j => rfl) (lv_sub hl [1, 2, 0] rfl) (Nat.lt_succ_self _)
        ·
          have r1554 : R (0) (512) i1154 := ⟨by omega, by omega⟩
          refine r_aload_n S dX12_image_25 rfl (lv_at hl 0 rfl) ?_
          refine r_get (K := 38) (v := .ref (G.2.2.2.1 150)) S X1159 (Nat.le_of_ble_eq_true rfl) rfl lk12_90_10 (fun _ => ⟨_, rfl, rfl⟩) dX12_image_26 ?_
          refine r_sipush S dX12_image_29 (by decide) (fun v1555 z1556 => ?_)
          have r1557 := R_eq z1556
          refine r_iload_n S dX12_image_32 rfl (lv_at hl 1 rfl) ?_
          refine r_imul S dX12_image_33 (fun v1558 z1559 => ?_)
          obtain ⟨e1560, r1561⟩ := i_mul (lo := 0) (hi := 513) z1559 r1557 r27 rfl rfl
          have e1562 : v1558.toInt = 513 * a0.toInt := by rw [e1560, show v1555.toInt = 513 by omega]
          refine r_iload_n S dX12_image_34 rfl (lv_at hl 2 rfl) ?_
          refine r_iadd S dX12_image_35 (fun v1563 z1564 => ?_)
          obtain ⟨e1565, r1566⟩ := i_add (lo := 0) (hi := 1025) z1564 r1561 r1554 rfl
          refine r_aload_n S dX12_image_36 rfl (lv_at hl 0 rfl) ?_
          refine r_get (K := 38) (v := .ref (G.2.2.2.1 133)) S X1159 (Nat.le_of_ble_eq_true rfl) rfl lk12_33_10 (fun _ => ⟨_, rfl, rfl⟩) dX12_image_37 ?_
          refine r_iload_n S dX12_image_40 rfl (lv_at hl 2 rfl) ?_
          refine r_aldn (n := 513) (K := 40) S X1159 (Nat.le_of_ble_eq_true rfl) rfl (fun _ => rfl) (ix_of r1554 rfl) dX12_image_41 (fun v1567 z1568 => ?_)
          have r1570 := R_any v1567
          have g1571 : Rg 40 i1154.toNatClampNeg v1567 := rd I1157 rfl z1568
          refine r_ast (n := 1026) (K := 57) S X1159 (Nat.le_of_ble_eq_true rfl) rfl (fun _ _ => rfl) (ix_of r1566 rfl) dX12_image_42 (fun t1572 H lc M1573 X1574 => ?_)
          have I1575 := Inv_mu I1157 M1573 (show Rg (kd 150) _ v1567 from seg_to (K := 57) (K2 := 40) (c := 0) (m := 513) (U := 2) (n := 513) (u := a0) (k := i1154) g1571 (R_of r27 rfl) (R_of r1554 rfl) (by omega) (by omega) (by decide +kernel))
          have F1576 : Fr [(131, 0)] [150, 152, 351] τ t1572 := Fr_cell F1158 M1573 (by decide)
          refine r_iinc (k := 2) S dX12_image_43 hl rfl (by decide) (by decide) (fun v1577 d1578 ls z1579 z1580 hl => ?_)
          obtain ⟨e1581, r1582⟩ := i_add (lo := 1) (hi := 513) z1579 r1554 (R_eq z1580) rfl
          have hl : lv_has ls 3 [(2, .int v1577), (0, .ref (G.2.2.2.1 131)), (1, .int a0)] := hl
          refine r_goto (tgt := 18) S dX12_image_46 (by decide) ?_
          exact ih1167 t1572 _ _ _ v1577 X1574 I1575 F1576 (R_of r1582 rfl) ((M1573.2 131 0 (Or.inl (by decide))).trans z1160) (img_a (f := τ 133) x1162 M1573 (by omega) (by omega) (by omega) ((F1158 133 i1154.toNatClampNeg (by simp [fz])).symm.trans z1568) (by omega)) (img_b (f := τ 150) (i := i1154) x1163 M1573 (by omega) (by omega) ⟨by omega, by omega⟩) (fun j => (((M1573.2 152 j (Or.inl (by decide))).trans rfl)).trans (x1164 j)) (fun j => ((M1573.2 336 j (Or.inl (by decide))).trans ((kp1165 j).trans rfl))) (fun j => ((M1573.2 351 j (Or.inl (by decide))).trans ((kp1166 j).trans rfl))) (lv_sub hl [1, 2, 0] rfl) (by omega)
    exact L1161 _ t4 _ _ _ v28 X16 I7 F8 (R_of r30 rfl) M5.1 (fun j hj => by exfalso; omega) (fun j hj => ((M5.2 150 j (Or.inl (by decide))).trans rfl)) (fun j => ((M5.2 152 j (Or.inl (by decide))).trans rfl)) (fun j => rfl) (fun j => rfl) (lv_sub hl [1, 2, 0] rfl) (Nat.lt_succ_self _)
  ·
    have r1583 : R (0) (0) v18 := ⟨by omega, by omega⟩
    refine r_iconst S dX12_image_14 (by decide) (fun v1584 z1585 => ?_)
    have r1586 := R_eq z1585
    exact r_ret S hr hlk X16 ⟨I7, F8, (R_of r1586 rfl), (PK_eq hp_1 (fun j => ((M5.2 150 j (Or.inl (by decide))).trans rfl))), (by omega), (by omega), ⟨fun h => by exfalso; omega, fun h => by exfalso; omega⟩, (fun _ => ⟨((M5.2 152 0 (Or.inl (by decide))).trans rfl), ((M5.2 152 1 (Or.inl (by decide))).trans rfl)⟩), ⟨fun h => by exfalso; omega, fun _ j => ((M5.2 150 j (Or.inl (by decide))).trans rfl)⟩, ⟨fun h => by exfalso; omega, fun _ j => ((M5.2 351 j (Or.inl (by decide))).trans rfl)⟩⟩ (nr_bool (R_of (lo := 0) (hi := 1) r1586 rfl)) dX12_image_15
def po_X12_restore_n (τ : Tau)  (a0 : Int32)   (r : Int32) (u : Tau) : Prop := Inv u ∧ Fr [(131, 0), (131, 24)] [133, 336] τ u ∧ R (0) (1) r ∧ PF u ∧ (a0.toInt = 0 → r.toInt = (τ 152 0).toInt) ∧ (a0.toInt = 1 → r.toInt = (τ 152 1).toInt) ∧ (a0.toInt < 0 ∨ 1 < a0.toInt → r.toInt = 0) ∧ ((r.toInt = 1 → ∀ j : Nat, j < 5 → u 133 j = τ 150 ((513 * a0.toInt).toNat + j)) ∧ (r.toInt = 0 → ∀ j, u 133 j = τ 133 j)) ∧ ((r.toInt = 1 → ∀ j : Nat, j < 19 → qof u 136 (0 + j) = qof τ 151 ((19 * a0.toInt).toNat + j)) ∧ (r.toInt = 0 → ∀ j, u 336 j = τ 336 j))
set_option maxHeartbeats 4000000 in
set_option maxRecDepth 100000 in
theorem c_X12_restore_n (l : Launch) (G : Gx) (τ : Tau) (hI : Inv τ) (a0 : Int32) (h_a0 : R (-2147483648) (2147483647) a0) (hp_0 : PF τ) (hp_1 : PK τ) : Ci l G yX12_restore cX12_restore 3 (some .boolean) 1 22 [.ref (G.2.2.2.1 131), .int a0] τ (po_X12_restore_n τ  a0  ) := by
  unfold Ci
  refine C_of (own := RX12) (by decide) rfl (Nat.le_of_ble_eq_true rfl) ?_
  intro p e s m below meth c ls S hr hlk X hl
  have hl : lv_has ls 3 [(0, .ref (G.2.2.2.1 131)), (1, .int a0)] := hl
  refine r_aload_n S dX12_restore_0 rfl (lv_at hl 0 rfl) ?_
  refine r_iconst S dX12_restore_1 (by decide) (fun v1 z2 => ?_)
  have r3 := R_eq z2
  refine r_put (K := 38) (ty := .int) S X (Nat.le_of_ble_eq_true rfl) rfl lk12_1_10 (fun _ => ⟨_, rfl, Nat.le_of_ble_eq_true rfl, rfl⟩) (fun _ _ _ h => by cases h; exact ⟨rfl, rfl⟩) rfl rfl dX12_restore_2 (fun t4 H lc M5 X6 => ?_)
  have I7 := Inv_mu hI M5 (R_any v1)
  have F8 : Fr [(131, 0), (131, 24)] [133, 336] τ t4 := Fr_mu Fr_rfl M5 (by decide)
  refine r_iload_n S dX12_restore_5 rfl (lv_at hl 1 rfl) ?_
  refine r_iconst S dX12_restore_6 (by decide) (fun v9 z10 => ?_)
  have r11 := R_eq z10
  refine r_iconst S dX12_restore_7 (by decide) (fun v12 z13 => ?_)
  have r14 := R_eq z13
  refine r_ki (q_S (As := [.int a0, .int v9, .int v12]) (rest := []) S X6 (c_X12_isIn_x l G t4 I7 a0 v9 v12 h_a0 (R_of (lo := -2147483648) (hi := 2147483647) r11 rfl) (R_of (lo := -2147483648) (hi := 2147483647) r14 rfl)) ck12_189 ⟨Nat.le_of_ble_eq_true rfl, Nat.le_of_ble_eq_true rfl⟩ rfl hl.1 rfl (Nat.le_of_ble_eq_true rfl) dX12_restore_8 ⟨Nat.le_refl 0, Nat.le_refl 0⟩) X6 (fun v18 t17 H lc q15 X16 => ?_)
  unfold po_X12_isIn_x at q15
  obtain ⟨q19, q20, q21, q22⟩ := q15
  rw [q19] at X16
  refine r_if_eq (tgt := 23) S dX12_restore_11 (by decide) (fun c23 => ?_) (fun c23 => ?_)
  ·
    have r24 : R (0) (0) v18 := ⟨by omega, by omega⟩
    refine r_iconst S dX12_restore_23 (by decide) (fun v25 z26 => ?_)
    have r27 := R_eq z26
    exact r_ret S hr hlk X16 ⟨I7, F8, (R_of r27 rfl), (PF_eq hp_0 (fun j _ => ((M5.2 133 j (Or.inl (by decide))).trans rfl))), (by omega), (by omega), (by omega), ⟨fun h => by exfalso; omega, fun _ j => ((M5.2 133 j (Or.inl (by decide))).trans rfl)⟩, ⟨fun h => by exfalso; omega, fun _ j => ((M5.2 336 j (Or.inl (by decide))).trans rfl)⟩⟩ (nr_bool (R_of (lo := 0) (hi := 1) r27 rfl)) dX12_restore_24
  ·
    have r28 : R (1) (1) v18 := ⟨by omega, by omega⟩
    obtain ⟨p29, p30⟩ := q21 (by omega)
    have r31 : R (0) (1) a0 := ⟨by omega, by omega⟩
    refine r_aload_n S dX12_restore_14 rfl (lv_at hl 0 rfl) ?_
    refine r_get (K := 38) (v := .ref (G.2.2.2.1 152)) S X16 (Nat.le_of_ble_eq_true rfl) rfl lk12_96_10 (fun _ => ⟨_, rfl, rfl⟩) dX12_restore_15 ?_
    refine r_iload_n S dX12_restore_18 rfl (lv_at hl 1 rfl) ?_
    refine r_zald (n := 2) (K := 59) S X16 (Nat.le_of_ble_eq_true rfl) rfl (fun _ => rfl) (ix_of r31 rfl) dX12_restore_19 (fun v32 z33 => ?_)
    have r34 : R (0) (1) v32 := rd I7 rfl z33
    obtain ⟨h35, h36⟩ := kr_rd (τ := τ) z33 (fun j => ((M5.2 152 j (Or.inl (by decide))).trans rfl))
    refine r_if_ne (tgt := 25) S dX12_restore_20 (by decide) (fun c37 => ?_) (fun c37 => ?_)
    ·
      have r38 : R (1) (1) v32 := ⟨by omega, by omega⟩
      refine r_iconst S dX12_restore_25 (by decide) (fun v39 z40 => ?_)
      have r41 := R_eq z40
      refine r_istore_n (lv' := [(2, .int v39), (0, .ref (G.2.2.2.1 131)), (1, .int a0)]) S dX12_restore_26 rfl hl (by decide) rfl (fun ls hl => ?_)
      have L1178 : ∀ (n : Nat) (t1173 : Tau) (H : Heap) (lc : List Loc) (ls : Array Slot) (i1171 : Int32), Xd G s H lc t1173 → Inv t1173 → Fr [(131, 0), (131, 24)] [133, 336] τ t1173 → R (0) (513) i1171 → t1173 131 0 = v1 → (∀ j : Nat, (j : Int) < i1171.toInt → t1173 133 j = τ 150 ((513 * a0.toInt).toNat + j)) → (∀ j : Nat, t1173 351 j = t4 351 j) → lv_has ls 3 [(0, .ref (G.2.2.2.1 131)), (1, .int a0), (2, .int i1171)] → (513 - i1171.toInt).toNat < n → W p l e (Rm 1 22) s m ([.ref (G.2.2.2.1 131), .int a0] : List Value).toArray below meth c H lc 0 0 (MQ below (va_Qi (po_X12_restore_n τ  a0  ) (Bs G) G.2.2.2.2) ([.ref (G.2.2.2.1 131), .int a0] : List Value).toArray s 0 0 G.2.2.2.2) (F0 m 27 ls []) := by
        intro n
        induction n with
        | zero => intros; omega
        | succ n ih1181 =>
          intro t1173 H lc ls i1171 X1176 I1174 F1175 r1172 z1177 x1179 kp1180 hl hm
          refine r_iload_n S dX12_restore_27 rfl (lv_at hl 2 rfl) ?_
          refine r_sipush S dX12_restore_28 (by decide) (fun v1182 z1183 => ?_)
          have r1184 := R_eq z1183
          refine r_icmp_ge (tgt := 58) S dX12_restore_31 (by decide) (fun c1185 => ?_) (fun c1185 => ?_)
          ·
            have r1186 : R (513) (513) i1171 := ⟨by omega, by omega⟩
            refine r_iconst S dX12_restore_58 (by decide) (fun v1187 z1188 => ?_)
            have r1189 := R_eq z1188
            refine r_istore_n (lv' := [(2, .int v1187), (0, .ref (G.2.2.2.1 131)), (1, .int a0)]) S dX12_restore_59 rfl hl (by decide) rfl (fun ls hl => ?_)
            have L1519 : ∀ (n : Nat) (t1514 : Tau) (H : Heap) (lc : List Loc) (ls : Array Slot) (i1512 : Int32), Xd G s H lc t1514 → Inv t1514 → Fr [(131, 0), (131, 24)] [133, 336] τ t1514 → R (0) (19) i1512 → t1514 131 0 = v1 → (∀ k : Nat, (k : Int) < (i1512).toInt → qof t1514 136 (0 + k) = qof t1173 151 ((19 * a0.toInt).toNat + k)) → (∀ j : Nat, t1514 133 j = t1173 133 j) → (∀ j : Nat, t1514 351 j = t1173 351 j) → lv_has ls 3 [(0, .ref (G.2.2.2.1 131)), (1, .int a0), (2, .int i1512)] → (19 - i1512.toInt).toNat < n → W p l e (Rm 1 22) s m ([.ref (G.2.2.2.1 131), .int a0] : List Value).toArray below meth c H lc 0 0 (MQ below (va_Qi (po_X12_restore_n τ  a0  ) (Bs G) G.2.2.2.2) ([.ref (G.2.2.2.1 131), .int a0] : List Value).toArray s 0 0 G.2.2.2.2) (F0 m 60 ls []) := by
              intro n
              induction n with
              | zero => intros; omega
              | succ n ih1523 =>
                intro t1514 H lc ls i1512 X1517 I1515 F1516 r1513 z1518 x1520 kp1521 kp1522 hl hm
                refine r_iload_n S dX12_restore_60 rfl (lv_at hl 2 rfl) ?_
                refine r_bipush S dX12_restore_61 (by decide) (fun v1524 z1525 => ?_)
                have r1526 := R_eq z1525
                refine r_icmp_ge (tgt := 89) S dX12_restore_63 (by decide) (fun c1527 => ?_) (fun c1527 => ?_)
                ·
                  have r1528 : R (19) (19) i1512 := ⟨by omega, by omega⟩
                  refine r_aload_n S dX12_restore_89 rfl (lv_at hl 0 rfl) ?_
                  refine r_iconst S dX12_restore_90 (by decide) (fun v1529 z1530 => ?_)
                  have r1531 := R_eq z1530
                  refine r_put (K := 38) (ty := .int) S X1517 (Nat.le_of_ble_eq_true rfl) rfl lk12_249_10 (fun _ => ⟨_, rfl, Nat.le_of_ble_eq_true rfl, rfl⟩) (fun _ _ _ h => by cases h; exact ⟨rfl, rfl⟩) rfl rfl dX12_restore_91 (fun t1532 H lc M1533 X1534 => ?_)
                  have I1535 := Inv_mu I1515 M1533 (show Rg (kd 131) 24 v1529 from (R_of (lo := 0) (hi := 8) r1531 rfl))
                  have F1536 : Fr [(131, 0), (131, 24)] [133, 336] τ t1532 := Fr_mu F1516 M1533 (by decide)
                  refine r_iconst S dX12_restore_94 (by decide) (fun v1537 z1538 => ?_)
                  have r1539 := R_eq z1538
                  exact r_ret S hr hlk X1534 ⟨I1535, F1536, (R_of r1539 rfl), (PF_eq (PF_rst hp_1 ⟨by omega, by omega⟩ (by omega) x1179) (fun j _ => ((M1533.2 133 j (Or.inl (by decide))).trans ((kp1521 j).trans rfl)))), (by omega), (by omega), (by omega), ⟨fun _ j hj => (((M1533.2 133 j (Or.inl (by decide))).trans ((kp1521 j).trans rfl))).trans (x1179 j (by omega)), fun h => by exfalso; omega⟩, ⟨fun _ j hj => ((qof_of (k := 136) (fun j => ((M1533.2 336 j (Or.inl (by decide))).trans rfl)) _).trans (x1520 j (by omega))).trans (qof_of (k := 151) (fun j => ((kp1180 j).trans ((M5.2 351 j (Or.inl (by decide))).trans rfl))) _), fun h => by exfalso; omega⟩⟩ (nr_bool (R_of (lo := 0) (hi := 1) r1539 rfl)) dX12_restore_95
                ·
                  have r1540 : R (0) (18) i1512 := ⟨by omega, by omega⟩
                  refine r_aload_n S dX12_restore_66 rfl (lv_at hl 0 rfl) ?_
                  refine r_get (K := 38) (v := .ref (G.2.2.2.1 136)) S X1517 (Nat.le_of_ble_eq_true rfl) rfl lk12_43_10 (fun _ => ⟨_, rfl, rfl⟩) dX12_restore_67 ?_
                  refine r_iload_n S dX12_restore_70 rfl (lv_at hl 2 rfl) ?_
                  refine r_aload_n S dX12_restore_71 rfl (lv_at hl 0 rfl) ?_
                  refine r_get (K := 38) (v := .ref (G.2.2.2.1 151)) S X1517 (Nat.le_of_ble_eq_true rfl) rfl lk12_93_10 (fun _ => ⟨_, rfl, rfl⟩) dX12_restore_72 ?_
                  refine r_bipush S dX12_restore_75 (by decide) (fun v1541 z1542 => ?_)
                  have r1543 := R_eq z1542
                  refine r_iload_n S dX12_restore_77 rfl (lv_at hl 1 rfl) ?_
                  refine r_imul S dX12_restore_78 (fun v1544 z1545 => ?_)
                  obtain ⟨e1546, r1547⟩ := i_mul (lo := 0) (hi := 19) z1545 r1543 r31 rfl rfl
                  have e1548 : v1544.toInt = 19 * a0.toInt := by rw [e1546, show v1541.toInt = 19 by omega]
                  refine r_iload_n S dX12_restore_79 rfl (lv_at hl 2 rfl) ?_
                  refine r_iadd S dX12_restore_80 (fun v1549 z1550 => ?_)
                  obtain ⟨e1551, r1552⟩ := i_add (lo := 0) (hi := 37) z1550 r1547 r1540 rfl
                  refine r_lald (n := 38) (K := 58) S X1517 (Nat.le_of_ble_eq_true rfl) rfl (fun _ => rfl) (ix_of r1552 rfl) dX12_restore_81 (fun j1553 z1554 => ?_)
                  refine r_last (n := 38) (K := 43) S X1517 (Nat.le_of_ble_eq_true rfl) rfl (fun _ => rfl) (ix_of r1540 rfl) dX12_restore_82 (fun t1556 H lc M1557 X1555 => ?_)
                  have I1558 := Inv_ml I1515 M1557
                  have F1559 : Fr [(131, 0), (131, 24)] [133, 336] τ t1556 := Fr_ml F1516 M1557 (by decide)
                  refine r_iinc (k := 2) S dX12_restore_83 hl rfl (by decide) (by decide) (fun v1560 d1561 ls z1562 z1563 hl => ?_)
                  obtain ⟨e1564, r1565⟩ := i_add (lo := 1) (hi := 19) z1562 r1540 (R_eq z1563) rfl
                  have hl : lv_has ls 3 [(2, .int v1560), (0, .ref (G.2.2.2.1 131)), (1, .int a0)] := hl
                  refine r_goto (tgt := 60) S dX12_restore_86 (by decide) ?_
                  exact ih1523 t1556 _ _ _ v1560 X1555 I1558 F1559 (R_of r1565 rfl) ((M1557.1 131 (by decide) 0).trans z1518) (cpl_up (o := 0) (f := fun k => qof t1173 151 ((19 * a0.toInt).toNat + k)) (i := i1512) x1520 M1557 ((congrArg (qof t1173 151) (show (19 * a0.toInt).toNat + i1512.toInt.toNat = v1549.toNatClampNeg by (have c : v1549.toNatClampNeg = v1549.toInt.toNat := rfl; omega))).trans ((qof_of (k := 151) (fun j => ((kp1522 j).trans rfl)) _).symm.trans z1554)) (by omega) (by omega) (by omega)) (fun j => ((M1557.1 133 (by decide) j).trans ((kp1521 j).trans rfl))) (fun j => ((M1557.1 351 (by decide) j).trans ((kp1522 j).trans rfl))) (lv_sub hl [1, 2, 0] rfl) (by omega)
            exact L1519 _ t1173 _ _ _ v1187 X1176 I1174 F1175 (R_of r1189 rfl) z1177 (fun k hk => by exfalso; omega) (fun j => rfl) (fun j => rfl) (lv_sub hl [1, 2, 0] rfl) (Nat.lt_succ_self _)
          ·
            have r1566 : R (0) (512) i1171 := ⟨by omega, by omega⟩
            refine r_aload_n S dX12_restore_34 rfl (lv_at hl 0 rfl) ?_
            refine r_get (K := 38) (v := .ref (G.2.2.2.1 133)) S X1176 (Nat.le_of_ble_eq_true rfl) rfl lk12_33_10 (fun _ => ⟨_, rfl, rfl⟩) dX12_restore_35 ?_
            refine r_iload_n S dX12_restore_38 rfl (lv_at hl 2 rfl) ?_
            refine r_aload_n S dX12_restore_39 rfl (lv_at hl 0 rfl) ?_
            refine r_get (K := 38) (v := .ref (G.2.2.2.1 150)) S X1176 (Nat.le_of_ble_eq_true rfl) rfl lk12_90_10 (fun _ => ⟨_, rfl, rfl⟩) dX12_restore_40 ?_
            refine r_sipush S dX12_restore_43 (by decide) (fun v1567 z1568 => ?_)
            have r1569 := R_eq z1568
            refine r_iload_n S dX12_restore_46 rfl (lv_at hl 1 rfl) ?_
            refine r_imul S dX12_restore_47 (fun v1570 z1571 => ?_)
            obtain ⟨e1572, r1573⟩ := i_mul (lo := 0) (hi := 513) z1571 r1569 r31 rfl rfl
            have e1574 : v1570.toInt = 513 * a0.toInt := by rw [e1572, show v1567.toInt = 513 by omega]
            refine r_iload_n S dX12_restore_48 rfl (lv_at hl 2 rfl) ?_
            refine r_iadd S dX12_restore_49 (fun v1575 z1576 => ?_)
            obtain ⟨e1577, r1578⟩ := i_add (lo := 0) (hi := 1025) z1576 r1573 r1566 rfl
            refine r_aldn (n := 1026) (K := 57) S X1176 (Nat.le_of_ble_eq_true rfl) rfl (fun _ => rfl) (ix_of r1578 rfl) dX12_restore_50 (fun v1579 z1580 => ?_)
            have r1582 := R_any v1579
            have g1583 : Rg 57 v1575.toNatClampNeg v1579 := rd I1174 rfl z1580
            refine r_ast (n := 513) (K := 40) S X1176 (Nat.le_of_ble_eq_true rfl) rfl (fun _ _ => rfl) (ix_of r1566 rfl) dX12_restore_51 (fun t1584 H lc M1585 X1586 => ?_)
            have I1587 := Inv_mu I1174 M1585 (show Rg (kd 133) _ v1579 from seg_fr (K := 40) (K2 := 57) (c := 0) (m := 513) (U := 2) (n := 513) (u := a0) (k := i1171) g1583 (R_of r31 rfl) (R_of r1566 rfl) (by omega) (by omega) (by decide +kernel))
            have F1588 : Fr [(131, 0), (131, 24)] [133, 336] τ t1584 := Fr_cell F1175 M1585 (by decide)
            refine r_iinc (k := 2) S dX12_restore_52 hl rfl (by decide) (by decide) (fun v1589 d1590 ls z1591 z1592 hl => ?_)
            obtain ⟨e1593, r1594⟩ := i_add (lo := 1) (hi := 513) z1591 r1566 (R_eq z1592) rfl
            have hl : lv_has ls 3 [(2, .int v1589), (0, .ref (G.2.2.2.1 131)), (1, .int a0)] := hl
            refine r_goto (tgt := 27) S dX12_restore_55 (by decide) ?_
            exact ih1181 t1584 _ _ _ v1589 X1586 I1587 F1588 (R_of r1594 rfl) ((M1585.2 131 0 (Or.inl (by decide))).trans z1177) (rst_a (g := τ 150) x1179 M1585 (by omega) (ix := v1575) (by omega) (by omega) ((F1175 150 v1575.toNatClampNeg (by simp [fz])).symm.trans z1580) (by omega)) (fun j => ((M1585.2 351 j (Or.inl (by decide))).trans ((kp1180 j).trans rfl))) (lv_sub hl [1, 2, 0] rfl) (by omega)
      exact L1178 _ t4 _ _ _ v39 X16 I7 F8 (R_of r41 rfl) M5.1 (fun j hj => by exfalso; omega) (fun j => rfl) (lv_sub hl [1, 2, 0] rfl) (Nat.lt_succ_self _)
    ·
      have r1595 : R (0) (0) v32 := ⟨by omega, by omega⟩
      refine r_iconst S dX12_restore_23 (by decide) (fun v1596 z1597 => ?_)
      have r1598 := R_eq z1597
      exact r_ret S hr hlk X16 ⟨I7, F8, (R_of r1598 rfl), (PF_eq hp_0 (fun j _ => ((M5.2 133 j (Or.inl (by decide))).trans rfl))), (by omega), (by omega), (by omega), ⟨fun h => by exfalso; omega, fun _ j => ((M5.2 133 j (Or.inl (by decide))).trans rfl)⟩, ⟨fun h => by exfalso; omega, fun _ j => ((M5.2 336 j (Or.inl (by decide))).trans rfl)⟩⟩ (nr_bool (R_of (lo := 0) (hi := 1) r1598 rfl)) dX12_restore_24
