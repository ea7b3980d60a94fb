def po_wcopy_93_22 (τ : Tau)   (u : Tau) : Prop := Inv u ∧ Fr [(94, 0), (94, 1), (94, 2), (94, 3), (94, 4), (101, 4), (101, 5), (101, 6), (101, 7), (101, 8), (101, 9), (101, 10), (106, 4)] [95, 96, 97, 98, 102, 103, 104, 105, 107, 108, 109] τ u ∧ YA u ∧ u 94 2 = τ 23 2 ∧ u 101 8 = τ 30 8
set_option maxHeartbeats 4000000 in
set_option maxRecDepth 100000 in
theorem c_wcopy_93_22 (l : Launch) (G : Gx) (τ : Tau) (hI : Inv τ) (hYA : YA τ) (hYW : YW τ) : Cv l G yX10_copyFrom cX10_copyFrom 2 2 81 [.ref (G.2.2.2.1 93), .ref (G.2.2.2.1 22)] τ (po_wcopy_93_22 τ  ) := by
  unfold Cv
  refine C_of (own := RX10) (by decide) rfl (Nat.le_of_ble_eq_true rfl) ?_
  intro p e s m below meth c ls S hr hlk X hl
  have hl : lv_has ls 2 [(0, .ref (G.2.2.2.1 93)), (1, .ref (G.2.2.2.1 22))] := hl
  refine r_aload_n S dX10_copyFrom_0 rfl (lv_at hl 0 rfl) ?_
  refine r_get (K := 22) (v := .ref (G.2.2.2.1 94)) S X (Nat.le_of_ble_eq_true rfl) rfl lk10_12_8 (fun _ => ⟨_, rfl, rfl⟩) dX10_copyFrom_1 ?_
  refine r_aload_n S dX10_copyFrom_4 rfl (lv_at hl 1 rfl) ?_
  refine r_get (K := 22) (v := .ref (G.2.2.2.1 23)) S X (Nat.le_of_ble_eq_true rfl) rfl lk10_12_8 (fun _ => ⟨_, rfl, rfl⟩) dX10_copyFrom_5 ?_
  refine r_kv (q_V (As := [.ref (G.2.2.2.1 23)]) (rest := []) (K := 4) (ci := 2) S X (c_pcopy_94_23 l G τ hI ) ck10_32 (Nat.le_of_ble_eq_true rfl) rfl (fun _ => ⟨_, rfl⟩) ⟨_, _, rfl⟩ ⟨Nat.le_of_ble_eq_true rfl, Nat.le_of_ble_eq_true rfl⟩ rfl hl.1 rfl (Nat.le_of_ble_eq_true rfl) dX10_copyFrom_8 ⟨Nat.le_refl 0, Nat.le_refl 0⟩) X (fun t3 H lc q1 X2 => ?_)
  unfold po_pcopy_94_23 at q1
  obtain ⟨v4, z5⟩ : ∃ x, τ 23 2 = x := ⟨_, rfl⟩
  have r6 : R (0) (9) v4 := rd hI rfl z5
  obtain ⟨q7, q8, q9⟩ := q1
  have F10 : Fr [(94, 0), (94, 1), (94, 2), (94, 3), (94, 4), (101, 4), (101, 5), (101, 6), (101, 7), (101, 8), (101, 9), (101, 10), (106, 4)] [95, 96, 97, 98, 102, 103, 104, 105, 107, 108, 109] τ t3 := Fr_call Fr_rfl q8 (by decide)
  refine r_aload_n S dX10_copyFrom_11 rfl (lv_at hl 0 rfl) ?_
  refine r_get (K := 22) (v := .ref (G.2.2.2.1 101)) S X2 (Nat.le_of_ble_eq_true rfl) rfl lk10_21_8 (fun _ => ⟨_, rfl, rfl⟩) dX10_copyFrom_12 ?_
  refine r_aload_n S dX10_copyFrom_15 rfl (lv_at hl 1 rfl) ?_
  refine r_get (K := 22) (v := .ref (G.2.2.2.1 30)) S X2 (Nat.le_of_ble_eq_true rfl) rfl lk10_21_8 (fun _ => ⟨_, rfl, rfl⟩) dX10_copyFrom_16 ?_
  refine r_kv (q_V (As := [.ref (G.2.2.2.1 30)]) (rest := []) (K := 23) (ci := 3) S X2 (c_scopy_101_30 l G t3 q7 ) ck10_43 (Nat.le_of_ble_eq_true rfl) rfl (fun _ => ⟨_, rfl⟩) ⟨_, _, rfl⟩ ⟨Nat.le_of_ble_eq_true rfl, Nat.le_of_ble_eq_true rfl⟩ rfl hl.1 rfl (Nat.le_of_ble_eq_true rfl) dX10_copyFrom_19 ⟨Nat.le_refl 0, Nat.le_refl 0⟩) X2 (fun t13 H lc q11 X12 => ?_)
  unfold po_scopy_101_30 at q11
  obtain ⟨v14, z15⟩ : ∃ x, t3 30 8 = x := ⟨_, rfl⟩
  have r16 : R (-1) (8) v14 := rd q7 rfl z15
  obtain ⟨q17, q18, q19⟩ := q11
  have F20 : Fr [(94, 0), (94, 1), (94, 2), (94, 3), (94, 4), (101, 4), (101, 5), (101, 6), (101, 7), (101, 8), (101, 9), (101, 10), (106, 4)] [95, 96, 97, 98, 102, 103, 104, 105, 107, 108, 109] τ t13 := Fr_call F10 q18 (by decide)
  refine r_aload_n S dX10_copyFrom_22 rfl (lv_at hl 0 rfl) ?_
  refine r_get (K := 22) (v := .ref (G.2.2.2.1 106)) S X12 (Nat.le_of_ble_eq_true rfl) rfl lk10_28_8 (fun _ => ⟨_, rfl, rfl⟩) dX10_copyFrom_23 ?_
  refine r_aload_n S dX10_copyFrom_26 rfl (lv_at hl 1 rfl) ?_
  refine r_get (K := 22) (v := .ref (G.2.2.2.1 35)) S X12 (Nat.le_of_ble_eq_true rfl) rfl lk10_28_8 (fun _ => ⟨_, rfl, rfl⟩) dX10_copyFrom_27 ?_
  refine r_kv (q_V (As := [.ref (G.2.2.2.1 35)]) (rest := []) (K := 17) (ci := 5) S X12 (c_sncopy_106_35 l G t13 q17 (YA_eq hYA (fun j => ((q18 107 j (by simp [fz])).trans ((q8 107 j (by simp [fz])).trans rfl))) (fun j => ((q18 108 j (by simp [fz])).trans ((q8 108 j (by simp [fz])).trans rfl)))) (YW_eq hYW (fun j => ((q18 36 j (by simp [fz])).trans ((q8 36 j (by simp [fz])).trans rfl))) (fun j => ((q18 37 j (by simp [fz])).trans ((q8 37 j (by simp [fz])).trans rfl))))) ck10_46 (Nat.le_of_ble_eq_true rfl) rfl (fun _ => ⟨_, rfl⟩) ⟨_, _, rfl⟩ ⟨Nat.le_of_ble_eq_true rfl, Nat.le_of_ble_eq_true rfl⟩ rfl hl.1 rfl (Nat.le_of_ble_eq_true rfl) dX10_copyFrom_30 ⟨Nat.le_refl 0, Nat.le_refl 0⟩) X12 (fun t23 H lc q21 X22 => ?_)
  unfold po_sncopy_106_35 at q21
  obtain ⟨q24, q25, q26⟩ := q21
  have F27 : Fr [(94, 0), (94, 1), (94, 2), (94, 3), (94, 4), (101, 4), (101, 5), (101, 6), (101, 7), (101, 8), (101, 9), (101, 10), (106, 4)] [95, 96, 97, 98, 102, 103, 104, 105, 107, 108, 109] τ t23 := Fr_call F20 q25 (by decide)
  exact r_vret S hr hlk X22 ⟨q24, F27, q26, (((q25 94 2 (by decide)).trans ((q18 94 2 (by decide)).trans (q9.trans z5))).trans (rfl.symm.trans z5).symm), (((q25 101 8 (by decide)).trans (q19.trans z15)).trans (((q8 30 8 (by decide)).trans rfl).symm.trans z15).symm)⟩ dX10_copyFrom_33
def po_wcopy_111_22 (τ : Tau)   (u : Tau) : Prop := Inv u ∧ Fr [(112, 0), (112, 1), (112, 2), (112, 3), (112, 4), (119, 4), (119, 5), (119, 6), (119, 7), (119, 8), (119, 9), (119, 10), (124, 4)] [113, 114, 115, 116, 120, 121, 122, 123, 125, 126, 127] τ u ∧ YB u ∧ u 112 2 = τ 23 2 ∧ u 119 8 = τ 30 8
set_option maxHeartbeats 4000000 in
set_option maxRecDepth 100000 in
theorem c_wcopy_111_22 (l : Launch) (G : Gx) (τ : Tau) (hI : Inv τ) (hYB : YB τ) (hYW : YW τ) : Cv l G yX10_copyFrom cX10_copyFrom 2 2 81 [.ref (G.2.2.2.1 111), .ref (G.2.2.2.1 22)] τ (po_wcopy_111_22 τ  ) := by
  unfold Cv
  refine C_of (own := RX10) (by decide) rfl (Nat.le_of_ble_eq_true rfl) ?_
  intro p e s m below meth c ls S hr hlk X hl
  have hl : lv_has ls 2 [(0, .ref (G.2.2.2.1 111)), (1, .ref (G.2.2.2.1 22))] := hl
  refine r_aload_n S dX10_copyFrom_0 rfl (lv_at hl 0 rfl) ?_
  refine r_get (K := 22) (v := .ref (G.2.2.2.1 112)) S X (Nat.le_of_ble_eq_true rfl) rfl lk10_12_8 (fun _ => ⟨_, rfl, rfl⟩) dX10_copyFrom_1 ?_
  refine r_aload_n S dX10_copyFrom_4 rfl (lv_at hl 1 rfl) ?_
  refine r_get (K := 22) (v := .ref (G.2.2.2.1 23)) S X (Nat.le_of_ble_eq_true rfl) rfl lk10_12_8 (fun _ => ⟨_, rfl, rfl⟩) dX10_copyFrom_5 ?_
  refine r_kv (q_V (As := [.ref (G.2.2.2.1 23)]) (rest := []) (K := 4) (ci := 2) S X (c_pcopy_112_23 l G τ hI ) ck10_32 (Nat.le_of_ble_eq_true rfl) rfl (fun _ => ⟨_, rfl⟩) ⟨_, _, rfl⟩ ⟨Nat.le_of_ble_eq_true rfl, Nat.le_of_ble_eq_true rfl⟩ rfl hl.1 rfl (Nat.le_of_ble_eq_true rfl) dX10_copyFrom_8 ⟨Nat.le_refl 0, Nat.le_refl 0⟩) X (fun t3 H lc q1 X2 => ?_)
  unfold po_pcopy_112_23 at q1
  obtain ⟨v4, z5⟩ : ∃ x, τ 23 2 = x := ⟨_, rfl⟩
  have r6 : R (0) (9) v4 := rd hI rfl z5
  obtain ⟨q7, q8, q9⟩ := q1
  have F10 : Fr [(112, 0), (112, 1), (112, 2), (112, 3), (112, 4), (119, 4), (119, 5), (119, 6), (119, 7), (119, 8), (119, 9), (119, 10), (124, 4)] [113, 114, 115, 116, 120, 121, 122, 123, 125, 126, 127] τ t3 := Fr_call Fr_rfl q8 (by decide)
  refine r_aload_n S dX10_copyFrom_11 rfl (lv_at hl 0 rfl) ?_
  refine r_get (K := 22) (v := .ref (G.2.2.2.1 119)) S X2 (Nat.le_of_ble_eq_true rfl) rfl lk10_21_8 (fun _ => ⟨_, rfl, rfl⟩) dX10_copyFrom_12 ?_
  refine r_aload_n S dX10_copyFrom_15 rfl (lv_at hl 1 rfl) ?_
  refine r_get (K := 22) (v := .ref (G.2.2.2.1 30)) S X2 (Nat.le_of_ble_eq_true rfl) rfl lk10_21_8 (fun _ => ⟨_, rfl, rfl⟩) dX10_copyFrom_16 ?_
  refine r_kv (q_V (As := [.ref (G.2.2.2.1 30)]) (rest := []) (K := 23) (ci := 3) S X2 (c_scopy_119_30 l G t3 q7 ) ck10_43 (Nat.le_of_ble_eq_true rfl) rfl (fun _ => ⟨_, rfl⟩) ⟨_, _, rfl⟩ ⟨Nat.le_of_ble_eq_true rfl, Nat.le_of_ble_eq_true rfl⟩ rfl hl.1 rfl (Nat.le_of_ble_eq_true rfl) dX10_copyFrom_19 ⟨Nat.le_refl 0, Nat.le_refl 0⟩) X2 (fun t13 H lc q11 X12 => ?_)
  unfold po_scopy_119_30 at q11
  obtain ⟨v14, z15⟩ : ∃ x, t3 30 8 = x := ⟨_, rfl⟩
  have r16 : R (-1) (8) v14 := rd q7 rfl z15
  obtain ⟨q17, q18, q19⟩ := q11
  have F20 : Fr [(112, 0), (112, 1), (112, 2), (112, 3), (112, 4), (119, 4), (119, 5), (119, 6), (119, 7), (119, 8), (119, 9), (119, 10), (124, 4)] [113, 114, 115, 116, 120, 121, 122, 123, 125, 126, 127] τ t13 := Fr_call F10 q18 (by decide)
  refine r_aload_n S dX10_copyFrom_22 rfl (lv_at hl 0 rfl) ?_
  refine r_get (K := 22) (v := .ref (G.2.2.2.1 124)) S X12 (Nat.le_of_ble_eq_true rfl) rfl lk10_28_8 (fun _ => ⟨_, rfl, rfl⟩) dX10_copyFrom_23 ?_
  refine r_aload_n S dX10_copyFrom_26 rfl (lv_at hl 1 rfl) ?_
  refine r_get (K := 22) (v := .ref (G.2.2.2.1 35)) S X12 (Nat.le_of_ble_eq_true rfl) rfl lk10_28_8 (fun _ => ⟨_, rfl, rfl⟩) dX10_copyFrom_27 ?_
  refine r_kv (q_V (As := [.ref (G.2.2.2.1 35)]) (rest := []) (K := 17) (ci := 5) S X12 (c_sncopy_124_35 l G t13 q17 (YB_eq hYB (fun j => ((q18 125 j (by simp [fz])).trans ((q8 125 j (by simp [fz])).trans rfl))) (fun j => ((q18 126 j (by simp [fz])).trans ((q8 126 j (by simp [fz])).trans rfl)))) (YW_eq hYW (fun j => ((q18 36 j (by simp [fz])).trans ((q8 36 j (by simp [fz])).trans rfl))) (fun j => ((q18 37 j (by simp [fz])).trans ((q8 37 j (by simp [fz])).trans rfl))))) ck10_46 (Nat.le_of_ble_eq_true rfl) rfl (fun _ => ⟨_, rfl⟩) ⟨_, _, rfl⟩ ⟨Nat.le_of_ble_eq_true rfl, Nat.le_of_ble_eq_true rfl⟩ rfl hl.1 rfl (Nat.le_of_ble_eq_true rfl) dX10_copyFrom_30 ⟨Nat.le_refl 0, Nat.le_refl 0⟩) X12 (fun t23 H lc q21 X22 => ?_)
  unfold po_sncopy_124_35 at q21
  obtain ⟨q24, q25, q26⟩ := q21
  have F27 : Fr [(112, 0), (112, 1), (112, 2), (112, 3), (112, 4), (119, 4), (119, 5), (119, 6), (119, 7), (119, 8), (119, 9), (119, 10), (124, 4)] [113, 114, 115, 116, 120, 121, 122, 123, 125, 126, 127] τ t23 := Fr_call F20 q25 (by decide)
  exact r_vret S hr hlk X22 ⟨q24, F27, q26, (((q25 112 2 (by decide)).trans ((q18 112 2 (by decide)).trans (q9.trans z5))).trans (rfl.symm.trans z5).symm), (((q25 119 8 (by decide)).trans (q19.trans z15)).trans (((q8 30 8 (by decide)).trans rfl).symm.trans z15).symm)⟩ dX10_copyFrom_33
def po_wcopy_22_93 (τ : Tau)   (u : Tau) : Prop := Inv u ∧ Fr [(23, 0), (23, 1), (23, 2), (23, 3), (23, 4), (30, 4), (30, 5), (30, 6), (30, 7), (30, 8), (30, 9), (30, 10), (35, 4)] [24, 25, 26, 27, 31, 32, 33, 34, 36, 37, 38] τ u ∧ YW u ∧ u 23 2 = τ 94 2 ∧ u 30 8 = τ 101 8
set_option maxHeartbeats 4000000 in
set_option maxRecDepth 100000 in
theorem c_wcopy_22_93 (l : Launch) (G : Gx) (τ : Tau) (hI : Inv τ) (hYW : YW τ) (hYA : YA τ) : Cv l G yX10_copyFrom cX10_copyFrom 2 2 81 [.ref (G.2.2.2.1 22), .ref (G.2.2.2.1 93)] τ (po_wcopy_22_93 τ  ) := by
  unfold Cv
  refine C_of (own := RX10) (by decide) rfl (Nat.le_of_ble_eq_true rfl) ?_
  intro p e s m below meth c ls S hr hlk X hl
  have hl : lv_has ls 2 [(0, .ref (G.2.2.2.1 22)), (1, .ref (G.2.2.2.1 93))] := hl
  refine r_aload_n S dX10_copyFrom_0 rfl (lv_at hl 0 rfl) ?_
  refine r_get (K := 22) (v := .ref (G.2.2.2.1 23)) S X (Nat.le_of_ble_eq_true rfl) rfl lk10_12_8 (fun _ => ⟨_, rfl, rfl⟩) dX10_copyFrom_1 ?_
  refine r_aload_n S dX10_copyFrom_4 rfl (lv_at hl 1 rfl) ?_
  refine r_get (K := 22) (v := .ref (G.2.2.2.1 94)) S X (Nat.le_of_ble_eq_true rfl) rfl lk10_12_8 (fun _ => ⟨_, rfl, rfl⟩) dX10_copyFrom_5 ?_
  refine r_kv (q_V (As := [.ref (G.2.2.2.1 94)]) (rest := []) (K := 4) (ci := 2) S X (c_pcopy_23_94 l G τ hI ) ck10_32 (Nat.le_of_ble_eq_true rfl) rfl (fun _ => ⟨_, rfl⟩) ⟨_, _, rfl⟩ ⟨Nat.le_of_ble_eq_true rfl, Nat.le_of_ble_eq_true rfl⟩ rfl hl.1 rfl (Nat.le_of_ble_eq_true rfl) dX10_copyFrom_8 ⟨Nat.le_refl 0, Nat.le_refl 0⟩) X (fun t3 H lc q1 X2 => ?_)
  unfold po_pcopy_23_94 at q1
  obtain ⟨v4, z5⟩ : ∃ x, τ 94 2 = x := ⟨_, rfl⟩
  have r6 : R (0) (9) v4 := rd hI rfl z5
  obtain ⟨q7, q8, q9⟩ := q1
  have F10 : Fr [(23, 0), (23, 1), (23, 2), (23, 3), (23, 4), (30, 4), (30, 5), (30, 6), (30, 7), (30, 8), (30, 9), (30, 10), (35, 4)] [24, 25, 26, 27, 31, 32, 33, 34, 36, 37, 38] τ t3 := Fr_call Fr_rfl q8 (by decide)
  refine r_aload_n S dX10_copyFrom_11 rfl (lv_at hl 0 rfl) ?_
  refine r_get (K := 22) (v := .ref (G.2.2.2.1 30)) S X2 (Nat.le_of_ble_eq_true rfl) rfl lk10_21_8 (fun _ => ⟨_, rfl, rfl⟩) dX10_copyFrom_12 ?_
  refine r_aload_n S dX10_copyFrom_15 rfl (lv_at hl 1 rfl) ?_
  refine r_get (K := 22) (v := .ref (G.2.2.2.1 101)) S X2 (Nat.le_of_ble_eq_true rfl) rfl lk10_21_8 (fun _ => ⟨_, rfl, rfl⟩) dX10_copyFrom_16 ?_
  refine r_kv (q_V (As := [.ref (G.2.2.2.1 101)]) (rest := []) (K := 23) (ci := 3) S X2 (c_scopy_30_101 l G t3 q7 ) ck10_43 (Nat.le_of_ble_eq_true rfl) rfl (fun _ => ⟨_, rfl⟩) ⟨_, _, rfl⟩ ⟨Nat.le_of_ble_eq_true rfl, Nat.le_of_ble_eq_true rfl⟩ rfl hl.1 rfl (Nat.le_of_ble_eq_true rfl) dX10_copyFrom_19 ⟨Nat.le_refl 0, Nat.le_refl 0⟩) X2 (fun t13 H lc q11 X12 => ?_)
  unfold po_scopy_30_101 at q11
  obtain ⟨v14, z15⟩ : ∃ x, t3 101 8 = x := ⟨_, rfl⟩
  have r16 : R (-1) (8) v14 := rd q7 rfl z15
  obtain ⟨q17, q18, q19⟩ := q11
  have F20 : Fr [(23, 0), (23, 1), (23, 2), (23, 3), (23, 4), (30, 4), (30, 5), (30, 6), (30, 7), (30, 8), (30, 9), (30, 10), (35, 4)] [24, 25, 26, 27, 31, 32, 33, 34, 36, 37, 38] τ t13 := Fr_call F10 q18 (by decide)
  refine r_aload_n S dX10_copyFrom_22 rfl (lv_at hl 0 rfl) ?_
  refine r_get (K := 22) (v := .ref (G.2.2.2.1 35)) S X12 (Nat.le_of_ble_eq_true rfl) rfl lk10_28_8 (fun _ => ⟨_, rfl, rfl⟩) dX10_copyFrom_23 ?_
  refine r_aload_n S dX10_copyFrom_26 rfl (lv_at hl 1 rfl) ?_
  refine r_get (K := 22) (v := .ref (G.2.2.2.1 106)) S X12 (Nat.le_of_ble_eq_true rfl) rfl lk10_28_8 (fun _ => ⟨_, rfl, rfl⟩) dX10_copyFrom_27 ?_
  refine r_kv (q_V (As := [.ref (G.2.2.2.1 106)]) (rest := []) (K := 17) (ci := 5) S X12 (c_sncopy_35_106 l G t13 q17 (YW_eq hYW (fun j => ((q18 36 j (by simp [fz])).trans ((q8 36 j (by simp [fz])).trans rfl))) (fun j => ((q18 37 j (by simp [fz])).trans ((q8 37 j (by simp [fz])).trans rfl)))) (YA_eq hYA (fun j => ((q18 107 j (by simp [fz])).trans ((q8 107 j (by simp [fz])).trans rfl))) (fun j => ((q18 108 j (by simp [fz])).trans ((q8 108 j (by simp [fz])).trans rfl))))) ck10_46 (Nat.le_of_ble_eq_true rfl) rfl (fun _ => ⟨_, rfl⟩) ⟨_, _, rfl⟩ ⟨Nat.le_of_ble_eq_true rfl, Nat.le_of_ble_eq_true rfl⟩ rfl hl.1 rfl (Nat.le_of_ble_eq_true rfl) dX10_copyFrom_30 ⟨Nat.le_refl 0, Nat.le_refl 0⟩) X12 (fun t23 H lc q21 X22 => ?_)
  unfold po_sncopy_35_106 at q21
  obtain ⟨q24, q25, q26⟩ := q21
  have F27 : Fr [(23, 0), (23, 1), (23, 2), (23, 3), (23, 4), (30, 4), (30, 5), (30, 6), (30, 7), (30, 8), (30, 9), (30, 10), (35, 4)] [24, 25, 26, 27, 31, 32, 33, 34, 36, 37, 38] τ t23 := Fr_call F20 q25 (by decide)
  exact r_vret S hr hlk X22 ⟨q24, F27, q26, (((q25 23 2 (by decide)).trans ((q18 23 2 (by decide)).trans (q9.trans z5))).trans (rfl.symm.trans z5).symm), (((q25 30 8 (by decide)).trans (q19.trans z15)).trans (((q8 101 8 (by decide)).trans rfl).symm.trans z15).symm)⟩ dX10_copyFrom_33
def po_wcopy_22_111 (τ : Tau)   (u : Tau) : Prop := Inv u ∧ Fr [(23, 0), (23, 1), (23, 2), (23, 3), (23, 4), (30, 4), (30, 5), (30, 6), (30, 7), (30, 8), (30, 9), (30, 10), (35, 4)] [24, 25, 26, 27, 31, 32, 33, 34, 36, 37, 38] τ u ∧ YW u ∧ u 23 2 = τ 112 2 ∧ u 30 8 = τ 119 8
set_option maxHeartbeats 4000000 in
set_option maxRecDepth 100000 in
theorem c_wcopy_22_111 (l : Launch) (G : Gx) (τ : Tau) (hI : Inv τ) (hYW : YW τ) (hYB : YB τ) : Cv l G yX10_copyFrom cX10_copyFrom 2 2 81 [.ref (G.2.2.2.1 22), .ref (G.2.2.2.1 111)] τ (po_wcopy_22_111 τ  ) := by
  unfold Cv
  refine C_of (own := RX10) (by decide) rfl (Nat.le_of_ble_eq_true rfl) ?_
  intro p e s m below meth c ls S hr hlk X hl
  have hl : lv_has ls 2 [(0, .ref (G.2.2.2.1 22)), (1, .ref (G.2.2.2.1 111))] := hl
  refine r_aload_n S dX10_copyFrom_0 rfl (lv_at hl 0 rfl) ?_
  refine r_get (K := 22) (v := .ref (G.2.2.2.1 23)) S X (Nat.le_of_ble_eq_true rfl) rfl lk10_12_8 (fun _ => ⟨_, rfl, rfl⟩) dX10_copyFrom_1 ?_
  refine r_aload_n S dX10_copyFrom_4 rfl (lv_at hl 1 rfl) ?_
  refine r_get (K := 22) (v := .ref (G.2.2.2.1 112)) S X (Nat.le_of_ble_eq_true rfl) rfl lk10_12_8 (fun _ => ⟨_, rfl, rfl⟩) dX10_copyFrom_5 ?_
  refine r_kv (q_V (As := [.ref (G.2.2.2.1 112)]) (rest := []) (K := 4) (ci := 2) S X (c_pcopy_23_112 l G τ hI ) ck10_32 (Nat.le_of_ble_eq_true rfl) rfl (fun _ => ⟨_, rfl⟩) ⟨_, _, rfl⟩ ⟨Nat.le_of_ble_eq_true rfl, Nat.le_of_ble_eq_true rfl⟩ rfl hl.1 rfl (Nat.le_of_ble_eq_true rfl) dX10_copyFrom_8 ⟨Nat.le_refl 0, Nat.le_refl 0⟩) X (fun t3 H lc q1 X2 => ?_)
  unfold po_pcopy_23_112 at q1
  obtain ⟨v4, z5⟩ : ∃ x, τ 112 2 = x := ⟨_, rfl⟩
  have r6 : R (0) (9) v4 := rd hI rfl z5
  obtain ⟨q7, q8, q9⟩ := q1
  have F10 : Fr [(23, 0), (23, 1), (23, 2), (23, 3), (23, 4), (30, 4), (30, 5), (30, 6), (30, 7), (30, 8), (30, 9), (30, 10), (35, 4)] [24, 25, 26, 27, 31, 32, 33, 34, 36, 37, 38] τ t3 := Fr_call Fr_rfl q8 (by decide)
  refine r_aload_n S dX10_copyFrom_11 rfl (lv_at hl 0 rfl) ?_
  refine r_get (K := 22) (v := .ref (G.2.2.2.1 30)) S X2 (Nat.le_of_ble_eq_true rfl) rfl lk10_21_8 (fun _ => ⟨_, rfl, rfl⟩) dX10_copyFrom_12 ?_
  refine r_aload_n S dX10_copyFrom_15 rfl (lv_at hl 1 rfl) ?_
  refine r_get (K := 22) (v := .ref (G.2.2.2.1 119)) S X2 (Nat.le_of_ble_eq_true rfl) rfl lk10_21_8 (fun _ => ⟨_, rfl, rfl⟩) dX10_copyFrom_16 ?_
  refine r_kv (q_V (As := [.ref (G.2.2.2.1 119)]) (rest := []) (K := 23) (ci := 3) S X2 (c_scopy_30_119 l G t3 q7 ) ck10_43 (Nat.le_of_ble_eq_true rfl) rfl (fun _ => ⟨_, rfl⟩) ⟨_, _, rfl⟩ ⟨Nat.le_of_ble_eq_true rfl, Nat.le_of_ble_eq_true rfl⟩ rfl hl.1 rfl (Nat.le_of_ble_eq_true rfl) dX10_copyFrom_19 ⟨Nat.le_refl 0, Nat.le_refl 0⟩) X2 (fun t13 H lc q11 X12 => ?_)
  unfold po_scopy_30_119 at q11
  obtain ⟨v14, z15⟩ : ∃ x, t3 119 8 = x := ⟨_, rfl⟩
  have r16 : R (-1) (8) v14 := rd q7 rfl z15
  obtain ⟨q17, q18, q19⟩ := q11
  have F20 : Fr [(23, 0), (23, 1), (23, 2), (23, 3), (23, 4), (30, 4), (30, 5), (30, 6), (30, 7), (30, 8), (30, 9), (30, 10), (35, 4)] [24, 25, 26, 27, 31, 32, 33, 34, 36, 37, 38] τ t13 := Fr_call F10 q18 (by decide)
  refine r_aload_n S dX10_copyFrom_22 rfl (lv_at hl 0 rfl) ?_
  refine r_get (K := 22) (v := .ref (G.2.2.2.1 35)) S X12 (Nat.le_of_ble_eq_true rfl) rfl lk10_28_8 (fun _ => ⟨_, rfl, rfl⟩) dX10_copyFrom_23 ?_
  refine r_aload_n S dX10_copyFrom_26 rfl (lv_at hl 1 rfl) ?_
  refine r_get (K := 22) (v := .ref (G.2.2.2.1 124)) S X12 (Nat.le_of_ble_eq_true rfl) rfl lk10_28_8 (fun _ => ⟨_, rfl, rfl⟩) dX10_copyFrom_27 ?_
  refine r_kv (q_V (As := [.ref (G.2.2.2.1 124)]) (rest := []) (K := 17) (ci := 5) S X12 (c_sncopy_35_124 l G t13 q17 (YW_eq hYW (fun j => ((q18 36 j (by simp [fz])).trans ((q8 36 j (by simp [fz])).trans rfl))) (fun j => ((q18 37 j (by simp [fz])).trans ((q8 37 j (by simp [fz])).trans rfl)))) (YB_eq hYB (fun j => ((q18 125 j (by simp [fz])).trans ((q8 125 j (by simp [fz])).trans rfl))) (fun j => ((q18 126 j (by simp [fz])).trans ((q8 126 j (by simp [fz])).trans rfl))))) ck10_46 (Nat.le_of_ble_eq_true rfl) rfl (fun _ => ⟨_, rfl⟩) ⟨_, _, rfl⟩ ⟨Nat.le_of_ble_eq_true rfl, Nat.le_of_ble_eq_true rfl⟩ rfl hl.1 rfl (Nat.le_of_ble_eq_true rfl) dX10_copyFrom_30 ⟨Nat.le_refl 0, Nat.le_refl 0⟩) X12 (fun t23 H lc q21 X22 => ?_)
  unfold po_sncopy_35_124 at q21
  obtain ⟨q24, q25, q26⟩ := q21
  have F27 : Fr [(23, 0), (23, 1), (23, 2), (23, 3), (23, 4), (30, 4), (30, 5), (30, 6), (30, 7), (30, 8), (30, 9), (30, 10), (35, 4)] [24, 25, 26, 27, 31, 32, 33, 34, 36, 37, 38] τ t23 := Fr_call F20 q25 (by decide)
  exact r_vret S hr hlk X22 ⟨q24, F27, q26, (((q25 23 2 (by decide)).trans ((q18 23 2 (by decide)).trans (q9.trans z5))).trans (rfl.symm.trans z5).symm), (((q25 30 8 (by decide)).trans (q19.trans z15)).trans (((q8 119 8 (by decide)).trans rfl).symm.trans z15).symm)⟩ dX10_copyFrom_33
def po_X11_image (τ : Tau)  (a0 : Int32) (r : Int32) (u : Tau) : Prop := Inv u ∧ Fr [(94, 0), (94, 1), (94, 2), (94, 3), (94, 4), (101, 4), (101, 5), (101, 6), (101, 7), (101, 8), (101, 9), (101, 10), (106, 4), (112, 0), (112, 1), (112, 2), (112, 3), (112, 4), (119, 4), (119, 5), (119, 6), (119, 7), (119, 8), (119, 9), (119, 10), (124, 4), (0, 11)] [95, 96, 97, 98, 102, 103, 104, 105, 107, 108, 109, 113, 114, 115, 116, 120, 121, 122, 123, 125, 126, 127] τ u ∧ IM u ∧ YA u ∧ YB u ∧ R (0) (1) r
set_option maxHeartbeats 4000000 in
set_option maxRecDepth 100000 in
theorem c_X11_image (l : Launch) (G : Gx) (τ : Tau) (hI : Inv τ) (a0 : Int32) (h_a0 : R (-2147483648) (2147483647) a0) (hWI : WI τ) (hIM : IM τ) (hYW : YW τ) (hYA : YA τ) (hYB : YB τ) : Ci l G yX11_image cX11_image 2 (some .boolean) 3 102 [.ref (G.2.2.2.1 0), .int a0] τ (po_X11_image τ  a0) := by
  unfold Ci
  refine C_of (own := RX11) (by decide) rfl (Nat.le_of_ble_eq_true rfl) ?_
  intro p e s m below meth c ls S hr hlk X hl
  have hl : lv_has ls 2 [(0, .ref (G.2.2.2.1 0)), (1, .int a0)] := hl
  refine r_iload_n S dX11_image_0 rfl (lv_at hl 1 rfl) ?_
  refine r_if_lt (tgt := 9) S dX11_image_1 (by decide) (fun c1 => ?_) (fun c1 => ?_)
  ·
    have r2 : R (-2147483648) (-1) a0 := ⟨by omega, by omega⟩
    refine r_iconst S dX11_image_9 (by decide) (fun v3 z4 => ?_)
    have r5 := R_eq z4
    exact r_ret S hr hlk X ⟨hI, Fr_rfl, hIM, hYA, hYB, (R_of r5 rfl)⟩ (nr_bool (R_of (lo := 0) (hi := 1) r5 rfl)) dX11_image_10
  ·
    have r6 : R (0) (2147483647) a0 := ⟨by omega, by omega⟩
    refine r_iload_n S dX11_image_4 rfl (lv_at hl 1 rfl) ?_
    refine r_iconst S dX11_image_5 (by decide) (fun v7 z8 => ?_)
    have r9 := R_eq z8
    refine r_icmp_lt (tgt := 11) S dX11_image_6 (by decide) (fun c10 => ?_) (fun c10 => ?_)
    ·
      have r11 : R (0) (1) a0 := ⟨by omega, by omega⟩
      refine r_aload_n S dX11_image_11 rfl (lv_at hl 0 rfl) ?_
      refine r_get (K := 0) (v := .ref (G.2.2.2.1 92)) S X (Nat.le_of_ble_eq_true rfl) rfl lk11_64_9 (fun _ => ⟨_, rfl, rfl⟩) dX11_image_12 ?_
      refine r_iload_n S dX11_image_15 rfl (lv_at hl 1 rfl) ?_
      refine r_aldO S X (ix_of r11 rfl) dX11_image_16 (fun n12 h13 h14 => ?_)
      rcases (show n12 = 0 ∨ n12 = 1 by omega) with rfl | rfl
      ·
        refine r_aload_n S dX11_image_17 rfl (lv_at hl 0 rfl) ?_
        refine r_get (K := 0) (v := .ref (G.2.2.2.1 22)) S X (Nat.le_of_ble_eq_true rfl) rfl lk11_42_9 (fun _ => ⟨_, rfl, rfl⟩) dX11_image_18 ?_
        refine r_kv (q_V (As := [.ref (G.2.2.2.1 22)]) (rest := []) (K := 22) (ci := 8) S X (c_wcopy_93_22 l G τ hI hYA hYW) ck11_301 (Nat.le_of_ble_eq_true rfl) rfl (fun _ => ⟨_, rfl⟩) ⟨_, _, rfl⟩ ⟨Nat.le_of_ble_eq_true rfl, Nat.le_of_ble_eq_true rfl⟩ rfl hl.1 rfl (Nat.le_of_ble_eq_true rfl) dX11_image_21 ⟨Nat.le_refl 0, Nat.le_refl 0⟩) X (fun t17 H lc q15 X16 => ?_)
        unfold po_wcopy_93_22 at q15
        obtain ⟨v18, z19⟩ : ∃ x, τ 23 2 = x := ⟨_, rfl⟩
        have r20 : R (0) (9) v18 := rd hI rfl z19
        obtain ⟨v21, z22⟩ : ∃ x, τ 30 8 = x := ⟨_, rfl⟩
        have r23 : R (-1) (8) v21 := rd hI rfl z22
        obtain ⟨q24, q25, q26, q27, q28⟩ := q15
        have F29 : Fr [(94, 0), (94, 1), (94, 2), (94, 3), (94, 4), (101, 4), (101, 5), (101, 6), (101, 7), (101, 8), (101, 9), (101, 10), (106, 4), (112, 0), (112, 1), (112, 2), (112, 3), (112, 4), (119, 4), (119, 5), (119, 6), (119, 7), (119, 8), (119, 9), (119, 10), (124, 4), (0, 11)] [95, 96, 97, 98, 102, 103, 104, 105, 107, 108, 109, 113, 114, 115, 116, 120, 121, 122, 123, 125, 126, 127] τ t17 := Fr_call Fr_rfl q25 (by decide)
        refine r_aload_n S dX11_image_24 rfl (lv_at hl 0 rfl) ?_
        refine r_dup S dX11_image_25 rfl ?_
        refine r_getn (K := 0) S X16 (Nat.le_of_ble_eq_true rfl) rfl lk11_304_9 (fun _ => ⟨_, rfl, rfl⟩) dX11_image_26 (fun v30 z31 => ?_)
        have r32 : R (0) (3) v30 := rd q24 rfl z31
        refine r_iconst S dX11_image_29 (by decide) (fun v33 z34 => ?_)
        have r35 := R_eq z34
        refine r_iload_n S dX11_image_30 rfl (lv_at hl 1 rfl) ?_
        refine r_ishl S dX11_image_31 (fun v36 z37 => ?_)
        have r39 : R (1) (2) v36 := i_shl z37 r35 r11 rfl
        refine r_ior S dX11_image_32 (fun v40 z41 => ?_)
        have r43 : R (0) (3) v40 := i_or 2 z41 r32 r39 rfl
        refine r_put (K := 0) (ty := .int) S X16 (Nat.le_of_ble_eq_true rfl) rfl lk11_304_9 (fun _ => ⟨_, rfl, Nat.le_of_ble_eq_true rfl, rfl⟩) (fun _ _ _ h => by cases h; exact ⟨rfl, rfl⟩) rfl rfl dX11_image_33 (fun t44 H lc M45 X46 => ?_)
        have I47 := Inv_mu q24 M45 (show Rg (kd 0) 11 v40 from (R_of (lo := 0) (hi := 3) r43 rfl))
        have F48 : Fr [(94, 0), (94, 1), (94, 2), (94, 3), (94, 4), (101, 4), (101, 5), (101, 6), (101, 7), (101, 8), (101, 9), (101, 10), (106, 4), (112, 0), (112, 1), (112, 2), (112, 3), (112, 4), (119, 4), (119, 5), (119, 6), (119, 7), (119, 8), (119, 9), (119, 10), (124, 4), (0, 11)] [95, 96, 97, 98, 102, 103, 104, 105, 107, 108, 109, 113, 114, 115, 116, 120, 121, 122, 123, 125, 126, 127] τ t44 := Fr_mu F29 M45 (by decide)
        refine r_iconst S dX11_image_36 (by decide) (fun v49 z50 => ?_)
        have r51 := R_eq z50
        exact r_ret S hr hlk X46 ⟨I47, F48, (IM_0 hIM hWI (((M45.2 94 2 (Or.inl (by decide))).trans (q27.trans z19)).trans (rfl.symm.trans z19).symm) (((M45.2 101 8 (Or.inl (by decide))).trans (q28.trans z22)).trans (rfl.symm.trans z22).symm) ((M45.2 112 2 (Or.inl (by decide))).trans ((q25 112 2 (by decide)).trans rfl)) ((M45.2 119 8 (Or.inl (by decide))).trans ((q25 119 8 (by decide)).trans rfl))), (YA_eq q26 (fun j => ((M45.2 107 j (Or.inl (by decide))).trans rfl)) (fun j => ((M45.2 108 j (Or.inl (by decide))).trans rfl))), (YB_eq hYB (fun j => ((M45.2 125 j (Or.inl (by decide))).trans ((q25 125 j (by simp [fz])).trans rfl))) (fun j => ((M45.2 126 j (Or.inl (by decide))).trans ((q25 126 j (by simp [fz])).trans rfl)))), (R_of r51 rfl)⟩ (nr_bool (R_of (lo := 0) (hi := 1) r51 rfl)) dX11_image_37
      ·
        refine r_aload_n S dX11_image_17 rfl (lv_at hl 0 rfl) ?_
        refine r_get (K := 0) (v := .ref (G.2.2.2.1 22)) S X (Nat.le_of_ble_eq_true rfl) rfl lk11_42_9 (fun _ => ⟨_, rfl, rfl⟩) dX11_image_18 ?_
        refine r_kv (q_V (As := [.ref (G.2.2.2.1 22)]) (rest := []) (K := 22) (ci := 8) S X (c_wcopy_111_22 l G τ hI hYB hYW) ck11_301 (Nat.le_of_ble_eq_true rfl) rfl (fun _ => ⟨_, rfl⟩) ⟨_, _, rfl⟩ ⟨Nat.le_of_ble_eq_true rfl, Nat.le_of_ble_eq_true rfl⟩ rfl hl.1 rfl (Nat.le_of_ble_eq_true rfl) dX11_image_21 ⟨Nat.le_refl 0, Nat.le_refl 0⟩) X (fun t54 H lc q52 X53 => ?_)
        unfold po_wcopy_111_22 at q52
        obtain ⟨v55, z56⟩ : ∃ x, τ 23 2 = x := ⟨_, rfl⟩
        have r57 : R (0) (9) v55 := rd hI rfl z56
        obtain ⟨v58, z59⟩ : ∃ x, τ 30 8 = x := ⟨_, rfl⟩
        have r60 : R (-1) (8) v58 := rd hI rfl z59
        obtain ⟨q61, q62, q63, q64, q65⟩ := q52
        have F66 : Fr [(94, 0), (94, 1), (94, 2), (94, 3), (94, 4), (101, 4), (101, 5), (101, 6), (101, 7), (101, 8), (101, 9), (101, 10), (106, 4), (112, 0), (112, 1), (112, 2), (112, 3), (112, 4), (119, 4), (119, 5), (119, 6), (119, 7), (119, 8), (119, 9), (119, 10), (124, 4), (0, 11)] [95, 96, 97, 98, 102, 103, 104, 105, 107, 108, 109, 113, 114, 115, 116, 120, 121, 122, 123, 125, 126, 127] τ t54 := Fr_call Fr_rfl q62 (by decide)
        refine r_aload_n S dX11_image_24 rfl (lv_at hl 0 rfl) ?_
        refine r_dup S dX11_image_25 rfl ?_
        refine r_getn (K := 0) S X53 (Nat.le_of_ble_eq_true rfl) rfl lk11_304_9 (fun _ => ⟨_, rfl, rfl⟩) dX11_image_26 (fun v67 z68 => ?_)
        have r69 : R (0) (3) v67 := rd q61 rfl z68
        refine r_iconst S dX11_image_29 (by decide) (fun v70 z71 => ?_)
        have r72 := R_eq z71
        refine r_iload_n S dX11_image_30 rfl (lv_at hl 1 rfl) ?_
        refine r_ishl S dX11_image_31 (fun v73 z74 => ?_)
        have r76 : R (1) (2) v73 := i_shl z74 r72 r11 rfl
        refine r_ior S dX11_image_32 (fun v77 z78 => ?_)
        have r80 : R (0) (3) v77 := i_or 2 z78 r69 r76 rfl
        refine r_put (K := 0) (ty := .int) S X53 (Nat.le_of_ble_eq_true rfl) rfl lk11_304_9 (fun _ => ⟨_, rfl, Nat.le_of_ble_eq_true rfl, rfl⟩) (fun _ _ _ h => by cases h; exact ⟨rfl, rfl⟩) rfl rfl dX11_image_33 (fun t81 H lc M82 X83 => ?_)
        have I84 := Inv_mu q61 M82 (show Rg (kd 0) 11 v77 from (R_of (lo := 0) (hi := 3) r80 rfl))
        have F85 : Fr [(94, 0), (94, 1), (94, 2), (94, 3), (94, 4), (101, 4), (101, 5), (101, 6), (101, 7), (101, 8), (101, 9), (101, 10), (106, 4), (112, 0), (112, 1), (112, 2), (112, 3), (112, 4), (119, 4), (119, 5), (119, 6), (119, 7), (119, 8), (119, 9), (119, 10), (124, 4), (0, 11)] [95, 96, 97, 98, 102, 103, 104, 105, 107, 108, 109, 113, 114, 115, 116, 120, 121, 122, 123, 125, 126, 127] τ t81 := Fr_mu F66 M82 (by decide)
        refine r_iconst S dX11_image_36 (by decide) (fun v86 z87 => ?_)
        have r88 := R_eq z87
        exact r_ret S hr hlk X83 ⟨I84, F85, (IM_1 hIM hWI (((M82.2 112 2 (Or.inl (by decide))).trans (q64.trans z56)).trans (rfl.symm.trans z56).symm) (((M82.2 119 8 (Or.inl (by decide))).trans (q65.trans z59)).trans (rfl.symm.trans z59).symm) ((M82.2 94 2 (Or.inl (by decide))).trans ((q62 94 2 (by decide)).trans rfl)) ((M82.2 101 8 (Or.inl (by decide))).trans ((q62 101 8 (by decide)).trans rfl))), (YA_eq hYA (fun j => ((M82.2 107 j (Or.inl (by decide))).trans ((q62 107 j (by simp [fz])).trans rfl))) (fun j => ((M82.2 108 j (Or.inl (by decide))).trans ((q62 108 j (by simp [fz])).trans rfl)))), (YB_eq q63 (fun j => ((M82.2 125 j (Or.inl (by decide))).trans rfl)) (fun j => ((M82.2 126 j (Or.inl (by decide))).trans rfl))), (R_of r88 rfl)⟩ (nr_bool (R_of (lo := 0) (hi := 1) r88 rfl)) dX11_image_37
    ·
      have r89 : R (2) (2147483647) a0 := ⟨by omega, by omega⟩
      refine r_iconst S dX11_image_9 (by decide) (fun v90 z91 => ?_)
      have r92 := R_eq z91
      exact r_ret S hr hlk X ⟨hI, Fr_rfl, hIM, hYA, hYB, (R_of r92 rfl)⟩ (nr_bool (R_of (lo := 0) (hi := 1) r92 rfl)) dX11_image_10
def po_X11_restore (τ : Tau)  (a0 : Int32) (r : Int32) (u : Tau) : Prop := Inv u ∧ Fr [(23, 0), (23, 1), (23, 2), (23, 3), (23, 4), (30, 4), (30, 5), (30, 6), (30, 7), (30, 8), (30, 9), (30, 10), (35, 4), (0, 9)] [24, 25, 26, 27, 31, 32, 33, 34, 36, 37, 38] τ u ∧ WI u ∧ HI u ∧ YW u ∧ R (0) (1) r
set_option maxHeartbeats 4000000 in
set_option maxRecDepth 100000 in
theorem c_X11_restore (l : Launch) (G : Gx) (τ : Tau) (hI : Inv τ) (a0 : Int32) (h_a0 : R (-2147483648) (2147483647) a0) (hWI : WI τ) (hHI : HI τ) (hIM : IM τ) (hYW : YW τ) (hYA : YA τ) (hYB : YB τ) : Ci l G yX11_restore cX11_restore 2 (some .boolean) 3 102 [.ref (G.2.2.2.1 0), .int a0] τ (po_X11_restore τ  a0) := by
  unfold Ci
  refine C_of (own := RX11) (by decide) rfl (Nat.le_of_ble_eq_true rfl) ?_
  intro p e s m below meth c ls S hr hlk X hl
  have hl : lv_has ls 2 [(0, .ref (G.2.2.2.1 0)), (1, .int a0)] := hl
  refine r_iload_n S dX11_restore_0 rfl (lv_at hl 1 rfl) ?_
  refine r_if_lt (tgt := 20) S dX11_restore_1 (by decide) (fun c1 => ?_) (fun c1 => ?_)
  ·
    have r2 : R (-2147483648) (-1) a0 := ⟨by omega, by omega⟩
    refine r_iconst S dX11_restore_20 (by decide) (fun v3 z4 => ?_)
    have r5 := R_eq z4
    exact r_ret S hr hlk X ⟨hI, Fr_rfl, hWI, hHI, hYW, (R_of r5 rfl)⟩ (nr_bool (R_of (lo := 0) (hi := 1) r5 rfl)) dX11_restore_21
  ·
    have r6 : R (0) (2147483647) a0 := ⟨by omega, by omega⟩
    refine r_iload_n S dX11_restore_4 rfl (lv_at hl 1 rfl) ?_
    refine r_iconst S dX11_restore_5 (by decide) (fun v7 z8 => ?_)
    have r9 := R_eq z8
    refine r_icmp_ge (tgt := 20) S dX11_restore_6 (by decide) (fun c10 => ?_) (fun c10 => ?_)
    ·
      have r11 : R (2) (2147483647) a0 := ⟨by omega, by omega⟩
      refine r_iconst S dX11_restore_20 (by decide) (fun v12 z13 => ?_)
      have r14 := R_eq z13
      exact r_ret S hr hlk X ⟨hI, Fr_rfl, hWI, hHI, hYW, (R_of r14 rfl)⟩ (nr_bool (R_of (lo := 0) (hi := 1) r14 rfl)) dX11_restore_21
    ·
      have r15 : R (0) (1) a0 := ⟨by omega, by omega⟩
      refine r_aload_n S dX11_restore_9 rfl (lv_at hl 0 rfl) ?_
      refine r_getn (K := 0) S X (Nat.le_of_ble_eq_true rfl) rfl lk11_304_9 (fun _ => ⟨_, rfl, rfl⟩) dX11_restore_10 (fun v16 z17 => ?_)
      have r18 : R (0) (3) v16 := rd hI rfl z17
      refine r_iload_n S dX11_restore_13 rfl (lv_at hl 1 rfl) ?_
      refine r_ki (q_S (As := [.int v16, .int a0]) (rest := []) S X (c_X11_bit l G τ hI v16 a0 (R_of (lo := -2147483648) (hi := 2147483647) r18 rfl) (R_of (lo := -2147483648) (hi := 2147483647) r15 rfl)) ck11_135 ⟨Nat.le_of_ble_eq_true rfl, Nat.le_of_ble_eq_true rfl⟩ rfl hl.1 rfl (Nat.le_of_ble_eq_true rfl) dX11_restore_14 ⟨Nat.le_refl 0, Nat.le_refl 0⟩) X (fun v22 t21 H lc q19 X20 => ?_)
      unfold po_X11_bit at q19
      obtain ⟨q23, q24⟩ := q19
      rw [q23] at X20
      refine r_if_ne (tgt := 22) S dX11_restore_17 (by decide) (fun c25 => ?_) (fun c25 => ?_)
      ·
        have r26 : R (1) (1) v22 := ⟨by omega, by omega⟩
        refine r_aload_n S dX11_restore_22 rfl (lv_at hl 0 rfl) ?_
        refine r_get (K := 0) (v := .ref (G.2.2.2.1 22)) S X20 (Nat.le_of_ble_eq_true rfl) rfl lk11_42_9 (fun _ => ⟨_, rfl, rfl⟩) dX11_restore_23 ?_
        refine r_aload_n S dX11_restore_26 rfl (lv_at hl 0 rfl) ?_
        refine r_get (K := 0) (v := .ref (G.2.2.2.1 92)) S X20 (Nat.le_of_ble_eq_true rfl) rfl lk11_64_9 (fun _ => ⟨_, rfl, rfl⟩) dX11_restore_27 ?_
        refine r_iload_n S dX11_restore_30 rfl (lv_at hl 1 rfl) ?_
        refine r_aldO S X20 (ix_of r15 rfl) dX11_restore_31 (fun n27 h28 h29 => ?_)
        rcases (show n27 = 0 ∨ n27 = 1 by omega) with rfl | rfl
        ·
          refine r_kv (q_V (As := [.ref (G.2.2.2.1 93)]) (rest := []) (K := 22) (ci := 8) S X20 (c_wcopy_22_93 l G τ hI hYW hYA) ck11_301 (Nat.le_of_ble_eq_true rfl) rfl (fun _ => ⟨_, rfl⟩) ⟨_, _, rfl⟩ ⟨Nat.le_of_ble_eq_true rfl, Nat.le_of_ble_eq_true rfl⟩ rfl hl.1 rfl (Nat.le_of_ble_eq_true rfl) dX11_restore_32 ⟨Nat.le_refl 0, Nat.le_refl 0⟩) X20 (fun t32 H lc q30 X31 => ?_)
          unfold po_wcopy_22_93 at q30
          obtain ⟨v33, z34⟩ : ∃ x, τ 94 2 = x := ⟨_, rfl⟩
          have r35 : R (0) (9) v33 := rd hI rfl z34
          obtain ⟨v36, z37⟩ : ∃ x, τ 101 8 = x := ⟨_, rfl⟩
          have r38 : R (-1) (8) v36 := rd hI rfl z37
          obtain ⟨q39, q40, q41, q42, q43⟩ := q30
          have F44 : Fr [(23, 0), (23, 1), (23, 2), (23, 3), (23, 4), (30, 4), (30, 5), (30, 6), (30, 7), (30, 8), (30, 9), (30, 10), (35, 4), (0, 9)] [24, 25, 26, 27, 31, 32, 33, 34, 36, 37, 38] τ t32 := Fr_call Fr_rfl q40 (by decide)
          refine r_aload_n S dX11_restore_35 rfl (lv_at hl 0 rfl) ?_
          refine r_iconst S dX11_restore_36 (by decide) (fun v45 z46 => ?_)
          have r47 := R_eq z46
          refine r_put (K := 0) (ty := .int) S X31 (Nat.le_of_ble_eq_true rfl) rfl lk11_116_9 (fun _ => ⟨_, rfl, Nat.le_of_ble_eq_true rfl, rfl⟩) (fun _ _ _ h => by cases h; exact ⟨rfl, rfl⟩) rfl rfl dX11_restore_37 (fun t48 H lc M49 X50 => ?_)
          have I51 := Inv_mu q39 M49 (show Rg (kd 0) 9 v45 from (R_of (lo := 0) (hi := 8) r47 rfl))
          have F52 : Fr [(23, 0), (23, 1), (23, 2), (23, 3), (23, 4), (30, 4), (30, 5), (30, 6), (30, 7), (30, 8), (30, 9), (30, 10), (35, 4), (0, 9)] [24, 25, 26, 27, 31, 32, 33, 34, 36, 37, 38] τ t48 := Fr_mu F44 M49 (by decide)
          refine r_iconst S dX11_restore_40 (by decide) (fun v53 z54 => ?_)
          have r55 := R_eq z54
          exact r_ret S hr hlk X50 ⟨I51, F52, (WI_0 hIM (((M49.2 23 2 (Or.inl (by decide))).trans (q42.trans z34)).trans (rfl.symm.trans z34).symm) (((M49.2 30 8 (Or.inl (by decide))).trans (q43.trans z37)).trans (rfl.symm.trans z37).symm)), (HI_0 M49.1 (by omega)), (YW_eq q41 (fun j => ((M49.2 36 j (Or.inl (by decide))).trans rfl)) (fun j => ((M49.2 37 j (Or.inl (by decide))).trans rfl))), (R_of r55 rfl)⟩ (nr_bool (R_of (lo := 0) (hi := 1) r55 rfl)) dX11_restore_41
        ·
          refine r_kv (q_V (As := [.ref (G.2.2.2.1 111)]) (rest := []) (K := 22) (ci := 8) S X20 (c_wcopy_22_111 l G τ hI hYW hYB) ck11_301 (Nat.le_of_ble_eq_true rfl) rfl (fun _ => ⟨_, rfl⟩) ⟨_, _, rfl⟩ ⟨Nat.le_of_ble_eq_true rfl, Nat.le_of_ble_eq_true rfl⟩ rfl hl.1 rfl (Nat.le_of_ble_eq_true rfl) dX11_restore_32 ⟨Nat.le_refl 0, Nat.le_refl 0⟩) X20 (fun t58 H lc q56 X57 => ?_)
          unfold po_wcopy_22_111 at q56
          obtain ⟨v59, z60⟩ : ∃ x, τ 112 2 = x := ⟨_, rfl⟩
          have r61 : R (0) (9) v59 := rd hI rfl z60
          obtain ⟨v62, z63⟩ : ∃ x, τ 119 8 = x := ⟨_, rfl⟩
          have r64 : R (-1) (8) v62 := rd hI rfl z63
          obtain ⟨q65, q66, q67, q68, q69⟩ := q56
          have F70 : Fr [(23, 0), (23, 1), (23, 2), (23, 3), (23, 4), (30, 4), (30, 5), (30, 6), (30, 7), (30, 8), (30, 9), (30, 10), (35, 4), (0, 9)] [24, 25, 26, 27, 31, 32, 33, 34, 36, 37, 38] τ t58 := Fr_call Fr_rfl q66 (by decide)
          refine r_aload_n S dX11_restore_35 rfl (lv_at hl 0 rfl) ?_
          refine r_iconst S dX11_restore_36 (by decide) (fun v71 z72 => ?_)
          have r73 := R_eq z72
          refine r_put (K := 0) (ty := .int) S X57 (Nat.le_of_ble_eq_true rfl) rfl lk11_116_9 (fun _ => ⟨_, rfl, Nat.le_of_ble_eq_true rfl, rfl⟩) (fun _ _ _ h => by cases h; exact ⟨rfl, rfl⟩) rfl rfl dX11_restore_37 (fun t74 H lc M75 X76 => ?_)
          have I77 := Inv_mu q65 M75 (show Rg (kd 0) 9 v71 from (R_of (lo := 0) (hi := 8) r73 rfl))
          have F78 : Fr [(23, 0), (23, 1), (23, 2), (23, 3), (23, 4), (30, 4), (30, 5), (30, 6), (30, 7), (30, 8), (30, 9), (30, 10), (35, 4), (0, 9)] [24, 25, 26, 27, 31, 32, 33, 34, 36, 37, 38] τ t74 := Fr_mu F70 M75 (by decide)
          refine r_iconst S dX11_restore_40 (by decide) (fun v79 z80 => ?_)
          have r81 := R_eq z80
          exact r_ret S hr hlk X76 ⟨I77, F78, (WI_1 hIM (((M75.2 23 2 (Or.inl (by decide))).trans (q68.trans z60)).trans (rfl.symm.trans z60).symm) (((M75.2 30 8 (Or.inl (by decide))).trans (q69.trans z63)).trans (rfl.symm.trans z63).symm)), (HI_0 M75.1 (by omega)), (YW_eq q67 (fun j => ((M75.2 36 j (Or.inl (by decide))).trans rfl)) (fun j => ((M75.2 37 j (Or.inl (by decide))).trans rfl))), (R_of r81 rfl)⟩ (nr_bool (R_of (lo := 0) (hi := 1) r81 rfl)) dX11_restore_41
      ·
        have r82 : R (0) (0) v22 := ⟨by omega, by omega⟩
        refine r_iconst S dX11_restore_20 (by decide) (fun v83 z84 => ?_)
        have r85 := R_eq z84
        exact r_ret S hr hlk X20 ⟨hI, Fr_rfl, hWI, hHI, hYW, (R_of r85 rfl)⟩ (nr_bool (R_of (lo := 0) (hi := 1) r85 rfl)) dX11_restore_21
