def po_wcopy_93_22 (τ : Tau)    (u : Tau) : Prop := Inv u ∧ Fr [(94, 0), (94, 1), (94, 2), (94, 3), (94, 4), (101, 4), (101, 5), (101, 6), (101, 7), (101, 8), (101, 9), (101, 10), (106, 4)] [95, 96, 97, 98, 102, 103, 104, 105, 107, 108, 109, 299, 300] τ u ∧ YA u ∧ u 94 2 = τ 23 2 ∧ u 101 8 = τ 30 8
set_option maxHeartbeats 4000000 in
set_option maxRecDepth 100000 in
theorem c_wcopy_93_22 (l : Launch) (G : Gx) (τ : Tau) (hI : Inv τ) (hYA : YA τ) (hYW : YW τ) : Cv l G yX10_copyFrom cX10_copyFrom 2 2 81 [.ref (G.2.2.2.1 93), .ref (G.2.2.2.1 22)] τ (po_wcopy_93_22 τ   ) := by
  unfold Cv
  refine C_of (own := RX10) (by decide) rfl (Nat.le_of_ble_eq_true rfl) ?_
  intro p e s m below meth c ls S hr hlk X hl
  have hl : lv_has ls 2 [(0, .ref (G.2.2.2.1 93)), (1, .ref (G.2.2.2.1 22))] := hl
  refine r_aload_n S dX10_copyFrom_0 rfl (lv_at hl 0 rfl) ?_
  refine r_get (K := 22) (v := .ref (G.2.2.2.1 94)) S X (Nat.le_of_ble_eq_true rfl) rfl lk10_12_8 (fun _ => ⟨_, rfl, rfl⟩) dX10_copyFrom_1 ?_
  refine r_aload_n S dX10_copyFrom_4 rfl (lv_at hl 1 rfl) ?_
  refine r_get (K := 22) (v := .ref (G.2.2.2.1 23)) S X (Nat.le_of_ble_eq_true rfl) rfl lk10_12_8 (fun _ => ⟨_, rfl, rfl⟩) dX10_copyFrom_5 ?_
  refine r_kv (q_V (As := [.ref (G.2.2.2.1 23)]) (rest := []) (K := 4) (ci := 2) S X (c_pcopy_94_23 l G τ hI ) ck10_32 (Nat.le_of_ble_eq_true rfl) rfl (fun _ => ⟨_, rfl⟩) ⟨_, _, rfl⟩ ⟨Nat.le_of_ble_eq_true rfl, Nat.le_of_ble_eq_true rfl⟩ rfl hl.1 rfl (Nat.le_of_ble_eq_true rfl) dX10_copyFrom_8 ⟨Nat.le_refl 0, Nat.le_refl 0⟩) X (fun t3 H lc q1 X2 => ?_)
  unfold po_pcopy_94_23 at q1
  obtain ⟨v4, z5⟩ : ∃ x, τ 23 2 = x := ⟨_, rfl⟩
  have r6 : R (0) (9) v4 := rd hI rfl z5
  obtain ⟨q7, q8, q9⟩ := q1
  have F10 : Fr [(94, 0), (94, 1), (94, 2), (94, 3), (94, 4), (101, 4), (101, 5), (101, 6), (101, 7), (101, 8), (101, 9), (101, 10), (106, 4)] [95, 96, 97, 98, 102, 103, 104, 105, 107, 108, 109, 299, 300] τ t3 := Fr_call Fr_rfl q8 (by decide)
  refine r_aload_n S dX10_copyFrom_11 rfl (lv_at hl 0 rfl) ?_
  refine r_get (K := 22) (v := .ref (G.2.2.2.1 101)) S X2 (Nat.le_of_ble_eq_true rfl) rfl lk10_21_8 (fun _ => ⟨_, rfl, rfl⟩) dX10_copyFrom_12 ?_
  refine r_aload_n S dX10_copyFrom_15 rfl (lv_at hl 1 rfl) ?_
  refine r_get (K := 22) (v := .ref (G.2.2.2.1 30)) S X2 (Nat.le_of_ble_eq_true rfl) rfl lk10_21_8 (fun _ => ⟨_, rfl, rfl⟩) dX10_copyFrom_16 ?_
  refine r_kv (q_V (As := [.ref (G.2.2.2.1 30)]) (rest := []) (K := 23) (ci := 3) S X2 (c_scopy_101_30 l G t3 q7 ) ck10_43 (Nat.le_of_ble_eq_true rfl) rfl (fun _ => ⟨_, rfl⟩) ⟨_, _, rfl⟩ ⟨Nat.le_of_ble_eq_true rfl, Nat.le_of_ble_eq_true rfl⟩ rfl hl.1 rfl (Nat.le_of_ble_eq_true rfl) dX10_copyFrom_19 ⟨Nat.le_refl 0, Nat.le_refl 0⟩) X2 (fun t13 H lc q11 X12 => ?_)
  unfold po_scopy_101_30 at q11
  obtain ⟨v14, z15⟩ : ∃ x, t3 30 8 = x := ⟨_, rfl⟩
  have r16 : R (-1) (8) v14 := rd q7 rfl z15
  obtain ⟨q17, q18, q19⟩ := q11
  have F20 : Fr [(94, 0), (94, 1), (94, 2), (94, 3), (94, 4), (101, 4), (101, 5), (101, 6), (101, 7), (101, 8), (101, 9), (101, 10), (106, 4)] [95, 96, 97, 98, 102, 103, 104, 105, 107, 108, 109, 299, 300] τ t13 := Fr_call F10 q18 (by decide)
  refine r_aload_n S dX10_copyFrom_22 rfl (lv_at hl 0 rfl) ?_
  refine r_get (K := 22) (v := .ref (G.2.2.2.1 106)) S X12 (Nat.le_of_ble_eq_true rfl) rfl lk10_28_8 (fun _ => ⟨_, rfl, rfl⟩) dX10_copyFrom_23 ?_
  refine r_aload_n S dX10_copyFrom_26 rfl (lv_at hl 1 rfl) ?_
  refine r_get (K := 22) (v := .ref (G.2.2.2.1 35)) S X12 (Nat.le_of_ble_eq_true rfl) rfl lk10_28_8 (fun _ => ⟨_, rfl, rfl⟩) dX10_copyFrom_27 ?_
  refine r_kv (q_V (As := [.ref (G.2.2.2.1 35)]) (rest := []) (K := 17) (ci := 5) S X12 (c_sncopy_106_35 l G t13 q17 (YA_eq hYA (fun j => ((q18 107 j (by simp [fz])).trans ((q8 107 j (by simp [fz])).trans rfl))) (fun j => ((q18 108 j (by simp [fz])).trans ((q8 108 j (by simp [fz])).trans rfl)))) (YW_eq hYW (fun j => ((q18 36 j (by simp [fz])).trans ((q8 36 j (by simp [fz])).trans rfl))) (fun j => ((q18 37 j (by simp [fz])).trans ((q8 37 j (by simp [fz])).trans rfl))))) ck10_46 (Nat.le_of_ble_eq_true rfl) rfl (fun _ => ⟨_, rfl⟩) ⟨_, _, rfl⟩ ⟨Nat.le_of_ble_eq_true rfl, Nat.le_of_ble_eq_true rfl⟩ rfl hl.1 rfl (Nat.le_of_ble_eq_true rfl) dX10_copyFrom_30 ⟨Nat.le_refl 0, Nat.le_refl 0⟩) X12 (fun t23 H lc q21 X22 => ?_)
  unfold po_sncopy_106_35 at q21
  obtain ⟨q24, q25, q26⟩ := q21
  have F27 : Fr [(94, 0), (94, 1), (94, 2), (94, 3), (94, 4), (101, 4), (101, 5), (101, 6), (101, 7), (101, 8), (101, 9), (101, 10), (106, 4)] [95, 96, 97, 98, 102, 103, 104, 105, 107, 108, 109, 299, 300] τ t23 := Fr_call F20 q25 (by decide)
  exact r_vret S hr hlk X22 ⟨q24, F27, q26, (((q25 94 2 (by decide)).trans ((q18 94 2 (by decide)).trans (q9.trans z5))).trans (rfl.symm.trans z5).symm), (((q25 101 8 (by decide)).trans (q19.trans z15)).trans (((q8 30 8 (by decide)).trans rfl).symm.trans z15).symm)⟩ dX10_copyFrom_33
def po_wcopy_111_22 (τ : Tau)    (u : Tau) : Prop := Inv u ∧ Fr [(112, 0), (112, 1), (112, 2), (112, 3), (112, 4), (119, 4), (119, 5), (119, 6), (119, 7), (119, 8), (119, 9), (119, 10), (124, 4)] [113, 114, 115, 116, 120, 121, 122, 123, 125, 126, 127, 317, 318] τ u ∧ YB u ∧ u 112 2 = τ 23 2 ∧ u 119 8 = τ 30 8
set_option maxHeartbeats 4000000 in
set_option maxRecDepth 100000 in
theorem c_wcopy_111_22 (l : Launch) (G : Gx) (τ : Tau) (hI : Inv τ) (hYB : YB τ) (hYW : YW τ) : Cv l G yX10_copyFrom cX10_copyFrom 2 2 81 [.ref (G.2.2.2.1 111), .ref (G.2.2.2.1 22)] τ (po_wcopy_111_22 τ   ) := by
  unfold Cv
  refine C_of (own := RX10) (by decide) rfl (Nat.le_of_ble_eq_true rfl) ?_
  intro p e s m below meth c ls S hr hlk X hl
  have hl : lv_has ls 2 [(0, .ref (G.2.2.2.1 111)), (1, .ref (G.2.2.2.1 22))] := hl
  refine r_aload_n S dX10_copyFrom_0 rfl (lv_at hl 0 rfl) ?_
  refine r_get (K := 22) (v := .ref (G.2.2.2.1 112)) S X (Nat.le_of_ble_eq_true rfl) rfl lk10_12_8 (fun _ => ⟨_, rfl, rfl⟩) dX10_copyFrom_1 ?_
  refine r_aload_n S dX10_copyFrom_4 rfl (lv_at hl 1 rfl) ?_
  refine r_get (K := 22) (v := .ref (G.2.2.2.1 23)) S X (Nat.le_of_ble_eq_true rfl) rfl lk10_12_8 (fun _ => ⟨_, rfl, rfl⟩) dX10_copyFrom_5 ?_
  refine r_kv (q_V (As := [.ref (G.2.2.2.1 23)]) (rest := []) (K := 4) (ci := 2) S X (c_pcopy_112_23 l G τ hI ) ck10_32 (Nat.le_of_ble_eq_true rfl) rfl (fun _ => ⟨_, rfl⟩) ⟨_, _, rfl⟩ ⟨Nat.le_of_ble_eq_true rfl, Nat.le_of_ble_eq_true rfl⟩ rfl hl.1 rfl (Nat.le_of_ble_eq_true rfl) dX10_copyFrom_8 ⟨Nat.le_refl 0, Nat.le_refl 0⟩) X (fun t3 H lc q1 X2 => ?_)
  unfold po_pcopy_112_23 at q1
  obtain ⟨v4, z5⟩ : ∃ x, τ 23 2 = x := ⟨_, rfl⟩
  have r6 : R (0) (9) v4 := rd hI rfl z5
  obtain ⟨q7, q8, q9⟩ := q1
  have F10 : Fr [(112, 0), (112, 1), (112, 2), (112, 3), (112, 4), (119, 4), (119, 5), (119, 6), (119, 7), (119, 8), (119, 9), (119, 10), (124, 4)] [113, 114, 115, 116, 120, 121, 122, 123, 125, 126, 127, 317, 318] τ t3 := Fr_call Fr_rfl q8 (by decide)
  refine r_aload_n S dX10_copyFrom_11 rfl (lv_at hl 0 rfl) ?_
  refine r_get (K := 22) (v := .ref (G.2.2.2.1 119)) S X2 (Nat.le_of_ble_eq_true rfl) rfl lk10_21_8 (fun _ => ⟨_, rfl, rfl⟩) dX10_copyFrom_12 ?_
  refine r_aload_n S dX10_copyFrom_15 rfl (lv_at hl 1 rfl) ?_
  refine r_get (K := 22) (v := .ref (G.2.2.2.1 30)) S X2 (Nat.le_of_ble_eq_true rfl) rfl lk10_21_8 (fun _ => ⟨_, rfl, rfl⟩) dX10_copyFrom_16 ?_
  refine r_kv (q_V (As := [.ref (G.2.2.2.1 30)]) (rest := []) (K := 23) (ci := 3) S X2 (c_scopy_119_30 l G t3 q7 ) ck10_43 (Nat.le_of_ble_eq_true rfl) rfl (fun _ => ⟨_, rfl⟩) ⟨_, _, rfl⟩ ⟨Nat.le_of_ble_eq_true rfl, Nat.le_of_ble_eq_true rfl⟩ rfl hl.1 rfl (Nat.le_of_ble_eq_true rfl) dX10_copyFrom_19 ⟨Nat.le_refl 0, Nat.le_refl 0⟩) X2 (fun t13 H lc q11 X12 => ?_)
  unfold po_scopy_119_30 at q11
  obtain ⟨v14, z15⟩ : ∃ x, t3 30 8 = x := ⟨_, rfl⟩
  have r16 : R (-1) (8) v14 := rd q7 rfl z15
  obtain ⟨q17, q18, q19⟩ := q11
  have F20 : Fr [(112, 0), (112, 1), (112, 2), (112, 3), (112, 4), (119, 4), (119, 5), (119, 6), (119, 7), (119, 8), (119, 9), (119, 10), (124, 4)] [113, 114, 115, 116, 120, 121, 122, 123, 125, 126, 127, 317, 318] τ t13 := Fr_call F10 q18 (by decide)
  refine r_aload_n S dX10_copyFrom_22 rfl (lv_at hl 0 rfl) ?_
  refine r_get (K := 22) (v := .ref (G.2.2.2.1 124)) S X12 (Nat.le_of_ble_eq_true rfl) rfl lk10_28_8 (fun _ => ⟨_, rfl, rfl⟩) dX10_copyFrom_23 ?_
  refine r_aload_n S dX10_copyFrom_26 rfl (lv_at hl 1 rfl) ?_
  refine r_get (K := 22) (v := .ref (G.2.2.2.1 35)) S X12 (Nat.le_of_ble_eq_true rfl) rfl lk10_28_8 (fun _ => ⟨_, rfl, rfl⟩) dX10_copyFrom_27 ?_
  refine r_kv (q_V (As := [.ref (G.2.2.2.1 35)]) (rest := []) (K := 17) (ci := 5) S X12 (c_sncopy_124_35 l G t13 q17 (YB_eq hYB (fun j => ((q18 125 j (by simp [fz])).trans ((q8 125 j (by simp [fz])).trans rfl))) (fun j => ((q18 126 j (by simp [fz])).trans ((q8 126 j (by simp [fz])).trans rfl)))) (YW_eq hYW (fun j => ((q18 36 j (by simp [fz])).trans ((q8 36 j (by simp [fz])).trans rfl))) (fun j => ((q18 37 j (by simp [fz])).trans ((q8 37 j (by simp [fz])).trans rfl))))) ck10_46 (Nat.le_of_ble_eq_true rfl) rfl (fun _ => ⟨_, rfl⟩) ⟨_, _, rfl⟩ ⟨Nat.le_of_ble_eq_true rfl, Nat.le_of_ble_eq_true rfl⟩ rfl hl.1 rfl (Nat.le_of_ble_eq_true rfl) dX10_copyFrom_30 ⟨Nat.le_refl 0, Nat.le_refl 0⟩) X12 (fun t23 H lc q21 X22 => ?_)
  unfold po_sncopy_124_35 at q21
  obtain ⟨q24, q25, q26⟩ := q21
  have F27 : Fr [(112, 0), (112, 1), (112, 2), (112, 3), (112, 4), (119, 4), (119, 5), (119, 6), (119, 7), (119, 8), (119, 9), (119, 10), (124, 4)] [113, 114, 115, 116, 120, 121, 122, 123, 125, 126, 127, 317, 318] τ t23 := Fr_call F20 q25 (by decide)
  exact r_vret S hr hlk X22 ⟨q24, F27, q26, (((q25 112 2 (by decide)).trans ((q18 112 2 (by decide)).trans (q9.trans z5))).trans (rfl.symm.trans z5).symm), (((q25 119 8 (by decide)).trans (q19.trans z15)).trans (((q8 30 8 (by decide)).trans rfl).symm.trans z15).symm)⟩ dX10_copyFrom_33
def po_wcopy_22_93 (τ : Tau)    (u : Tau) : Prop := Inv u ∧ Fr [(23, 0), (23, 1), (23, 2), (23, 3), (23, 4), (30, 4), (30, 5), (30, 6), (30, 7), (30, 8), (30, 9), (30, 10), (35, 4)] [24, 25, 26, 27, 31, 32, 33, 34, 36, 37, 38, 228, 229] τ u ∧ YW u ∧ u 23 2 = τ 94 2 ∧ u 30 8 = τ 101 8
set_option maxHeartbeats 4000000 in
set_option maxRecDepth 100000 in
theorem c_wcopy_22_93 (l : Launch) (G : Gx) (τ : Tau) (hI : Inv τ) (hYW : YW τ) (hYA : YA τ) : Cv l G yX10_copyFrom cX10_copyFrom 2 2 81 [.ref (G.2.2.2.1 22), .ref (G.2.2.2.1 93)] τ (po_wcopy_22_93 τ   ) := by
  unfold Cv
  refine C_of (own := RX10) (by decide) rfl (Nat.le_of_ble_eq_true rfl) ?_
  intro p e s m below meth c ls S hr hlk X hl
  have hl : lv_has ls 2 [(0, .ref (G.2.2.2.1 22)), (1, .ref (G.2.2.2.1 93))] := hl
  refine r_aload_n S dX10_copyFrom_0 rfl (lv_at hl 0 rfl) ?_
  refine r_get (K := 22) (v := .ref (G.2.2.2.1 23)) S X (Nat.le_of_ble_eq_true rfl) rfl lk10_12_8 (fun _ => ⟨_, rfl, rfl⟩) dX10_copyFrom_1 ?_
  refine r_aload_n S dX10_copyFrom_4 rfl (lv_at hl 1 rfl) ?_
  refine r_get (K := 22) (v := .ref (G.2.2.2.1 94)) S X (Nat.le_of_ble_eq_true rfl) rfl lk10_12_8 (fun _ => ⟨_, rfl, rfl⟩) dX10_copyFrom_5 ?_
  refine r_kv (q_V (As := [.ref (G.2.2.2.1 94)]) (rest := []) (K := 4) (ci := 2) S X (c_pcopy_23_94 l G τ hI ) ck10_32 (Nat.le_of_ble_eq_true rfl) rfl (fun _ => ⟨_, rfl⟩) ⟨_, _, rfl⟩ ⟨Nat.le_of_ble_eq_true rfl, Nat.le_of_ble_eq_true rfl⟩ rfl hl.1 rfl (Nat.le_of_ble_eq_true rfl) dX10_copyFrom_8 ⟨Nat.le_refl 0, Nat.le_refl 0⟩) X (fun t3 H lc q1 X2 => ?_)
  unfold po_pcopy_23_94 at q1
  obtain ⟨v4, z5⟩ : ∃ x, τ 94 2 = x := ⟨_, rfl⟩
  have r6 : R (0) (9) v4 := rd hI rfl z5
  obtain ⟨q7, q8, q9⟩ := q1
  have F10 : Fr [(23, 0), (23, 1), (23, 2), (23, 3), (23, 4), (30, 4), (30, 5), (30, 6), (30, 7), (30, 8), (30, 9), (30, 10), (35, 4)] [24, 25, 26, 27, 31, 32, 33, 34, 36, 37, 38, 228, 229] τ t3 := Fr_call Fr_rfl q8 (by decide)
  refine r_aload_n S dX10_copyFrom_11 rfl (lv_at hl 0 rfl) ?_
  refine r_get (K := 22) (v := .ref (G.2.2.2.1 30)) S X2 (Nat.le_of_ble_eq_true rfl) rfl lk10_21_8 (fun _ => ⟨_, rfl, rfl⟩) dX10_copyFrom_12 ?_
  refine r_aload_n S dX10_copyFrom_15 rfl (lv_at hl 1 rfl) ?_
  refine r_get (K := 22) (v := .ref (G.2.2.2.1 101)) S X2 (Nat.le_of_ble_eq_true rfl) rfl lk10_21_8 (fun _ => ⟨_, rfl, rfl⟩) dX10_copyFrom_16 ?_
  refine r_kv (q_V (As := [.ref (G.2.2.2.1 101)]) (rest := []) (K := 23) (ci := 3) S X2 (c_scopy_30_101 l G t3 q7 ) ck10_43 (Nat.le_of_ble_eq_true rfl) rfl (fun _ => ⟨_, rfl⟩) ⟨_, _, rfl⟩ ⟨Nat.le_of_ble_eq_true rfl, Nat.le_of_ble_eq_true rfl⟩ rfl hl.1 rfl (Nat.le_of_ble_eq_true rfl) dX10_copyFrom_19 ⟨Nat.le_refl 0, Nat.le_refl 0⟩) X2 (fun t13 H lc q11 X12 => ?_)
  unfold po_scopy_30_101 at q11
  obtain ⟨v14, z15⟩ : ∃ x, t3 101 8 = x := ⟨_, rfl⟩
  have r16 : R (-1) (8) v14 := rd q7 rfl z15
  obtain ⟨q17, q18, q19⟩ := q11
  have F20 : Fr [(23, 0), (23, 1), (23, 2), (23, 3), (23, 4), (30, 4), (30, 5), (30, 6), (30, 7), (30, 8), (30, 9), (30, 10), (35, 4)] [24, 25, 26, 27, 31, 32, 33, 34, 36, 37, 38, 228, 229] τ t13 := Fr_call F10 q18 (by decide)
  refine r_aload_n S dX10_copyFrom_22 rfl (lv_at hl 0 rfl) ?_
  refine r_get (K := 22) (v := .ref (G.2.2.2.1 35)) S X12 (Nat.le_of_ble_eq_true rfl) rfl lk10_28_8 (fun _ => ⟨_, rfl, rfl⟩) dX10_copyFrom_23 ?_
  refine r_aload_n S dX10_copyFrom_26 rfl (lv_at hl 1 rfl) ?_
  refine r_get (K := 22) (v := .ref (G.2.2.2.1 106)) S X12 (Nat.le_of_ble_eq_true rfl) rfl lk10_28_8 (fun _ => ⟨_, rfl, rfl⟩) dX10_copyFrom_27 ?_
  refine r_kv (q_V (As := [.ref (G.2.2.2.1 106)]) (rest := []) (K := 17) (ci := 5) S X12 (c_sncopy_35_106 l G t13 q17 (YW_eq hYW (fun j => ((q18 36 j (by simp [fz])).trans ((q8 36 j (by simp [fz])).trans rfl))) (fun j => ((q18 37 j (by simp [fz])).trans ((q8 37 j (by simp [fz])).trans rfl)))) (YA_eq hYA (fun j => ((q18 107 j (by simp [fz])).trans ((q8 107 j (by simp [fz])).trans rfl))) (fun j => ((q18 108 j (by simp [fz])).trans ((q8 108 j (by simp [fz])).trans rfl))))) ck10_46 (Nat.le_of_ble_eq_true rfl) rfl (fun _ => ⟨_, rfl⟩) ⟨_, _, rfl⟩ ⟨Nat.le_of_ble_eq_true rfl, Nat.le_of_ble_eq_true rfl⟩ rfl hl.1 rfl (Nat.le_of_ble_eq_true rfl) dX10_copyFrom_30 ⟨Nat.le_refl 0, Nat.le_refl 0⟩) X12 (fun t23 H lc q21 X22 => ?_)
  unfold po_sncopy_35_106 at q21
  obtain ⟨q24, q25, q26⟩ := q21
  have F27 : Fr [(23, 0), (23, 1), (23, 2), (23, 3), (23, 4), (30, 4), (30, 5), (30, 6), (30, 7), (30, 8), (30, 9), (30, 10), (35, 4)] [24, 25, 26, 27, 31, 32, 33, 34, 36, 37, 38, 228, 229] τ t23 := Fr_call F20 q25 (by decide)
  exact r_vret S hr hlk X22 ⟨q24, F27, q26, (((q25 23 2 (by decide)).trans ((q18 23 2 (by decide)).trans (q9.trans z5))).trans (rfl.symm.trans z5).symm), (((q25 30 8 (by decide)).trans (q19.trans z15)).trans (((q8 101 8 (by decide)).trans rfl).symm.trans z15).symm)⟩ dX10_copyFrom_33
def po_wcopy_22_111 (τ : Tau)    (u : Tau) : Prop := Inv u ∧ Fr [(23, 0), (23, 1), (23, 2), (23, 3), (23, 4), (30, 4), (30, 5), (30, 6), (30, 7), (30, 8), (30, 9), (30, 10), (35, 4)] [24, 25, 26, 27, 31, 32, 33, 34, 36, 37, 38, 228, 229] τ u ∧ YW u ∧ u 23 2 = τ 112 2 ∧ u 30 8 = τ 119 8
set_option maxHeartbeats 4000000 in
set_option maxRecDepth 100000 in
theorem c_wcopy_22_111 (l : Launch) (G : Gx) (τ : Tau) (hI : Inv τ) (hYW : YW τ) (hYB : YB τ) : Cv l G yX10_copyFrom cX10_copyFrom 2 2 81 [.ref (G.2.2.2.1 22), .ref (G.2.2.2.1 111)] τ (po_wcopy_22_111 τ   ) := by
  unfold Cv
  refine C_of (own := RX10) (by decide) rfl (Nat.le_of_ble_eq_true rfl) ?_
  intro p e s m below meth c ls S hr hlk X hl
  have hl : lv_has ls 2 [(0, .ref (G.2.2.2.1 22)), (1, .ref (G.2.2.2.1 111))] := hl
  refine r_aload_n S dX10_copyFrom_0 rfl (lv_at hl 0 rfl) ?_
  refine r_get (K := 22) (v := .ref (G.2.2.2.1 23)) S X (Nat.le_of_ble_eq_true rfl) rfl lk10_12_8 (fun _ => ⟨_, rfl, rfl⟩) dX10_copyFrom_1 ?_
  refine r_aload_n S dX10_copyFrom_4 rfl (lv_at hl 1 rfl) ?_
  refine r_get (K := 22) (v := .ref (G.2.2.2.1 112)) S X (Nat.le_of_ble_eq_true rfl) rfl lk10_12_8 (fun _ => ⟨_, rfl, rfl⟩) dX10_copyFrom_5 ?_
  refine r_kv (q_V (As := [.ref (G.2.2.2.1 112)]) (rest := []) (K := 4) (ci := 2) S X (c_pcopy_23_112 l G τ hI ) ck10_32 (Nat.le_of_ble_eq_true rfl) rfl (fun _ => ⟨_, rfl⟩) ⟨_, _, rfl⟩ ⟨Nat.le_of_ble_eq_true rfl, Nat.le_of_ble_eq_true rfl⟩ rfl hl.1 rfl (Nat.le_of_ble_eq_true rfl) dX10_copyFrom_8 ⟨Nat.le_refl 0, Nat.le_refl 0⟩) X (fun t3 H lc q1 X2 => ?_)
  unfold po_pcopy_23_112 at q1
  obtain ⟨v4, z5⟩ : ∃ x, τ 112 2 = x := ⟨_, rfl⟩
  have r6 : R (0) (9) v4 := rd hI rfl z5
  obtain ⟨q7, q8, q9⟩ := q1
  have F10 : Fr [(23, 0), (23, 1), (23, 2), (23, 3), (23, 4), (30, 4), (30, 5), (30, 6), (30, 7), (30, 8), (30, 9), (30, 10), (35, 4)] [24, 25, 26, 27, 31, 32, 33, 34, 36, 37, 38, 228, 229] τ t3 := Fr_call Fr_rfl q8 (by decide)
  refine r_aload_n S dX10_copyFrom_11 rfl (lv_at hl 0 rfl) ?_
  refine r_get (K := 22) (v := .ref (G.2.2.2.1 30)) S X2 (Nat.le_of_ble_eq_true rfl) rfl lk10_21_8 (fun _ => ⟨_, rfl, rfl⟩) dX10_copyFrom_12 ?_
  refine r_aload_n S dX10_copyFrom_15 rfl (lv_at hl 1 rfl) ?_
  refine r_get (K := 22) (v := .ref (G.2.2.2.1 119)) S X2 (Nat.le_of_ble_eq_true rfl) rfl lk10_21_8 (fun _ => ⟨_, rfl, rfl⟩) dX10_copyFrom_16 ?_
  refine r_kv (q_V (As := [.ref (G.2.2.2.1 119)]) (rest := []) (K := 23) (ci := 3) S X2 (c_scopy_30_119 l G t3 q7 ) ck10_43 (Nat.le_of_ble_eq_true rfl) rfl (fun _ => ⟨_, rfl⟩) ⟨_, _, rfl⟩ ⟨Nat.le_of_ble_eq_true rfl, Nat.le_of_ble_eq_true rfl⟩ rfl hl.1 rfl (Nat.le_of_ble_eq_true rfl) dX10_copyFrom_19 ⟨Nat.le_refl 0, Nat.le_refl 0⟩) X2 (fun t13 H lc q11 X12 => ?_)
  unfold po_scopy_30_119 at q11
  obtain ⟨v14, z15⟩ : ∃ x, t3 119 8 = x := ⟨_, rfl⟩
  have r16 : R (-1) (8) v14 := rd q7 rfl z15
  obtain ⟨q17, q18, q19⟩ := q11
  have F20 : Fr [(23, 0), (23, 1), (23, 2), (23, 3), (23, 4), (30, 4), (30, 5), (30, 6), (30, 7), (30, 8), (30, 9), (30, 10), (35, 4)] [24, 25, 26, 27, 31, 32, 33, 34, 36, 37, 38, 228, 229] τ t13 := Fr_call F10 q18 (by decide)
  refine r_aload_n S dX10_copyFrom_22 rfl (lv_at hl 0 rfl) ?_
  refine r_get (K := 22) (v := .ref (G.2.2.2.1 35)) S X12 (Nat.le_of_ble_eq_true rfl) rfl lk10_28_8 (fun _ => ⟨_, rfl, rfl⟩) dX10_copyFrom_23 ?_
  refine r_aload_n S dX10_copyFrom_26 rfl (lv_at hl 1 rfl) ?_
  refine r_get (K := 22) (v := .ref (G.2.2.2.1 124)) S X12 (Nat.le_of_ble_eq_true rfl) rfl lk10_28_8 (fun _ => ⟨_, rfl, rfl⟩) dX10_copyFrom_27 ?_
  refine r_kv (q_V (As := [.ref (G.2.2.2.1 124)]) (rest := []) (K := 17) (ci := 5) S X12 (c_sncopy_35_124 l G t13 q17 (YW_eq hYW (fun j => ((q18 36 j (by simp [fz])).trans ((q8 36 j (by simp [fz])).trans rfl))) (fun j => ((q18 37 j (by simp [fz])).trans ((q8 37 j (by simp [fz])).trans rfl)))) (YB_eq hYB (fun j => ((q18 125 j (by simp [fz])).trans ((q8 125 j (by simp [fz])).trans rfl))) (fun j => ((q18 126 j (by simp [fz])).trans ((q8 126 j (by simp [fz])).trans rfl))))) ck10_46 (Nat.le_of_ble_eq_true rfl) rfl (fun _ => ⟨_, rfl⟩) ⟨_, _, rfl⟩ ⟨Nat.le_of_ble_eq_true rfl, Nat.le_of_ble_eq_true rfl⟩ rfl hl.1 rfl (Nat.le_of_ble_eq_true rfl) dX10_copyFrom_30 ⟨Nat.le_refl 0, Nat.le_refl 0⟩) X12 (fun t23 H lc q21 X22 => ?_)
  unfold po_sncopy_35_124 at q21
  obtain ⟨q24, q25, q26⟩ := q21
  have F27 : Fr [(23, 0), (23, 1), (23, 2), (23, 3), (23, 4), (30, 4), (30, 5), (30, 6), (30, 7), (30, 8), (30, 9), (30, 10), (35, 4)] [24, 25, 26, 27, 31, 32, 33, 34, 36, 37, 38, 228, 229] τ t23 := Fr_call F20 q25 (by decide)
  exact r_vret S hr hlk X22 ⟨q24, F27, q26, (((q25 23 2 (by decide)).trans ((q18 23 2 (by decide)).trans (q9.trans z5))).trans (rfl.symm.trans z5).symm), (((q25 30 8 (by decide)).trans (q19.trans z15)).trans (((q8 119 8 (by decide)).trans rfl).symm.trans z15).symm)⟩ dX10_copyFrom_33
def po_X11_bit_x (τ : Tau)  (a0 a1 : Int32)  (r : Int32) (u : Tau) : Prop := u = τ ∧ R (0) (1) r ∧ ((a1.toInt = 0 → r.toInt = a0.toInt % 2) ∧ (a1.toInt = 1 → r.toInt = a0.toInt / 2))
set_option maxHeartbeats 4000000 in
set_option maxRecDepth 100000 in
theorem c_X11_bit_x (l : Launch) (G : Gx) (τ : Tau) (hI : Inv τ) (a0 : Int32) (a1 : Int32) (h_a0 : R (0) (3) a0) (h_a1 : R (0) (1) a1) : Ci l G yX11_bit cX11_bit 2 (some .int) 0 0 [.int a0, .int a1] τ (po_X11_bit_x τ  a0 a1 ) := by
  unfold Ci
  refine C_of (own := RX11) (by decide) rfl (Nat.le_of_ble_eq_true rfl) ?_
  intro p e s m below meth c ls S hr hlk X hl
  have hl : lv_has ls 2 [(0, .int a0), (1, .int a1)] := hl
  refine r_iload_n S dX11_bit_0 rfl (lv_at hl 0 rfl) ?_
  refine r_iload_n S dX11_bit_1 rfl (lv_at hl 1 rfl) ?_
  refine r_ishr S dX11_bit_2 (fun v1 z2 => ?_)
  have r4 : R (0) (3) v1 := i_shr z2 h_a0 h_a1 rfl
  refine r_iconst S dX11_bit_3 (by decide) (fun v5 z6 => ?_)
  have r7 := R_eq z6
  refine r_iand S dX11_bit_4 (fun v8 z9 => ?_)
  have r11 : R (0) (1) v8 := i_and2 z9 r4 r7 rfl
  have e12 := i_andle z9 r4 rfl
  exact r_ret S hr hlk X ⟨rfl, r11, (bx_bit h_a0 h_a1 z2 (show v5.toInt = 1 by omega) z9)⟩ rfl dX11_bit_5
def po_X11_image (τ : Tau)  (a0 : Int32)  (r : Int32) (u : Tau) : Prop := Inv u ∧ Fr [(94, 0), (94, 1), (94, 2), (94, 3), (94, 4), (101, 4), (101, 5), (101, 6), (101, 7), (101, 8), (101, 9), (101, 10), (106, 4), (112, 0), (112, 1), (112, 2), (112, 3), (112, 4), (119, 4), (119, 5), (119, 6), (119, 7), (119, 8), (119, 9), (119, 10), (124, 4), (0, 11)] [95, 96, 97, 98, 102, 103, 104, 105, 107, 108, 109, 113, 114, 115, 116, 120, 121, 122, 123, 125, 126, 127, 299, 300, 317, 318] τ u ∧ IM u ∧ YA u ∧ YB u ∧ R (0) (1) r ∧ (0 ≤ a0.toInt ∧ a0.toInt ≤ 1 → r.toInt = 1) ∧ (a0.toInt < 0 ∨ 1 < a0.toInt → r.toInt = 0) ∧ (a0.toInt = 0 → (u 0 11).toInt = (τ 0 11).toInt / 2 * 2 + 1) ∧ (a0.toInt = 1 → (u 0 11).toInt = (τ 0 11).toInt % 2 + 2) ∧ (a0.toInt < 0 ∨ 1 < a0.toInt → (u 0 11).toInt = (τ 0 11).toInt)
set_option maxHeartbeats 4000000 in
set_option maxRecDepth 100000 in
theorem c_X11_image (l : Launch) (G : Gx) (τ : Tau) (hI : Inv τ) (a0 : Int32) (h_a0 : R (-2147483648) (2147483647) a0) (hWI : WI τ) (hIM : IM τ) (hYW : YW τ) (hYA : YA τ) (hYB : YB τ) : Ci l G yX11_image cX11_image 2 (some .boolean) 3 102 [.ref (G.2.2.2.1 0), .int a0] τ (po_X11_image τ  a0 ) := by
  unfold Ci
  refine C_of (own := RX11) (by decide) rfl (Nat.le_of_ble_eq_true rfl) ?_
  intro p e s m below meth c ls S hr hlk X hl
  have hl : lv_has ls 2 [(0, .ref (G.2.2.2.1 0)), (1, .int a0)] := hl
  obtain ⟨v1, z2⟩ : ∃ x, τ 0 11 = x := ⟨_, rfl⟩
  have r3 : R (0) (3) v1 := rd hI rfl z2
  refine r_iload_n S dX11_image_0 rfl (lv_at hl 1 rfl) ?_
  refine r_if_lt (tgt := 9) S dX11_image_1 (by decide) (fun c4 => ?_) (fun c4 => ?_)
  ·
    have r5 : R (-2147483648) (-1) a0 := ⟨by omega, by omega⟩
    refine r_iconst S dX11_image_9 (by decide) (fun v6 z7 => ?_)
    have r8 := R_eq z7
    exact r_ret S hr hlk X ⟨hI, Fr_rfl, hIM, hYA, hYB, (R_of r8 rfl), (by omega), (by omega), (by have h1_0 := congrArg Int32.toInt z2; have h2_0 := congrArg Int32.toInt z2; omega), (by have h1_0 := congrArg Int32.toInt z2; have h2_0 := congrArg Int32.toInt z2; omega), (by have h1_0 := congrArg Int32.toInt z2; have h2_0 := congrArg Int32.toInt z2; omega)⟩ (nr_bool (R_of (lo := 0) (hi := 1) r8 rfl)) dX11_image_10
  ·
    have r9 : R (0) (2147483647) a0 := ⟨by omega, by omega⟩
    refine r_iload_n S dX11_image_4 rfl (lv_at hl 1 rfl) ?_
    refine r_iconst S dX11_image_5 (by decide) (fun v10 z11 => ?_)
    have r12 := R_eq z11
    refine r_icmp_lt (tgt := 11) S dX11_image_6 (by decide) (fun c13 => ?_) (fun c13 => ?_)
    ·
      have r14 : R (0) (1) a0 := ⟨by omega, by omega⟩
      refine r_aload_n S dX11_image_11 rfl (lv_at hl 0 rfl) ?_
      refine r_get (K := 0) (v := .ref (G.2.2.2.1 92)) S X (Nat.le_of_ble_eq_true rfl) rfl lk11_64_9 (fun _ => ⟨_, rfl, rfl⟩) dX11_image_12 ?_
      refine r_iload_n S dX11_image_15 rfl (lv_at hl 1 rfl) ?_
      refine r_aldO S X (ix_of r14 rfl) dX11_image_16 (fun n15 h16 h17 => ?_)
      rcases (show n15 = 0 ∨ n15 = 1 by omega) with rfl | rfl
      ·
        refine r_aload_n S dX11_image_17 rfl (lv_at hl 0 rfl) ?_
        refine r_get (K := 0) (v := .ref (G.2.2.2.1 22)) S X (Nat.le_of_ble_eq_true rfl) rfl lk11_42_9 (fun _ => ⟨_, rfl, rfl⟩) dX11_image_18 ?_
        refine r_kv (q_V (As := [.ref (G.2.2.2.1 22)]) (rest := []) (K := 22) (ci := 8) S X (c_wcopy_93_22 l G τ hI hYA hYW) ck11_301 (Nat.le_of_ble_eq_true rfl) rfl (fun _ => ⟨_, rfl⟩) ⟨_, _, rfl⟩ ⟨Nat.le_of_ble_eq_true rfl, Nat.le_of_ble_eq_true rfl⟩ rfl hl.1 rfl (Nat.le_of_ble_eq_true rfl) dX11_image_21 ⟨Nat.le_refl 0, Nat.le_refl 0⟩) X (fun t20 H lc q18 X19 => ?_)
        unfold po_wcopy_93_22 at q18
        obtain ⟨v21, z22⟩ : ∃ x, τ 23 2 = x := ⟨_, rfl⟩
        have r23 : R (0) (9) v21 := rd hI rfl z22
        obtain ⟨v24, z25⟩ : ∃ x, τ 30 8 = x := ⟨_, rfl⟩
        have r26 : R (-1) (8) v24 := rd hI rfl z25
        obtain ⟨q27, q28, q29, q30, q31⟩ := q18
        have F32 : Fr [(94, 0), (94, 1), (94, 2), (94, 3), (94, 4), (101, 4), (101, 5), (101, 6), (101, 7), (101, 8), (101, 9), (101, 10), (106, 4), (112, 0), (112, 1), (112, 2), (112, 3), (112, 4), (119, 4), (119, 5), (119, 6), (119, 7), (119, 8), (119, 9), (119, 10), (124, 4), (0, 11)] [95, 96, 97, 98, 102, 103, 104, 105, 107, 108, 109, 113, 114, 115, 116, 120, 121, 122, 123, 125, 126, 127, 299, 300, 317, 318] τ t20 := Fr_call Fr_rfl q28 (by decide)
        refine r_aload_n S dX11_image_24 rfl (lv_at hl 0 rfl) ?_
        refine r_dup S dX11_image_25 rfl ?_
        refine r_geti (K := 0) S X19 (Nat.le_of_ble_eq_true rfl) rfl lk11_304_9 (fun _ => ⟨_, rfl, rfl⟩) ((q28 0 11 (by decide)).trans z2) dX11_image_26 ?_
        refine r_iconst S dX11_image_29 (by decide) (fun v33 z34 => ?_)
        have r35 := R_eq z34
        refine r_iload_n S dX11_image_30 rfl (lv_at hl 1 rfl) ?_
        refine r_ishl S dX11_image_31 (fun v36 z37 => ?_)
        have r39 : R (1) (2) v36 := i_shl z37 r35 r14 rfl
        refine r_ior S dX11_image_32 (fun v40 z41 => ?_)
        have r43 : R (0) (3) v40 := i_or 2 z41 r3 r39 rfl
        obtain ⟨h44, h45⟩ := bx_or (x := v1) (k := a0) ⟨by omega, by omega⟩ ⟨by omega, by omega⟩ (show v33.toInt = 1 by omega) z37 z41
        refine r_put (K := 0) (ty := .int) S X19 (Nat.le_of_ble_eq_true rfl) rfl lk11_304_9 (fun _ => ⟨_, rfl, Nat.le_of_ble_eq_true rfl, rfl⟩) (fun _ _ _ h => by cases h; exact ⟨rfl, rfl⟩) rfl rfl dX11_image_33 (fun t46 H lc M47 X48 => ?_)
        have I49 := Inv_mu q27 M47 (show Rg (kd 0) 11 v40 from (R_of (lo := 0) (hi := 3) r43 rfl))
        have F50 : Fr [(94, 0), (94, 1), (94, 2), (94, 3), (94, 4), (101, 4), (101, 5), (101, 6), (101, 7), (101, 8), (101, 9), (101, 10), (106, 4), (112, 0), (112, 1), (112, 2), (112, 3), (112, 4), (119, 4), (119, 5), (119, 6), (119, 7), (119, 8), (119, 9), (119, 10), (124, 4), (0, 11)] [95, 96, 97, 98, 102, 103, 104, 105, 107, 108, 109, 113, 114, 115, 116, 120, 121, 122, 123, 125, 126, 127, 299, 300, 317, 318] τ t46 := Fr_mu F32 M47 (by decide)
        refine r_iconst S dX11_image_36 (by decide) (fun v51 z52 => ?_)
        have r53 := R_eq z52
        exact r_ret S hr hlk X48 ⟨I49, F50, (IM_0 hIM hWI (((M47.2 94 2 (Or.inl (by decide))).trans (q30.trans z22)).trans (rfl.symm.trans z22).symm) (((M47.2 101 8 (Or.inl (by decide))).trans (q31.trans z25)).trans (rfl.symm.trans z25).symm) ((M47.2 112 2 (Or.inl (by decide))).trans ((q28 112 2 (by decide)).trans rfl)) ((M47.2 119 8 (Or.inl (by decide))).trans ((q28 119 8 (by decide)).trans rfl))), (YA_eq q29 (fun j => ((M47.2 107 j (Or.inl (by decide))).trans rfl)) (fun j => ((M47.2 108 j (Or.inl (by decide))).trans rfl))), (YB_eq hYB (fun j => ((M47.2 125 j (Or.inl (by decide))).trans ((q28 125 j (by simp [fz])).trans rfl))) (fun j => ((M47.2 126 j (Or.inl (by decide))).trans ((q28 126 j (by simp [fz])).trans rfl)))), (R_of r53 rfl), (by omega), (by omega), (by have h1_0 := congrArg Int32.toInt M47.1; have h2_0 := congrArg Int32.toInt z2; omega), (by have h1_0 := congrArg Int32.toInt M47.1; have h2_0 := congrArg Int32.toInt z2; omega), (by have h1_0 := congrArg Int32.toInt M47.1; have h2_0 := congrArg Int32.toInt z2; omega)⟩ (nr_bool (R_of (lo := 0) (hi := 1) r53 rfl)) dX11_image_37
      ·
        refine r_aload_n S dX11_image_17 rfl (lv_at hl 0 rfl) ?_
        refine r_get (K := 0) (v := .ref (G.2.2.2.1 22)) S X (Nat.le_of_ble_eq_true rfl) rfl lk11_42_9 (fun _ => ⟨_, rfl, rfl⟩) dX11_image_18 ?_
        refine r_kv (q_V (As := [.ref (G.2.2.2.1 22)]) (rest := []) (K := 22) (ci := 8) S X (c_wcopy_111_22 l G τ hI hYB hYW) ck11_301 (Nat.le_of_ble_eq_true rfl) rfl (fun _ => ⟨_, rfl⟩) ⟨_, _, rfl⟩ ⟨Nat.le_of_ble_eq_true rfl, Nat.le_of_ble_eq_true rfl⟩ rfl hl.1 rfl (Nat.le_of_ble_eq_true rfl) dX11_image_21 ⟨Nat.le_refl 0, Nat.le_refl 0⟩) X (fun t56 H lc q54 X55 => ?_)
        unfold po_wcopy_111_22 at q54
        obtain ⟨v57, z58⟩ : ∃ x, τ 23 2 = x := ⟨_, rfl⟩
        have r59 : R (0) (9) v57 := rd hI rfl z58
        obtain ⟨v60, z61⟩ : ∃ x, τ 30 8 = x := ⟨_, rfl⟩
        have r62 : R (-1) (8) v60 := rd hI rfl z61
        obtain ⟨q63, q64, q65, q66, q67⟩ := q54
        have F68 : Fr [(94, 0), (94, 1), (94, 2), (94, 3), (94, 4), (101, 4), (101, 5), (101, 6), (101, 7), (101, 8), (101, 9), (101, 10), (106, 4), (112, 0), (112, 1), (112, 2), (112, 3), (112, 4), (119, 4), (119, 5), (119, 6), (119, 7), (119, 8), (119, 9), (119, 10), (124, 4), (0, 11)] [95, 96, 97, 98, 102, 103, 104, 105, 107, 108, 109, 113, 114, 115, 116, 120, 121, 122, 123, 125, 126, 127, 299, 300, 317, 318] τ t56 := Fr_call Fr_rfl q64 (by decide)
        refine r_aload_n S dX11_image_24 rfl (lv_at hl 0 rfl) ?_
        refine r_dup S dX11_image_25 rfl ?_
        refine r_geti (K := 0) S X55 (Nat.le_of_ble_eq_true rfl) rfl lk11_304_9 (fun _ => ⟨_, rfl, rfl⟩) ((q64 0 11 (by decide)).trans z2) dX11_image_26 ?_
        refine r_iconst S dX11_image_29 (by decide) (fun v69 z70 => ?_)
        have r71 := R_eq z70
        refine r_iload_n S dX11_image_30 rfl (lv_at hl 1 rfl) ?_
        refine r_ishl S dX11_image_31 (fun v72 z73 => ?_)
        have r75 : R (1) (2) v72 := i_shl z73 r71 r14 rfl
        refine r_ior S dX11_image_32 (fun v76 z77 => ?_)
        have r79 : R (0) (3) v76 := i_or 2 z77 r3 r75 rfl
        obtain ⟨h80, h81⟩ := bx_or (x := v1) (k := a0) ⟨by omega, by omega⟩ ⟨by omega, by omega⟩ (show v69.toInt = 1 by omega) z73 z77
        refine r_put (K := 0) (ty := .int) S X55 (Nat.le_of_ble_eq_true rfl) rfl lk11_304_9 (fun _ => ⟨_, rfl, Nat.le_of_ble_eq_true rfl, rfl⟩) (fun _ _ _ h => by cases h; exact ⟨rfl, rfl⟩) rfl rfl dX11_image_33 (fun t82 H lc M83 X84 => ?_)
        have I85 := Inv_mu q63 M83 (show Rg (kd 0) 11 v76 from (R_of (lo := 0) (hi := 3) r79 rfl))
        have F86 : Fr [(94, 0), (94, 1), (94, 2), (94, 3), (94, 4), (101, 4), (101, 5), (101, 6), (101, 7), (101, 8), (101, 9), (101, 10), (106, 4), (112, 0), (112, 1), (112, 2), (112, 3), (112, 4), (119, 4), (119, 5), (119, 6), (119, 7), (119, 8), (119, 9), (119, 10), (124, 4), (0, 11)] [95, 96, 97, 98, 102, 103, 104, 105, 107, 108, 109, 113, 114, 115, 116, 120, 121, 122, 123, 125, 126, 127, 299, 300, 317, 318] τ t82 := Fr_mu F68 M83 (by decide)
        refine r_iconst S dX11_image_36 (by decide) (fun v87 z88 => ?_)
        have r89 := R_eq z88
        exact r_ret S hr hlk X84 ⟨I85, F86, (IM_1 hIM hWI (((M83.2 112 2 (Or.inl (by decide))).trans (q66.trans z58)).trans (rfl.symm.trans z58).symm) (((M83.2 119 8 (Or.inl (by decide))).trans (q67.trans z61)).trans (rfl.symm.trans z61).symm) ((M83.2 94 2 (Or.inl (by decide))).trans ((q64 94 2 (by decide)).trans rfl)) ((M83.2 101 8 (Or.inl (by decide))).trans ((q64 101 8 (by decide)).trans rfl))), (YA_eq hYA (fun j => ((M83.2 107 j (Or.inl (by decide))).trans ((q64 107 j (by simp [fz])).trans rfl))) (fun j => ((M83.2 108 j (Or.inl (by decide))).trans ((q64 108 j (by simp [fz])).trans rfl)))), (YB_eq q65 (fun j => ((M83.2 125 j (Or.inl (by decide))).trans rfl)) (fun j => ((M83.2 126 j (Or.inl (by decide))).trans rfl))), (R_of r89 rfl), (by omega), (by omega), (by have h1_0 := congrArg Int32.toInt M83.1; have h2_0 := congrArg Int32.toInt z2; omega), (by have h1_0 := congrArg Int32.toInt M83.1; have h2_0 := congrArg Int32.toInt z2; omega), (by have h1_0 := congrArg Int32.toInt M83.1; have h2_0 := congrArg Int32.toInt z2; omega)⟩ (nr_bool (R_of (lo := 0) (hi := 1) r89 rfl)) dX11_image_37
    ·
      have r90 : R (2) (2147483647) a0 := ⟨by omega, by omega⟩
      refine r_iconst S dX11_image_9 (by decide) (fun v91 z92 => ?_)
      have r93 := R_eq z92
      exact r_ret S hr hlk X ⟨hI, Fr_rfl, hIM, hYA, hYB, (R_of r93 rfl), (by omega), (by omega), (by have h1_0 := congrArg Int32.toInt z2; have h2_0 := congrArg Int32.toInt z2; omega), (by have h1_0 := congrArg Int32.toInt z2; have h2_0 := congrArg Int32.toInt z2; omega), (by have h1_0 := congrArg Int32.toInt z2; have h2_0 := congrArg Int32.toInt z2; omega)⟩ (nr_bool (R_of (lo := 0) (hi := 1) r93 rfl)) dX11_image_10
def po_X11_restore (τ : Tau)  (a0 : Int32)  (r : Int32) (u : Tau) : Prop := Inv u ∧ Fr [(23, 0), (23, 1), (23, 2), (23, 3), (23, 4), (30, 4), (30, 5), (30, 6), (30, 7), (30, 8), (30, 9), (30, 10), (35, 4), (0, 9)] [24, 25, 26, 27, 31, 32, 33, 34, 36, 37, 38, 228, 229] τ u ∧ WI u ∧ HI u ∧ YW u ∧ R (0) (1) r ∧ (a0.toInt = 0 → r.toInt = (τ 0 11).toInt % 2) ∧ (a0.toInt = 1 → r.toInt = (τ 0 11).toInt / 2) ∧ (a0.toInt < 0 ∨ 1 < a0.toInt → r.toInt = 0)
set_option maxHeartbeats 4000000 in
set_option maxRecDepth 100000 in
theorem c_X11_restore (l : Launch) (G : Gx) (τ : Tau) (hI : Inv τ) (a0 : Int32) (h_a0 : R (-2147483648) (2147483647) a0) (hWI : WI τ) (hHI : HI τ) (hIM : IM τ) (hYW : YW τ) (hYA : YA τ) (hYB : YB τ) : Ci l G yX11_restore cX11_restore 2 (some .boolean) 3 102 [.ref (G.2.2.2.1 0), .int a0] τ (po_X11_restore τ  a0 ) := by
  unfold Ci
  refine C_of (own := RX11) (by decide) rfl (Nat.le_of_ble_eq_true rfl) ?_
  intro p e s m below meth c ls S hr hlk X hl
  have hl : lv_has ls 2 [(0, .ref (G.2.2.2.1 0)), (1, .int a0)] := hl
  obtain ⟨v1, z2⟩ : ∃ x, τ 0 11 = x := ⟨_, rfl⟩
  have r3 : R (0) (3) v1 := rd hI rfl z2
  refine r_iload_n S dX11_restore_0 rfl (lv_at hl 1 rfl) ?_
  refine r_if_lt (tgt := 20) S dX11_restore_1 (by decide) (fun c4 => ?_) (fun c4 => ?_)
  ·
    have r5 : R (-2147483648) (-1) a0 := ⟨by omega, by omega⟩
    refine r_iconst S dX11_restore_20 (by decide) (fun v6 z7 => ?_)
    have r8 := R_eq z7
    exact r_ret S hr hlk X ⟨hI, Fr_rfl, hWI, hHI, hYW, (R_of r8 rfl), (by have h1_0 := congrArg Int32.toInt z2; have h2_0 := congrArg Int32.toInt z2; omega), (by have h1_0 := congrArg Int32.toInt z2; have h2_0 := congrArg Int32.toInt z2; omega), (by omega)⟩ (nr_bool (R_of (lo := 0) (hi := 1) r8 rfl)) dX11_restore_21
  ·
    have r9 : R (0) (2147483647) a0 := ⟨by omega, by omega⟩
    refine r_iload_n S dX11_restore_4 rfl (lv_at hl 1 rfl) ?_
    refine r_iconst S dX11_restore_5 (by decide) (fun v10 z11 => ?_)
    have r12 := R_eq z11
    refine r_icmp_ge (tgt := 20) S dX11_restore_6 (by decide) (fun c13 => ?_) (fun c13 => ?_)
    ·
      have r14 : R (2) (2147483647) a0 := ⟨by omega, by omega⟩
      refine r_iconst S dX11_restore_20 (by decide) (fun v15 z16 => ?_)
      have r17 := R_eq z16
      exact r_ret S hr hlk X ⟨hI, Fr_rfl, hWI, hHI, hYW, (R_of r17 rfl), (by have h1_0 := congrArg Int32.toInt z2; have h2_0 := congrArg Int32.toInt z2; omega), (by have h1_0 := congrArg Int32.toInt z2; have h2_0 := congrArg Int32.toInt z2; omega), (by omega)⟩ (nr_bool (R_of (lo := 0) (hi := 1) r17 rfl)) dX11_restore_21
    ·
      have r18 : R (0) (1) a0 := ⟨by omega, by omega⟩
      refine r_aload_n S dX11_restore_9 rfl (lv_at hl 0 rfl) ?_
      refine r_geti (K := 0) S X (Nat.le_of_ble_eq_true rfl) rfl lk11_304_9 (fun _ => ⟨_, rfl, rfl⟩) z2 dX11_restore_10 ?_
      refine r_iload_n S dX11_restore_13 rfl (lv_at hl 1 rfl) ?_
      refine r_ki (q_S (As := [.int v1, .int a0]) (rest := []) S X (c_X11_bit_x l G τ hI v1 a0 r3 r18) ck11_135 ⟨Nat.le_of_ble_eq_true rfl, Nat.le_of_ble_eq_true rfl⟩ rfl hl.1 rfl (Nat.le_of_ble_eq_true rfl) dX11_restore_14 ⟨Nat.le_refl 0, Nat.le_refl 0⟩) X (fun v22 t21 H lc q19 X20 => ?_)
      unfold po_X11_bit_x at q19
      obtain ⟨q23, q24, q25⟩ := q19
      rw [q23] at X20
      refine r_if_ne (tgt := 22) S dX11_restore_17 (by decide) (fun c26 => ?_) (fun c26 => ?_)
      ·
        have r27 : R (1) (1) v22 := ⟨by omega, by omega⟩
        refine r_aload_n S dX11_restore_22 rfl (lv_at hl 0 rfl) ?_
        refine r_get (K := 0) (v := .ref (G.2.2.2.1 22)) S X20 (Nat.le_of_ble_eq_true rfl) rfl lk11_42_9 (fun _ => ⟨_, rfl, rfl⟩) dX11_restore_23 ?_
        refine r_aload_n S dX11_restore_26 rfl (lv_at hl 0 rfl) ?_
        refine r_get (K := 0) (v := .ref (G.2.2.2.1 92)) S X20 (Nat.le_of_ble_eq_true rfl) rfl lk11_64_9 (fun _ => ⟨_, rfl, rfl⟩) dX11_restore_27 ?_
        refine r_iload_n S dX11_restore_30 rfl (lv_at hl 1 rfl) ?_
        refine r_aldO S X20 (ix_of r18 rfl) dX11_restore_31 (fun n28 h29 h30 => ?_)
        rcases (show n28 = 0 ∨ n28 = 1 by omega) with rfl | rfl
        ·
          refine r_kv (q_V (As := [.ref (G.2.2.2.1 93)]) (rest := []) (K := 22) (ci := 8) S X20 (c_wcopy_22_93 l G τ hI hYW hYA) ck11_301 (Nat.le_of_ble_eq_true rfl) rfl (fun _ => ⟨_, rfl⟩) ⟨_, _, rfl⟩ ⟨Nat.le_of_ble_eq_true rfl, Nat.le_of_ble_eq_true rfl⟩ rfl hl.1 rfl (Nat.le_of_ble_eq_true rfl) dX11_restore_32 ⟨Nat.le_refl 0, Nat.le_refl 0⟩) X20 (fun t33 H lc q31 X32 => ?_)
          unfold po_wcopy_22_93 at q31
          obtain ⟨v34, z35⟩ : ∃ x, τ 94 2 = x := ⟨_, rfl⟩
          have r36 : R (0) (9) v34 := rd hI rfl z35
          obtain ⟨v37, z38⟩ : ∃ x, τ 101 8 = x := ⟨_, rfl⟩
          have r39 : R (-1) (8) v37 := rd hI rfl z38
          obtain ⟨q40, q41, q42, q43, q44⟩ := q31
          have F45 : Fr [(23, 0), (23, 1), (23, 2), (23, 3), (23, 4), (30, 4), (30, 5), (30, 6), (30, 7), (30, 8), (30, 9), (30, 10), (35, 4), (0, 9)] [24, 25, 26, 27, 31, 32, 33, 34, 36, 37, 38, 228, 229] τ t33 := Fr_call Fr_rfl q41 (by decide)
          refine r_aload_n S dX11_restore_35 rfl (lv_at hl 0 rfl) ?_
          refine r_iconst S dX11_restore_36 (by decide) (fun v46 z47 => ?_)
          have r48 := R_eq z47
          refine r_put (K := 0) (ty := .int) S X32 (Nat.le_of_ble_eq_true rfl) rfl lk11_116_9 (fun _ => ⟨_, rfl, Nat.le_of_ble_eq_true rfl, rfl⟩) (fun _ _ _ h => by cases h; exact ⟨rfl, rfl⟩) rfl rfl dX11_restore_37 (fun t49 H lc M50 X51 => ?_)
          have I52 := Inv_mu q40 M50 (show Rg (kd 0) 9 v46 from (R_of (lo := 0) (hi := 8) r48 rfl))
          have F53 : Fr [(23, 0), (23, 1), (23, 2), (23, 3), (23, 4), (30, 4), (30, 5), (30, 6), (30, 7), (30, 8), (30, 9), (30, 10), (35, 4), (0, 9)] [24, 25, 26, 27, 31, 32, 33, 34, 36, 37, 38, 228, 229] τ t49 := Fr_mu F45 M50 (by decide)
          refine r_iconst S dX11_restore_40 (by decide) (fun v54 z55 => ?_)
          have r56 := R_eq z55
          exact r_ret S hr hlk X51 ⟨I52, F53, (WI_0 hIM (((M50.2 23 2 (Or.inl (by decide))).trans (q43.trans z35)).trans (rfl.symm.trans z35).symm) (((M50.2 30 8 (Or.inl (by decide))).trans (q44.trans z38)).trans (rfl.symm.trans z38).symm)), (HI_0 M50.1 (by omega)), (YW_eq q42 (fun j => ((M50.2 36 j (Or.inl (by decide))).trans rfl)) (fun j => ((M50.2 37 j (Or.inl (by decide))).trans rfl))), (R_of r56 rfl), (by have h1_0 := congrArg Int32.toInt ((M50.2 0 11 (Or.inr (by decide))).trans ((q41 0 11 (by decide)).trans z2)); have h2_0 := congrArg Int32.toInt z2; omega), (by have h1_0 := congrArg Int32.toInt ((M50.2 0 11 (Or.inr (by decide))).trans ((q41 0 11 (by decide)).trans z2)); have h2_0 := congrArg Int32.toInt z2; omega), (by omega)⟩ (nr_bool (R_of (lo := 0) (hi := 1) r56 rfl)) dX11_restore_41
        ·
          refine r_kv (q_V (As := [.ref (G.2.2.2.1 111)]) (rest := []) (K := 22) (ci := 8) S X20 (c_wcopy_22_111 l G τ hI hYW hYB) ck11_301 (Nat.le_of_ble_eq_true rfl) rfl (fun _ => ⟨_, rfl⟩) ⟨_, _, rfl⟩ ⟨Nat.le_of_ble_eq_true rfl, Nat.le_of_ble_eq_true rfl⟩ rfl hl.1 rfl (Nat.le_of_ble_eq_true rfl) dX11_restore_32 ⟨Nat.le_refl 0, Nat.le_refl 0⟩) X20 (fun t59 H lc q57 X58 => ?_)
          unfold po_wcopy_22_111 at q57
          obtain ⟨v60, z61⟩ : ∃ x, τ 112 2 = x := ⟨_, rfl⟩
          have r62 : R (0) (9) v60 := rd hI rfl z61
          obtain ⟨v63, z64⟩ : ∃ x, τ 119 8 = x := ⟨_, rfl⟩
          have r65 : R (-1) (8) v63 := rd hI rfl z64
          obtain ⟨q66, q67, q68, q69, q70⟩ := q57
          have F71 : Fr [(23, 0), (23, 1), (23, 2), (23, 3), (23, 4), (30, 4), (30, 5), (30, 6), (30, 7), (30, 8), (30, 9), (30, 10), (35, 4), (0, 9)] [24, 25, 26, 27, 31, 32, 33, 34, 36, 37, 38, 228, 229] τ t59 := Fr_call Fr_rfl q67 (by decide)
          refine r_aload_n S dX11_restore_35 rfl (lv_at hl 0 rfl) ?_
          refine r_iconst S dX11_restore_36 (by decide) (fun v72 z73 => ?_)
          have r74 := R_eq z73
          refine r_put (K := 0) (ty := .int) S X58 (Nat.le_of_ble_eq_true rfl) rfl lk11_116_9 (fun _ => ⟨_, rfl, Nat.le_of_ble_eq_true rfl, rfl⟩) (fun _ _ _ h => by cases h; exact ⟨rfl, rfl⟩) rfl rfl dX11_restore_37 (fun t75 H lc M76 X77 => ?_)
          have I78 := Inv_mu q66 M76 (show Rg (kd 0) 9 v72 from (R_of (lo := 0) (hi := 8) r74 rfl))
          have F79 : Fr [(23, 0), (23, 1), (23, 2), (23, 3), (23, 4), (30, 4), (30, 5), (30, 6), (30, 7), (30, 8), (30, 9), (30, 10), (35, 4), (0, 9)] [24, 25, 26, 27, 31, 32, 33, 34, 36, 37, 38, 228, 229] τ t75 := Fr_mu F71 M76 (by decide)
          refine r_iconst S dX11_restore_40 (by decide) (fun v80 z81 => ?_)
          have r82 := R_eq z81
          exact r_ret S hr hlk X77 ⟨I78, F79, (WI_1 hIM (((M76.2 23 2 (Or.inl (by decide))).trans (q69.trans z61)).trans (rfl.symm.trans z61).symm) (((M76.2 30 8 (Or.inl (by decide))).trans (q70.trans z64)).trans (rfl.symm.trans z64).symm)), (HI_0 M76.1 (by omega)), (YW_eq q68 (fun j => ((M76.2 36 j (Or.inl (by decide))).trans rfl)) (fun j => ((M76.2 37 j (Or.inl (by decide))).trans rfl))), (R_of r82 rfl), (by have h1_0 := congrArg Int32.toInt ((M76.2 0 11 (Or.inr (by decide))).trans ((q67 0 11 (by decide)).trans z2)); have h2_0 := congrArg Int32.toInt z2; omega), (by have h1_0 := congrArg Int32.toInt ((M76.2 0 11 (Or.inr (by decide))).trans ((q67 0 11 (by decide)).trans z2)); have h2_0 := congrArg Int32.toInt z2; omega), (by omega)⟩ (nr_bool (R_of (lo := 0) (hi := 1) r82 rfl)) dX11_restore_41
      ·
        have r83 : R (0) (0) v22 := ⟨by omega, by omega⟩
        refine r_iconst S dX11_restore_20 (by decide) (fun v84 z85 => ?_)
        have r86 := R_eq z85
        exact r_ret S hr hlk X20 ⟨hI, Fr_rfl, hWI, hHI, hYW, (R_of r86 rfl), (by have h1_0 := congrArg Int32.toInt z2; have h2_0 := congrArg Int32.toInt z2; omega), (by have h1_0 := congrArg Int32.toInt z2; have h2_0 := congrArg Int32.toInt z2; omega), (by omega)⟩ (nr_bool (R_of (lo := 0) (hi := 1) r86 rfl)) dX11_restore_21
