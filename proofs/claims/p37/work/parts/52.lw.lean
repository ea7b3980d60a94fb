def Cl2 (l : Launch) (G : Gx) (y : MethodName) (cc : ByteArray) (n : Nat) (hh : List (Nat × Nat × Nat × Nat)) (f w : Nat) (as : List Value) (τ : Tau) : Prop :=
  Met l y (Wc y cc n hh) (Rx f w) (va_Pc as (Bt G τ)) (va_Qi (fun _ u => Inv u ∧ Fr [] [353] τ u) (Bs G) G.2.2.2.2) 1 6 G.2.2.2.2
set_option maxHeartbeats 4000000 in
theorem c_L_man (l : Launch) (hst : l.stackTraces = false) (G : Gx) (τ : Tau) (hI : Inv τ) (a0 a1 : Int32) : Cl2 l G yL_man cL_man 5 [(0, 10, 13, 13)] 7 122 [.ref (G.2.2.2.1 0), .int a0, .int a1, .ref (G.2.2.2.1 153)] τ := by
  unfold Cl2
  refine Cl_of (own := RL) (by decide) rfl (Nat.le_of_ble_eq_true rfl) ?_
  intro p e s m below meth c ls S hr hlk hZ htab X hl
  have hl : lv_has ls 5 [(0, .ref (G.2.2.2.1 0)), (1, .int a0), (2, .int a1), (3, .ref (G.2.2.2.1 153))] := hl
  refine r_aload_n S dL_man_0 rfl (lv_at hl 3 rfl) ?_
  refine r_iconst S dL_man_1 (by decide) (fun v1 z1 => ?_)
  refine r_aload_n S dL_man_2 rfl (lv_at hl 0 rfl) ?_
  refine r_iload_n S dL_man_3 rfl (lv_at hl 1 rfl) ?_
  refine r_iload_n S dL_man_4 rfl (lv_at hl 2 rfl) ?_
  refine r_kx (q_VX (As := [.int a0, .int a1]) (rest := [.int v1, .ref (G.2.2.2.1 153)]) (K := 0) (ci := 9) S hZ X (c_X11_man l hst G τ hI a0 a1 (R_any _) (R_any _)) ckL_7 (Nat.le_of_ble_eq_true rfl) rfl (fun _ => ⟨_, rfl⟩) ⟨_, _, rfl⟩ ⟨Nat.le_of_ble_eq_true rfl, Nat.le_of_ble_eq_true rfl⟩ rfl hl.1 rfl (Nat.le_of_ble_eq_true rfl) dL_man_5 ⟨Nat.le_of_ble_eq_true rfl, Nat.le_of_ble_eq_true rfl⟩) X (fun ce q9 H lc X h1 h2 h3 => ?_) (fun r u H lc hu X => ?_)
  ·
    refine xc_catch (x := ⟨0, 10, 13, 13⟩) S.1.2.2.2.1 htab rfl (by decide) (S.1.2.2.2.2 _ (tbm (List.mem_append_right _ (List.mem_of_getElem? (i := 1154) (by decide +kernel))) rfl)) (va_Nw.use (by decide) (hZ.2.2 (.castable NSE NSE) (by decide))) h1 h2 h3 ?_
    refine r_astore (lv' := [(4, .ref q9), (0, .ref (G.2.2.2.1 0)), (1, .int a0), (2, .int a1), (3, .ref (G.2.2.2.1 153))]) S dL_man_13 hl (by decide) rfl (fun ls hl => ?_)
    refine r_iconst S dL_man_15 (by decide) (fun v2 z2 => ?_)
    exact r_lret S hr hlk X ⟨hI, Fr_rfl⟩ dL_man_16
  ·
    unfold po_X11_man at hu
    rw [hu] at X
    refine lv_i2l S.1.1 S.1.2.1 dL_man_8 rfl ?_
    refine lv_topl (fun j1 _ => ?_)
    have r1 := R_eq z1
    refine r_last (n := 1) (K := 60) S X (Nat.le_of_ble_eq_true rfl) rfl (fun _ => rfl) (ix_of r1 rfl) dL_man_9 (fun u9 H lc hM9 X => ?_)
    refine r_goto (tgt := 17) S dL_man_10 (by decide) ?_
    refine r_iconst S dL_man_17 (by decide) (fun v3 z3 => ?_)
    exact r_lret S hr hlk X ⟨Inv_ml hI hM9, Fr_ml Fr_rfl hM9 (by decide)⟩ dL_man_18
set_option maxHeartbeats 4000000 in
theorem c_L_thinks (l : Launch) (hst : l.stackTraces = false) (G : Gx) (τ : Tau) (hI : Inv τ) (a0 a1 : Int32) : Cl2 l G yL_thinks cL_thinks 5 [(0, 10, 13, 13)] 7 122 [.ref (G.2.2.2.1 0), .int a0, .int a1, .ref (G.2.2.2.1 153)] τ := by
  unfold Cl2
  refine Cl_of (own := RL) (by decide) rfl (Nat.le_of_ble_eq_true rfl) ?_
  intro p e s m below meth c ls S hr hlk hZ htab X hl
  have hl : lv_has ls 5 [(0, .ref (G.2.2.2.1 0)), (1, .int a0), (2, .int a1), (3, .ref (G.2.2.2.1 153))] := hl
  refine r_aload_n S dL_thinks_0 rfl (lv_at hl 3 rfl) ?_
  refine r_iconst S dL_thinks_1 (by decide) (fun v1 z1 => ?_)
  refine r_aload_n S dL_thinks_2 rfl (lv_at hl 0 rfl) ?_
  refine r_iload_n S dL_thinks_3 rfl (lv_at hl 1 rfl) ?_
  refine r_iload_n S dL_thinks_4 rfl (lv_at hl 2 rfl) ?_
  refine r_kx (q_VX (As := [.int a0, .int a1]) (rest := [.int v1, .ref (G.2.2.2.1 153)]) (K := 0) (ci := 9) S hZ X (c_X11_thinks l hst G τ hI a0 a1 (R_any _) (R_any _)) ckL_15 (Nat.le_of_ble_eq_true rfl) rfl (fun _ => ⟨_, rfl⟩) ⟨_, _, rfl⟩ ⟨Nat.le_of_ble_eq_true rfl, Nat.le_of_ble_eq_true rfl⟩ rfl hl.1 rfl (Nat.le_of_ble_eq_true rfl) dL_thinks_5 ⟨Nat.le_of_ble_eq_true rfl, Nat.le_of_ble_eq_true rfl⟩) X (fun ce q9 H lc X h1 h2 h3 => ?_) (fun r u H lc hu X => ?_)
  ·
    refine xc_catch (x := ⟨0, 10, 13, 13⟩) S.1.2.2.2.1 htab rfl (by decide) (S.1.2.2.2.2 _ (tbm (List.mem_append_right _ (List.mem_of_getElem? (i := 1154) (by decide +kernel))) rfl)) (va_Nw.use (by decide) (hZ.2.2 (.castable NSE NSE) (by decide))) h1 h2 h3 ?_
    refine r_astore (lv' := [(4, .ref q9), (0, .ref (G.2.2.2.1 0)), (1, .int a0), (2, .int a1), (3, .ref (G.2.2.2.1 153))]) S dL_thinks_13 hl (by decide) rfl (fun ls hl => ?_)
    refine r_iconst S dL_thinks_15 (by decide) (fun v2 z2 => ?_)
    exact r_lret S hr hlk X ⟨hI, Fr_rfl⟩ dL_thinks_16
  ·
    unfold po_X11_thinks at hu
    rw [hu] at X
    refine lv_i2l S.1.1 S.1.2.1 dL_thinks_8 rfl ?_
    refine lv_topl (fun j1 _ => ?_)
    have r1 := R_eq z1
    refine r_last (n := 1) (K := 60) S X (Nat.le_of_ble_eq_true rfl) rfl (fun _ => rfl) (ix_of r1 rfl) dL_thinks_9 (fun u9 H lc hM9 X => ?_)
    refine r_goto (tgt := 17) S dL_thinks_10 (by decide) ?_
    refine r_iconst S dL_thinks_17 (by decide) (fun v3 z3 => ?_)
    exact r_lret S hr hlk X ⟨Inv_ml hI hM9, Fr_ml Fr_rfl hM9 (by decide)⟩ dL_thinks_18
set_option maxHeartbeats 4000000 in
theorem c_L_says (l : Launch) (hst : l.stackTraces = false) (G : Gx) (τ : Tau) (hI : Inv τ) (a0 a1 : Int32) : Cl2 l G yL_says cL_says 5 [(0, 10, 13, 13)] 7 122 [.ref (G.2.2.2.1 0), .int a0, .int a1, .ref (G.2.2.2.1 153)] τ := by
  unfold Cl2
  refine Cl_of (own := RL) (by decide) rfl (Nat.le_of_ble_eq_true rfl) ?_
  intro p e s m below meth c ls S hr hlk hZ htab X hl
  have hl : lv_has ls 5 [(0, .ref (G.2.2.2.1 0)), (1, .int a0), (2, .int a1), (3, .ref (G.2.2.2.1 153))] := hl
  refine r_aload_n S dL_says_0 rfl (lv_at hl 3 rfl) ?_
  refine r_iconst S dL_says_1 (by decide) (fun v1 z1 => ?_)
  refine r_aload_n S dL_says_2 rfl (lv_at hl 0 rfl) ?_
  refine r_iload_n S dL_says_3 rfl (lv_at hl 1 rfl) ?_
  refine r_iload_n S dL_says_4 rfl (lv_at hl 2 rfl) ?_
  refine r_kx (q_VX (As := [.int a0, .int a1]) (rest := [.int v1, .ref (G.2.2.2.1 153)]) (K := 0) (ci := 9) S hZ X (c_X11_says l hst G τ hI a0 a1 (R_any _) (R_any _)) ckL_18 (Nat.le_of_ble_eq_true rfl) rfl (fun _ => ⟨_, rfl⟩) ⟨_, _, rfl⟩ ⟨Nat.le_of_ble_eq_true rfl, Nat.le_of_ble_eq_true rfl⟩ rfl hl.1 rfl (Nat.le_of_ble_eq_true rfl) dL_says_5 ⟨Nat.le_of_ble_eq_true rfl, Nat.le_of_ble_eq_true rfl⟩) X (fun ce q9 H lc X h1 h2 h3 => ?_) (fun r u H lc hu X => ?_)
  ·
    refine xc_catch (x := ⟨0, 10, 13, 13⟩) S.1.2.2.2.1 htab rfl (by decide) (S.1.2.2.2.2 _ (tbm (List.mem_append_right _ (List.mem_of_getElem? (i := 1154) (by decide +kernel))) rfl)) (va_Nw.use (by decide) (hZ.2.2 (.castable NSE NSE) (by decide))) h1 h2 h3 ?_
    refine r_astore (lv' := [(4, .ref q9), (0, .ref (G.2.2.2.1 0)), (1, .int a0), (2, .int a1), (3, .ref (G.2.2.2.1 153))]) S dL_says_13 hl (by decide) rfl (fun ls hl => ?_)
    refine r_iconst S dL_says_15 (by decide) (fun v2 z2 => ?_)
    exact r_lret S hr hlk X ⟨hI, Fr_rfl⟩ dL_says_16
  ·
    unfold po_X11_says at hu
    rw [hu] at X
    refine lv_i2l S.1.1 S.1.2.1 dL_says_8 rfl ?_
    refine lv_topl (fun j1 _ => ?_)
    have r1 := R_eq z1
    refine r_last (n := 1) (K := 60) S X (Nat.le_of_ble_eq_true rfl) rfl (fun _ => rfl) (ix_of r1 rfl) dL_says_9 (fun u9 H lc hM9 X => ?_)
    refine r_goto (tgt := 17) S dL_says_10 (by decide) ?_
    refine r_iconst S dL_says_17 (by decide) (fun v3 z3 => ?_)
    exact r_lret S hr hlk X ⟨Inv_ml hI hM9, Fr_ml Fr_rfl hM9 (by decide)⟩ dL_says_18
set_option maxHeartbeats 4000000 in
theorem c_L_sum (l : Launch) (hst : l.stackTraces = false) (G : Gx) (τ : Tau) (hI : Inv τ) (a0 : Int32) (hWI : WI τ) : Cl2 l G yL_sum cL_sum 4 [(0, 9, 12, 13)] 7 121 [.ref (G.2.2.2.1 0), .int a0, .ref (G.2.2.2.1 153)] τ := by
  unfold Cl2
  refine Cl_of (own := RL) (by decide) rfl (Nat.le_of_ble_eq_true rfl) ?_
  intro p e s m below meth c ls S hr hlk hZ htab X hl
  have hl : lv_has ls 4 [(0, .ref (G.2.2.2.1 0)), (1, .int a0), (2, .ref (G.2.2.2.1 153))] := hl
  refine r_aload_n S dL_sum_0 rfl (lv_at hl 2 rfl) ?_
  refine r_iconst S dL_sum_1 (by decide) (fun v1 z1 => ?_)
  refine r_aload_n S dL_sum_2 rfl (lv_at hl 0 rfl) ?_
  refine r_iload_n S dL_sum_3 rfl (lv_at hl 1 rfl) ?_
  refine r_kx (q_VX (As := [.int a0]) (rest := [.int v1, .ref (G.2.2.2.1 153)]) (K := 0) (ci := 9) S hZ X (c_X11_sum l hst G τ hI a0 (R_any _) hWI) ckL_21 (Nat.le_of_ble_eq_true rfl) rfl (fun _ => ⟨_, rfl⟩) ⟨_, _, rfl⟩ ⟨Nat.le_of_ble_eq_true rfl, Nat.le_of_ble_eq_true rfl⟩ rfl hl.1 rfl (Nat.le_of_ble_eq_true rfl) dL_sum_4 ⟨Nat.le_of_ble_eq_true rfl, Nat.le_of_ble_eq_true rfl⟩) X (fun ce q9 H lc X h1 h2 h3 => ?_) (fun r u H lc hu X => ?_)
  ·
    refine xc_catch (x := ⟨0, 9, 12, 13⟩) S.1.2.2.2.1 htab rfl (by decide) (S.1.2.2.2.2 _ (tbm (List.mem_append_right _ (List.mem_of_getElem? (i := 1154) (by decide +kernel))) rfl)) (va_Nw.use (by decide) (hZ.2.2 (.castable NSE NSE) (by decide))) h1 h2 h3 ?_
    refine r_astore_n (lv' := [(3, .ref q9), (0, .ref (G.2.2.2.1 0)), (1, .int a0), (2, .ref (G.2.2.2.1 153))]) S dL_sum_12 rfl hl (by decide) rfl (fun ls hl => ?_)
    refine r_iconst S dL_sum_13 (by decide) (fun v2 z2 => ?_)
    exact r_lret S hr hlk X ⟨hI, Fr_rfl⟩ dL_sum_14
  ·
    unfold po_X11_sum at hu
    rw [hu] at X
    refine lv_i2l S.1.1 S.1.2.1 dL_sum_7 rfl ?_
    refine lv_topl (fun j1 _ => ?_)
    have r1 := R_eq z1
    refine r_last (n := 1) (K := 60) S X (Nat.le_of_ble_eq_true rfl) rfl (fun _ => rfl) (ix_of r1 rfl) dL_sum_8 (fun u9 H lc hM9 X => ?_)
    refine r_goto (tgt := 15) S dL_sum_9 (by decide) ?_
    refine r_iconst S dL_sum_15 (by decide) (fun v3 z3 => ?_)
    exact r_lret S hr hlk X ⟨Inv_ml hI hM9, Fr_ml Fr_rfl hM9 (by decide)⟩ dL_sum_16
set_option maxHeartbeats 4000000 in
theorem c_L_jokes (l : Launch) (hst : l.stackTraces = false) (G : Gx) (τ : Tau) (hI : Inv τ) (a0 a1 : Int32) (hWI : WI τ) : Cl2 l G yL_jokes cL_jokes 5 [(0, 10, 13, 13)] 7 126 [.ref (G.2.2.2.1 0), .int a0, .int a1, .ref (G.2.2.2.1 153)] τ := by
  unfold Cl2
  refine Cl_of (own := RL) (by decide) rfl (Nat.le_of_ble_eq_true rfl) ?_
  intro p e s m below meth c ls S hr hlk hZ htab X hl
  have hl : lv_has ls 5 [(0, .ref (G.2.2.2.1 0)), (1, .int a0), (2, .int a1), (3, .ref (G.2.2.2.1 153))] := hl
  refine r_aload_n S dL_jokes_0 rfl (lv_at hl 3 rfl) ?_
  refine r_iconst S dL_jokes_1 (by decide) (fun v1 z1 => ?_)
  refine r_aload_n S dL_jokes_2 rfl (lv_at hl 0 rfl) ?_
  refine r_iload_n S dL_jokes_3 rfl (lv_at hl 1 rfl) ?_
  refine r_iload_n S dL_jokes_4 rfl (lv_at hl 2 rfl) ?_
  refine r_kx (q_VX (As := [.int a0, .int a1]) (rest := [.int v1, .ref (G.2.2.2.1 153)]) (K := 0) (ci := 9) S hZ X (c_X11_jokes l hst G τ hI a0 a1 (R_any _) (R_any _) hWI) ckL_25 (Nat.le_of_ble_eq_true rfl) rfl (fun _ => ⟨_, rfl⟩) ⟨_, _, rfl⟩ ⟨Nat.le_of_ble_eq_true rfl, Nat.le_of_ble_eq_true rfl⟩ rfl hl.1 rfl (Nat.le_of_ble_eq_true rfl) dL_jokes_5 ⟨Nat.le_of_ble_eq_true rfl, Nat.le_of_ble_eq_true rfl⟩) X (fun ce q9 H lc X h1 h2 h3 => ?_) (fun r u H lc hu X => ?_)
  ·
    refine xc_catch (x := ⟨0, 10, 13, 13⟩) S.1.2.2.2.1 htab rfl (by decide) (S.1.2.2.2.2 _ (tbm (List.mem_append_right _ (List.mem_of_getElem? (i := 1154) (by decide +kernel))) rfl)) (va_Nw.use (by decide) (hZ.2.2 (.castable NSE NSE) (by decide))) h1 h2 h3 ?_
    refine r_astore (lv' := [(4, .ref q9), (0, .ref (G.2.2.2.1 0)), (1, .int a0), (2, .int a1), (3, .ref (G.2.2.2.1 153))]) S dL_jokes_13 hl (by decide) rfl (fun ls hl => ?_)
    refine r_iconst S dL_jokes_15 (by decide) (fun v2 z2 => ?_)
    exact r_lret S hr hlk X ⟨hI, Fr_rfl⟩ dL_jokes_16
  ·
    unfold po_X11_jokes at hu
    rw [hu] at X
    refine lv_i2l S.1.1 S.1.2.1 dL_jokes_8 rfl ?_
    refine lv_topl (fun j1 _ => ?_)
    have r1 := R_eq z1
    refine r_last (n := 1) (K := 60) S X (Nat.le_of_ble_eq_true rfl) rfl (fun _ => rfl) (ix_of r1 rfl) dL_jokes_9 (fun u9 H lc hM9 X => ?_)
    refine r_goto (tgt := 17) S dL_jokes_10 (by decide) ?_
    refine r_iconst S dL_jokes_17 (by decide) (fun v3 z3 => ?_)
    exact r_lret S hr hlk X ⟨Inv_ml hI hM9, Fr_ml Fr_rfl hM9 (by decide)⟩ dL_jokes_18
