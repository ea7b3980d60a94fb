def po_X6_read_q (τ : Tau)    (bb : Nat → Int) (nb : Nat) (an mn : List (List Int)) (r : Int32) (u : Tau) : Prop := Inv u ∧ Fr [(16, 1), (16, 2), (17, 4), (1, 3), (1, 4), (1, 5), (1, 7), (1, 8), (16, 4), (16, 5), (1, 2)] [18, 19, 20, 201] τ u ∧ YT u ∧ R (0) (1) r ∧ (r.toInt = 1 → R (0) (0) (u 16 1)) ∧ QR bb nb an mn r u
set_option maxHeartbeats 4000000 in
set_option maxRecDepth 100000 in
theorem c_X6_read_q (l : Launch) (G : Gx) (τ : Tau) (hI : Inv τ) (hYT : YT τ) (bb : Nat → Int) (nb : Nat) (an mn : List (List Int)) (hB0 : RB0 bb nb τ) (hN : NM τ 23 2 28 an ∧ NM τ 23 3 29 mn) : Ci l G yX6_read cX6_read 2 (some .boolean) 30 655 [.ref (G.2.2.2.1 16), .ref (G.2.2.2.1 23)] τ (po_X6_read_q τ    bb nb an mn) := by
  unfold Ci
  refine C_of (own := RX6) (by decide) rfl (Nat.le_of_ble_eq_true rfl) ?_
  intro p e s m below meth c ls S hr hlk X hl
  have hl : lv_has ls 2 [(0, .ref (G.2.2.2.1 16)), (1, .ref (G.2.2.2.1 23))] := hl
  refine r_aload_n S dX6_read_0 rfl (lv_at hl 0 rfl) ?_
  refine r_aload_n S dX6_read_1 rfl (lv_at hl 1 rfl) ?_
  refine r_putP S X lk6_20_6 dX6_read_2 (fun t1 H lc v5 h6 M2 X3 => ?_)
  have r7 : R 1 1 v5 := ⟨by omega, by omega⟩
  have I4 := Inv_mu hI M2 (show Rg (kd 16) 5 v5 from (show R 0 1 v5 from ⟨by omega, by omega⟩))
  have F8 : Fr [(16, 1), (16, 2), (17, 4), (1, 3), (1, 4), (1, 5), (1, 7), (1, 8), (16, 4), (16, 5), (1, 2)] [18, 19, 20, 201] τ t1 := Fr_mu Fr_rfl M2 (by decide)
  refine r_aload_n S dX6_read_5 rfl (lv_at hl 0 rfl) ?_
  refine r_get (K := 16) (v := .ref (G.2.2.2.1 17)) S X3 (Nat.le_of_ble_eq_true rfl) rfl lk6_14_6 (fun _ => ⟨_, rfl, rfl⟩) dX6_read_6 ?_
  refine r_iconst S dX6_read_9 (by decide) (fun v9 z10 => ?_)
  have r11 := R_eq z10
  refine r_put (K := 17) (ty := .int) S X3 (Nat.le_of_ble_eq_true rfl) rfl lk6_24_5 (fun _ => ⟨_, rfl, Nat.le_of_ble_eq_true rfl, rfl⟩) (fun _ _ _ h => by cases h; exact ⟨rfl, rfl⟩) rfl rfl dX6_read_10 (fun t12 H lc M13 X14 => ?_)
  have I15 := Inv_mu I4 M13 (show Rg (kd 17) 4 v9 from (R_of (lo := 0) (hi := 40) r11 rfl))
  have F16 : Fr [(16, 1), (16, 2), (17, 4), (1, 3), (1, 4), (1, 5), (1, 7), (1, 8), (16, 4), (16, 5), (1, 2)] [18, 19, 20, 201] τ t12 := Fr_mu F8 M13 (by decide)
  refine r_aload_n S dX6_read_13 rfl (lv_at hl 0 rfl) ?_
  refine r_iconst S dX6_read_14 (by decide) (fun v17 z18 => ?_)
  have r19 := R_eq z18
  refine r_put (K := 16) (ty := .int) S X14 (Nat.le_of_ble_eq_true rfl) rfl lk6_28_6 (fun _ => ⟨_, rfl, Nat.le_of_ble_eq_true rfl, rfl⟩) (fun _ _ _ h => by cases h; exact ⟨rfl, rfl⟩) rfl rfl dX6_read_15 (fun t20 H lc M21 X22 => ?_)
  have I23 := Inv_mu I15 M21 (show Rg (kd 16) 4 v17 from (R_of (lo := 0) (hi := 20) r19 rfl))
  have F24 : Fr [(16, 1), (16, 2), (17, 4), (1, 3), (1, 4), (1, 5), (1, 7), (1, 8), (16, 4), (16, 5), (1, 2)] [18, 19, 20, 201] τ t20 := Fr_mu F16 M21 (by decide)
  refine r_aload_n S dX6_read_18 rfl (lv_at hl 0 rfl) ?_
  refine r_sipush S dX6_read_19 (by decide) (fun v25 z26 => ?_)
  have r27 := R_eq z26
  refine r_kv (q_U (As := [.int v25]) (rest := []) (K := 16) (ci := 6) S X22 (c_X8_open_t16 l G t20 I23 v25 r27 bb nb (RB0_eq hB0 (F24 1 1 (by simp [fz])) (fun j => F24 2 j (by simp [fz])))) ck6_31_6 (Nat.le_of_ble_eq_true rfl) rfl (fun _ => ⟨_, rfl⟩) ⟨_, _, rfl⟩ ⟨Nat.le_of_ble_eq_true rfl, Nat.le_of_ble_eq_true rfl⟩ rfl hl.1 rfl (Nat.le_of_ble_eq_true rfl) dX6_read_22 ⟨Nat.le_refl 0, Nat.le_refl 0⟩) X22 (fun t30 H lc q28 X29 => ?_)
  unfold po_X8_open_t16 at q28
  obtain ⟨q31, q32, q33, q34⟩ := q28
  have F35 : Fr [(16, 1), (16, 2), (17, 4), (1, 3), (1, 4), (1, 5), (1, 7), (1, 8), (16, 4), (16, 5), (1, 2)] [18, 19, 20, 201] τ t30 := Fr_call F24 q32 (by decide)
  obtain ⟨v36, z37⟩ : ∃ x, t30 16 1 = x := ⟨_, rfl⟩
  rw [z37] at q33
  refine r_aload_n S dX6_read_25 rfl (lv_at hl 0 rfl) ?_
  refine r_iconst S dX6_read_26 (by decide) (fun v38 z39 => ?_)
  have r40 := R_eq z39
  refine r_ki (q_V (As := [.int v38]) (rest := []) (K := 16) (ci := 6) S X29 (c_X6_readCond_q1 l G t30 q31 v38 r40 (by rw [((q32 16 5 (by decide)).trans ((M21.2 16 5 (Or.inr (by decide))).trans ((M13.2 16 5 (Or.inl (by decide))).trans M2.1)))]; exact R_of r7 rfl) (by rw [z37]; exact R_of q33 rfl) (YT_eq hYT (fun j => ((q32 18 j (by simp [fz])).trans ((M21.2 18 j (Or.inl (by decide))).trans ((M13.2 18 j (Or.inl (by decide))).trans ((M2.2 18 j (Or.inl (by decide))).trans rfl))))) (fun j => ((q32 19 j (by simp [fz])).trans ((M21.2 19 j (Or.inl (by decide))).trans ((M13.2 19 j (Or.inl (by decide))).trans ((M2.2 19 j (Or.inl (by decide))).trans rfl)))))) bb nb an mn (lex bb nb 200 0) 0 [] ⟨q34, NM2_fr hN ((q32 23 2 (by decide)).trans ((M21.2 23 2 (Or.inl (by decide))).trans ((M13.2 23 2 (Or.inl (by decide))).trans ((M2.2 23 2 (Or.inl (by decide))).trans rfl)))) ((q32 23 3 (by decide)).trans ((M21.2 23 3 (Or.inl (by decide))).trans ((M13.2 23 3 (Or.inl (by decide))).trans ((M2.2 23 3 (Or.inl (by decide))).trans rfl)))) (fun j => ((q32 228 j (by simp [fz])).trans ((M21.2 228 j (Or.inl (by decide))).trans ((M13.2 228 j (Or.inl (by decide))).trans ((M2.2 228 j (Or.inl (by decide))).trans rfl))))) (fun j => ((q32 229 j (by simp [fz])).trans ((M21.2 229 j (Or.inl (by decide))).trans ((M13.2 229 j (Or.inl (by decide))).trans ((M2.2 229 j (Or.inl (by decide))).trans rfl)))))⟩ (by rw [((q32 16 4 (by decide)).trans M21.1)]; omega) rfl rfl) ck6_35 (Nat.le_of_ble_eq_true rfl) rfl (fun _ => ⟨_, rfl⟩) ⟨_, _, rfl⟩ ⟨Nat.le_of_ble_eq_true rfl, Nat.le_of_ble_eq_true rfl⟩ rfl hl.1 rfl (Nat.le_of_ble_eq_true rfl) dX6_read_27 ⟨Nat.le_refl 0, Nat.le_refl 0⟩) X29 (fun v45 t44 H lc q42 X43 => ?_)
  unfold po_X6_readCond_q1 at q42
  obtain ⟨q46, q47, q48, q49, q50, q51⟩ := q42
  have F52 : Fr [(16, 1), (16, 2), (17, 4), (1, 3), (1, 4), (1, 5), (1, 7), (1, 8), (16, 4), (16, 5), (1, 2)] [18, 19, 20, 201] τ t44 := Fr_call F35 q47 (by decide)
  refine r_if_ne (tgt := 35) S dX6_read_30 (by decide) (fun c53 => ?_) (fun c53 => ?_)
  ·
    have r54 : R (1) (1) v45 := ⟨by omega, by omega⟩
    have p55 := q50 (by omega)
    obtain ⟨v56, z57⟩ : ∃ x, t44 16 1 = x := ⟨_, rfl⟩
    rw [z57] at p55
    have p58 := q51.2 (by omega)
    obtain ⟨t59, k60, hR61, h462, hk63, hP64, hr65⟩ := p58
    refine r_aload_n S dX6_read_35 rfl (lv_at hl 0 rfl) ?_
    refine r_get (K := 16) (v := .ref (G.2.2.2.1 1)) S X43 (Nat.le_of_ble_eq_true rfl) rfl lk6_39_6 (fun _ => ⟨_, rfl, rfl⟩) dX6_read_36 ?_
    refine r_getn (K := 1) S X43 (Nat.le_of_ble_eq_true rfl) rfl lk6_43_7 (fun _ => ⟨_, rfl, rfl⟩) dX6_read_39 (fun v66 z67 => ?_)
    have r68 : R (0) (4) v66 := rd q46 rfl z67
    refine r_if_eq (tgt := 53) S dX6_read_42 (by decide) (fun c69 => ?_) (fun c69 => ?_)
    ·
      have r70 : R (0) (0) v66 := ⟨by omega, by omega⟩
      refine r_iconst S dX6_read_53 (by decide) (fun v71 z72 => ?_)
      have r73 := R_eq z72
      refine r_goto (tgt := 58) S dX6_read_54 (by decide) ?_
      exact r_ret S hr hlk X43 ⟨q46, F52, q48, (R_of r73 rfl), (fun h => (by rw [z57]; exact R_of p55 rfl)), ⟨fun h => by exfalso; omega, fun _ => ⟨k60, Hlt_1 hr65 (stS_W (stW_e ((RT_k hR61.1).1.mp (by rw [z67]; omega)))), (by rw [show t44 16 4 = t44 16 4 from rfl]; exact h462)⟩⟩⟩ (nr_bool (R_of (lo := 0) (hi := 1) r73 rfl)) dX6_read_58
    ·
      have r74 : R (1) (4) v66 := ⟨by omega, by omega⟩
      refine r_aload_n S dX6_read_45 rfl (lv_at hl 0 rfl) ?_
      refine r_iconst S dX6_read_46 (by decide) (fun v75 z76 => ?_)
      have r77 := R_eq z76
      refine r_ki (q_U (As := [.int v75]) (rest := []) (K := 16) (ci := 6) S X43 (c_X8_fail_t16 l G t44 q46 v75 (R_of (lo := -2147483648) (hi := 2147483647) r77 rfl)) ck6_48_6 (Nat.le_of_ble_eq_true rfl) rfl (fun _ => ⟨_, rfl⟩) ⟨_, _, rfl⟩ ⟨Nat.le_of_ble_eq_true rfl, Nat.le_of_ble_eq_true rfl⟩ rfl hl.1 rfl (Nat.le_of_ble_eq_true rfl) dX6_read_47 ⟨Nat.le_refl 0, Nat.le_refl 0⟩) X43 (fun v81 t80 H lc q78 X79 => ?_)
      unfold po_X8_fail_t16 at q78
      obtain ⟨q82, q83, q84, q85⟩ := q78
      have F86 : Fr [(16, 1), (16, 2), (17, 4), (1, 3), (1, 4), (1, 5), (1, 7), (1, 8), (16, 4), (16, 5), (1, 2)] [18, 19, 20, 201] τ t80 := Fr_call F52 q83 (by decide)
      refine r_if_eq (tgt := 57) S dX6_read_50 (by decide) (fun c87 => ?_) (fun c87 => ?_)
      ·
        refine r_iconst S dX6_read_57 (by decide) (fun v88 z89 => ?_)
        have r90 := R_eq z89
        exact r_ret S hr hlk X79 ⟨q82, F86, (YT_eq q48 (fun j => ((q83 18 j (by simp [fz])).trans rfl)) (fun j => ((q83 19 j (by simp [fz])).trans rfl))), (R_of r90 rfl), (fun h => by exfalso; omega), ⟨fun _ => ⟨(1, t59.2.1), Hlt_1 hr65 (stS_W (stW_z hP64.1 hP64.2 (fun h => absurd ((RT_k hR61.1).1.mpr h) (by rw [z67]; omega)))), (by rw [q85]; show _ = ((1 : Nat) : Int); omega), RG_at (RG_fr hR61 (fun j => ((q83 1 j (by simp [fz])).trans rfl)) (fun j => ((q83 2 j (by simp [fz])).trans rfl)) (fun j => ((q83 201 j (by simp [fz])).trans rfl)) ((q83 23 2 (by decide)).trans rfl) ((q83 23 3 (by decide)).trans rfl) (fun j => ((q83 228 j (by simp [fz])).trans rfl)) (fun j => ((q83 229 j (by simp [fz])).trans rfl)))⟩, fun h => by exfalso; omega⟩⟩ (nr_bool (R_of (lo := 0) (hi := 1) r90 rfl)) dX6_read_58
      ·
        exfalso; omega
  ·
    have r91 : R (0) (0) v45 := ⟨by omega, by omega⟩
    have p92 := q51.1 (by omega)
    obtain ⟨q93, e94, h95, h96⟩ := p92
    refine r_iconst S dX6_read_33 (by decide) (fun v97 z98 => ?_)
    have r99 := R_eq z98
    exact r_ret S hr hlk X43 ⟨q46, F52, q48, (R_of r99 rfl), (fun h => by exfalso; omega), ⟨fun _ => ⟨q93, e94, h95, h96⟩, fun h => by exfalso; omega⟩⟩ (nr_bool (R_of (lo := 0) (hi := 1) r99 rfl)) dX6_read_34
def po_X11_sentence_q (τ : Tau)    (bb : Nat → Int) (nb : Nat) (an mn : List (List Int)) (r : Int32) (u : Tau) : Prop := Inv u ∧ Fr [(16, 1), (16, 2), (17, 4), (1, 3), (1, 4), (1, 5), (1, 7), (1, 8), (16, 4), (16, 5), (1, 2), (1, 1), (0, 12), (35, 4)] [18, 19, 20, 36, 37, 38, 201] τ u ∧ YT u ∧ YW u ∧ (u 1 1).toInt = 0 ∧ QT bb nb an mn r (u 0 12).toInt
set_option maxHeartbeats 4000000 in
set_option maxRecDepth 100000 in
theorem c_X11_sentence_q (l : Launch) (G : Gx) (τ : Tau) (hI : Inv τ) (hYT : YT τ) (hYW : YW τ) (bb : Nat → Int) (nb : Nat) (an mn : List (List Int)) (hB0 : RB0 bb nb τ) (hN : NM τ 23 2 28 an ∧ NM τ 23 3 29 mn) : Ci l G yX11_sentence cX11_sentence 2 (some .int) 31 676 [.ref (G.2.2.2.1 0)] τ (po_X11_sentence_q τ    bb nb an mn) := by
  unfold Ci
  refine C_of (own := RX11) (by decide) rfl (Nat.le_of_ble_eq_true rfl) ?_
  intro p e s m below meth c ls S hr hlk X hl
  have hl : lv_has ls 2 [(0, .ref (G.2.2.2.1 0))] := hl
  refine r_aload_n S dX11_sentence_0 rfl (lv_at hl 0 rfl) ?_
  refine r_get (K := 0) (v := .ref (G.2.2.2.1 16)) S X (Nat.le_of_ble_eq_true rfl) rfl lk11_35_9 (fun _ => ⟨_, rfl, rfl⟩) dX11_sentence_1 ?_
  refine r_aload_n S dX11_sentence_4 rfl (lv_at hl 0 rfl) ?_
  refine r_get (K := 0) (v := .ref (G.2.2.2.1 22)) S X (Nat.le_of_ble_eq_true rfl) rfl lk11_42_9 (fun _ => ⟨_, rfl, rfl⟩) dX11_sentence_5 ?_
  refine r_get (K := 22) (v := .ref (G.2.2.2.1 23)) S X (Nat.le_of_ble_eq_true rfl) rfl lk11_139_8 (fun _ => ⟨_, rfl, rfl⟩) dX11_sentence_8 ?_
  refine r_ki (q_V (As := [.ref (G.2.2.2.1 23)]) (rest := []) (K := 16) (ci := 6) S X (c_X6_read_q l G τ hI hYT bb nb an mn hB0 hN) ck11_279 (Nat.le_of_ble_eq_true rfl) rfl (fun _ => ⟨_, rfl⟩) ⟨_, _, rfl⟩ ⟨Nat.le_of_ble_eq_true rfl, Nat.le_of_ble_eq_true rfl⟩ rfl hl.1 rfl (Nat.le_of_ble_eq_true rfl) dX11_sentence_11 ⟨Nat.le_refl 0, Nat.le_refl 0⟩) X (fun v4 t3 H lc q1 X2 => ?_)
  unfold po_X6_read_q at q1
  obtain ⟨q5, q6, q7, q8, q9, q10⟩ := q1
  have F11 : Fr [(16, 1), (16, 2), (17, 4), (1, 3), (1, 4), (1, 5), (1, 7), (1, 8), (16, 4), (16, 5), (1, 2), (1, 1), (0, 12), (35, 4)] [18, 19, 20, 36, 37, 38, 201] τ t3 := Fr_call Fr_rfl q6 (by decide)
  refine r_istore_n (lv' := [(1, .int v4), (0, .ref (G.2.2.2.1 0))]) S dX11_sentence_14 rfl hl (by decide) rfl (fun ls hl => ?_)
  refine r_aload_n S dX11_sentence_15 rfl (lv_at hl 1 rfl) ?_
  refine r_aload_n S dX11_sentence_16 rfl (lv_at hl 1 rfl) ?_
  refine r_get (K := 0) (v := .ref (G.2.2.2.1 16)) S X2 (Nat.le_of_ble_eq_true rfl) rfl lk11_35_9 (fun _ => ⟨_, rfl, rfl⟩) dX11_sentence_17 ?_
  refine r_getn (K := 16) S X2 (Nat.le_of_ble_eq_true rfl) rfl lk11_280_6 (fun _ => ⟨_, rfl, rfl⟩) dX11_sentence_20 (fun v12 z13 => ?_)
  have r15 := R_any v12
  refine r_put (K := 0) (ty := .int) S X2 (Nat.le_of_ble_eq_true rfl) rfl lk11_102_9 (fun _ => ⟨_, rfl, Nat.le_of_ble_eq_true rfl, rfl⟩) (fun _ _ _ h => by cases h; exact ⟨rfl, rfl⟩) rfl rfl dX11_sentence_23 (fun t16 H lc M17 X18 => ?_)
  have I19 := Inv_mu q5 M17 (R_any v12)
  have F20 : Fr [(16, 1), (16, 2), (17, 4), (1, 3), (1, 4), (1, 5), (1, 7), (1, 8), (16, 4), (16, 5), (1, 2), (1, 1), (0, 12), (35, 4)] [18, 19, 20, 36, 37, 38, 201] τ t16 := Fr_mu F11 M17 (by decide)
  refine r_aload_n S dX11_sentence_26 rfl (lv_at hl 1 rfl) ?_
  refine r_get (K := 0) (v := .ref (G.2.2.2.1 1)) S X18 (Nat.le_of_ble_eq_true rfl) rfl lk11_12_9 (fun _ => ⟨_, rfl, rfl⟩) dX11_sentence_27 ?_
  refine r_iconst S dX11_sentence_30 (by decide) (fun v21 z22 => ?_)
  have r23 := R_eq z22
  refine r_put (K := 1) (ty := .int) S X18 (Nat.le_of_ble_eq_true rfl) rfl lk11_88_7 (fun _ => ⟨_, rfl, Nat.le_of_ble_eq_true rfl, rfl⟩) (fun _ _ _ h => by cases h; exact ⟨rfl, rfl⟩) rfl rfl dX11_sentence_31 (fun t24 H lc M25 X26 => ?_)
  have I27 := Inv_mu I19 M25 (show Rg (kd 1) 1 v21 from (R_of (lo := 0) (hi := 940) r23 rfl))
  have F28 : Fr [(16, 1), (16, 2), (17, 4), (1, 3), (1, 4), (1, 5), (1, 7), (1, 8), (16, 4), (16, 5), (1, 2), (1, 1), (0, 12), (35, 4)] [18, 19, 20, 36, 37, 38, 201] τ t24 := Fr_mu F20 M25 (by decide)
  refine r_iload_n S dX11_sentence_34 rfl (lv_at hl 0 rfl) ?_
  refine r_if_ne (tgt := 48) S dX11_sentence_35 (by decide) (fun c29 => ?_) (fun c29 => ?_)
  ·
    have r30 : R (1) (1) v4 := ⟨by omega, by omega⟩
    have p31 := q9 (by omega)
    have r32 : R (0) (0) v12 := z13 ▸ p31
    have r33 : R (0) (0) v12 := ⟨by omega, by omega⟩
    have p34 := q10.2 (by omega)
    obtain ⟨k35, e36, h37⟩ := p34
    refine r_aload_n S dX11_sentence_48 rfl (lv_at hl 1 rfl) ?_
    refine r_get (K := 0) (v := .ref (G.2.2.2.1 22)) S X26 (Nat.le_of_ble_eq_true rfl) rfl lk11_42_9 (fun _ => ⟨_, rfl, rfl⟩) dX11_sentence_49 ?_
    refine r_get (K := 22) (v := .ref (G.2.2.2.1 35)) S X26 (Nat.le_of_ble_eq_true rfl) rfl lk11_281_8 (fun _ => ⟨_, rfl, rfl⟩) dX11_sentence_52 ?_
    refine r_aload_n S dX11_sentence_55 rfl (lv_at hl 1 rfl) ?_
    refine r_get (K := 0) (v := .ref (G.2.2.2.1 16)) S X26 (Nat.le_of_ble_eq_true rfl) rfl lk11_35_9 (fun _ => ⟨_, rfl, rfl⟩) dX11_sentence_56 ?_
    refine r_get (K := 16) (v := .ref (G.2.2.2.1 17)) S X26 (Nat.le_of_ble_eq_true rfl) rfl lk11_285_6 (fun _ => ⟨_, rfl, rfl⟩) dX11_sentence_59 ?_
    refine r_kv (q_V (As := [.ref (G.2.2.2.1 17)]) (rest := []) (K := 17) (ci := 5) S X26 (c_sncopy_35_17 l G t24 I27 (YW_eq hYW (fun j => ((M25.2 36 j (Or.inl (by decide))).trans ((M17.2 36 j (Or.inl (by decide))).trans ((q6 36 j (by simp [fz])).trans rfl)))) (fun j => ((M25.2 37 j (Or.inl (by decide))).trans ((M17.2 37 j (Or.inl (by decide))).trans ((q6 37 j (by simp [fz])).trans rfl))))) (YT_eq q7 (fun j => ((M25.2 18 j (Or.inl (by decide))).trans ((M17.2 18 j (Or.inl (by decide))).trans rfl))) (fun j => ((M25.2 19 j (Or.inl (by decide))).trans ((M17.2 19 j (Or.inl (by decide))).trans rfl))))) ck11_288 (Nat.le_of_ble_eq_true rfl) rfl (fun _ => ⟨_, rfl⟩) ⟨_, _, rfl⟩ ⟨Nat.le_of_ble_eq_true rfl, Nat.le_of_ble_eq_true rfl⟩ rfl hl.1 rfl (Nat.le_of_ble_eq_true rfl) dX11_sentence_62 ⟨Nat.le_refl 0, Nat.le_refl 0⟩) X26 (fun t40 H lc q38 X39 => ?_)
    unfold po_sncopy_35_17 at q38
    obtain ⟨q41, q42, q43⟩ := q38
    have F44 : Fr [(16, 1), (16, 2), (17, 4), (1, 3), (1, 4), (1, 5), (1, 7), (1, 8), (16, 4), (16, 5), (1, 2), (1, 1), (0, 12), (35, 4)] [18, 19, 20, 36, 37, 38, 201] τ t40 := Fr_call F28 q42 (by decide)
    refine r_aload_n S dX11_sentence_65 rfl (lv_at hl 1 rfl) ?_
    refine r_get (K := 0) (v := .ref (G.2.2.2.1 16)) S X39 (Nat.le_of_ble_eq_true rfl) rfl lk11_35_9 (fun _ => ⟨_, rfl, rfl⟩) dX11_sentence_66 ?_
    refine r_getn (K := 16) S X39 (Nat.le_of_ble_eq_true rfl) rfl lk11_293_6 (fun _ => ⟨_, rfl, rfl⟩) dX11_sentence_69 (fun v45 z46 => ?_)
    have r47 : R (0) (20) v45 := rd q41 rfl z46
    exact r_ret S hr hlk X39 ⟨q41, F44, (YT_eq q7 (fun j => ((q42 18 j (by simp [fz])).trans ((M25.2 18 j (Or.inl (by decide))).trans ((M17.2 18 j (Or.inl (by decide))).trans rfl)))) (fun j => ((q42 19 j (by simp [fz])).trans ((M25.2 19 j (Or.inl (by decide))).trans ((M17.2 19 j (Or.inl (by decide))).trans rfl))))), q43, (by have h1_0 := congrArg Int32.toInt ((q42 1 1 (by decide)).trans M25.1); omega), (Or.inr ⟨k35, e36, (by have q1 := h37; have q2 := congrArg Int32.toInt z46; have q3 := congrArg Int32.toInt (((q42 16 4 (by decide)).trans ((M25.2 16 4 (Or.inl (by decide))).trans ((M17.2 16 4 (Or.inl (by decide))).trans rfl))) : t40 16 4 = t3 16 4); omega), (by have q := congrArg Int32.toInt ((q42 0 12 (by decide)).trans ((M25.2 0 12 (Or.inl (by decide))).trans M17.1)); omega)⟩)⟩ rfl dX11_sentence_72
  ·
    have r48 : R (0) (0) v4 := ⟨by omega, by omega⟩
    have p49 := q10.1 (by omega)
    obtain ⟨q50, e51, h52, h53⟩ := p49
    refine r_iconst S dX11_sentence_38 (by decide) (fun v54 z55 => ?_)
    have r56 := R_eq z55
    refine r_aload_n S dX11_sentence_39 rfl (lv_at hl 1 rfl) ?_
    refine r_get (K := 0) (v := .ref (G.2.2.2.1 1)) S X26 (Nat.le_of_ble_eq_true rfl) rfl lk11_12_9 (fun _ => ⟨_, rfl, rfl⟩) dX11_sentence_40 ?_
    refine r_getn (K := 1) S X26 (Nat.le_of_ble_eq_true rfl) rfl lk11_105_7 (fun _ => ⟨_, rfl, rfl⟩) dX11_sentence_43 (fun v57 z58 => ?_)
    have r59 : R (0) (940) v57 := rd I27 rfl z58
    refine r_isub S dX11_sentence_46 (fun v60 z61 => ?_)
    obtain ⟨e62, r63⟩ := i_sub (lo := -941) (hi := -1) z61 r56 r59 rfl
    exact r_ret S hr hlk X26 ⟨I27, F28, (YT_eq q7 (fun j => ((M25.2 18 j (Or.inl (by decide))).trans ((M17.2 18 j (Or.inl (by decide))).trans rfl))) (fun j => ((M25.2 19 j (Or.inl (by decide))).trans ((M17.2 19 j (Or.inl (by decide))).trans rfl)))), (YW_eq hYW (fun j => ((M25.2 36 j (Or.inl (by decide))).trans ((M17.2 36 j (Or.inl (by decide))).trans ((q6 36 j (by simp [fz])).trans rfl)))) (fun j => ((M25.2 37 j (Or.inl (by decide))).trans ((M17.2 37 j (Or.inl (by decide))).trans ((q6 37 j (by simp [fz])).trans rfl))))), (by have h1_0 := congrArg Int32.toInt M25.1; omega), (Or.inl ⟨q50, e51, (by have q1 := h53; have q2 := congrArg Int32.toInt z58; have q3 := congrArg Int32.toInt (((M25.2 1 3 (Or.inr (by decide))).trans ((M17.2 1 3 (Or.inl (by decide))).trans rfl)) : t24 1 3 = t3 1 3); omega), (by have q1 := h52; have q2 := congrArg Int32.toInt ((M25.2 0 12 (Or.inl (by decide))).trans M17.1); have q3 := congrArg Int32.toInt z13; omega)⟩)⟩ rfl dX11_sentence_47
