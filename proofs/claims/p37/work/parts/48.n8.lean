def po_X7_addNumber_q (τ : Tau)  (a0 : Int32)   (u : Tau) : Prop := Inv u ∧ Fr [(1, 1)] [2] τ u ∧ ((τ 1 1).toInt ≤ 936 → (u 1 1).toInt = (τ 1 1).toInt + 4) ∧ ((τ 1 1).toInt ≤ 936 → AP τ u 2 (τ 1 1).toInt.toNat 4 (byt a0))
set_option maxHeartbeats 4000000 in
set_option maxRecDepth 100000 in
theorem c_X7_addNumber_q (l : Launch) (G : Gx) (τ : Tau) (hI : Inv τ) (a0 : Int32) (h_a0 : R (-2147483648) (2147483647) a0) : Cv l G yX7_addNumber cX7_addNumber 3 0 0 [.ref (G.2.2.2.1 1), .int a0] τ (po_X7_addNumber_q τ  a0  ) := by
  unfold Cv
  refine C_of (own := RX7) (by decide) rfl (Nat.le_of_ble_eq_true rfl) ?_
  intro p e s m below meth c ls S hr hlk X hl
  have hl : lv_has ls 3 [(0, .ref (G.2.2.2.1 1)), (1, .int a0)] := hl
  obtain ⟨v1, z2⟩ : ∃ x, τ 1 1 = x := ⟨_, rfl⟩
  have r3 : R (0) (940) v1 := rd hI rfl z2
  refine r_aload_n S dX7_addNumber_0 rfl (lv_at hl 0 rfl) ?_
  refine r_geti (K := 1) S X (Nat.le_of_ble_eq_true rfl) rfl lk7_15_7 (fun _ => ⟨_, rfl, rfl⟩) z2 dX7_addNumber_1 ?_
  refine r_iconst S dX7_addNumber_4 (by decide) (fun v4 z5 => ?_)
  have r6 := R_eq z5
  refine r_iadd S dX7_addNumber_5 (fun v7 z8 => ?_)
  obtain ⟨e9, r10⟩ := i_add (lo := 4) (hi := 944) z8 r3 r6 rfl
  refine r_sipush S dX7_addNumber_6 (by decide) (fun v11 z12 => ?_)
  have r13 := R_eq z12
  refine r_icmp_le (tgt := 13) S dX7_addNumber_9 (by decide) (fun c14 => ?_) (fun c14 => ?_)
  ·
    have r15 : R (4) (940) v7 := ⟨by omega, by omega⟩
    have r16 : R (0) (936) v1 := ⟨by omega, by omega⟩
    refine r_bipush S dX7_addNumber_13 (by decide) (fun v17 z18 => ?_)
    have r19 := R_eq z18
    refine r_istore_n (lv' := [(2, .int v17), (0, .ref (G.2.2.2.1 1)), (1, .int a0)]) S dX7_addNumber_15 rfl hl (by decide) rfl (fun ls hl => ?_)
    refine r_iload_n S dX7_addNumber_16 rfl (lv_at hl 0 rfl) ?_
    refine r_if_lt (tgt := 52) S dX7_addNumber_17 (by decide) (fun c20 => ?_) (fun c20 => ?_)
    ·
      exfalso; omega
    ·
      refine r_aload_n S dX7_addNumber_20 rfl (lv_at hl 1 rfl) ?_
      refine r_get (K := 1) (v := .ref (G.2.2.2.1 2)) S X (Nat.le_of_ble_eq_true rfl) rfl lk7_9_7 (fun _ => ⟨_, rfl, rfl⟩) dX7_addNumber_21 ?_
      refine r_aload_n S dX7_addNumber_24 rfl (lv_at hl 1 rfl) ?_
      refine r_geti (K := 1) S X (Nat.le_of_ble_eq_true rfl) rfl lk7_15_7 (fun _ => ⟨_, rfl, rfl⟩) z2 dX7_addNumber_25 ?_
      refine r_iload_n S dX7_addNumber_28 rfl (lv_at hl 2 rfl) ?_
      refine r_iload_n S dX7_addNumber_29 rfl (lv_at hl 0 rfl) ?_
      refine r_iushr S dX7_addNumber_30 (fun v21 z22 => ?_)
      have r24 : R (0) (255) v21 := i_ushrc z22 h_a0 r19 rfl
      refine r_sipush S dX7_addNumber_31 (by decide) (fun v25 z26 => ?_)
      have r27 := R_eq z26
      refine r_iand S dX7_addNumber_34 (fun v28 z29 => ?_)
      have r31 : R (0) (255) v28 := i_and1 z29 r24 r27 rfl
      have e32 := i_andle z29 r24 rfl
      refine r_ast (n := 940) (K := 2) S X (Nat.le_of_ble_eq_true rfl) rfl (fun _ _ => rfl) (ix_of r16 rfl) dX7_addNumber_35 (fun t33 H lc M34 X35 => ?_)
      have I36 := Inv_mu hI M34 (show Rg (kd 2) _ v28 from (R_of (lo := 0) (hi := 255) r31 rfl))
      have F37 : Fr [(1, 1)] [2] τ t33 := Fr_cell Fr_rfl M34 (by decide)
      refine r_aload_n S dX7_addNumber_36 rfl (lv_at hl 1 rfl) ?_
      refine r_dup S dX7_addNumber_37 rfl ?_
      refine r_geti (K := 1) S X35 (Nat.le_of_ble_eq_true rfl) rfl lk7_15_7 (fun _ => ⟨_, rfl, rfl⟩) ((M34.2 1 1 (Or.inl (by decide))).trans z2) dX7_addNumber_38 ?_
      refine r_iconst S dX7_addNumber_41 (by decide) (fun v38 z39 => ?_)
      have r40 := R_eq z39
      refine r_iadd S dX7_addNumber_42 (fun v41 z42 => ?_)
      obtain ⟨e43, r44⟩ := i_add (lo := 1) (hi := 937) z42 r16 r40 rfl
      refine r_put (K := 1) (ty := .int) S X35 (Nat.le_of_ble_eq_true rfl) rfl lk7_15_7 (fun _ => ⟨_, rfl, Nat.le_of_ble_eq_true rfl, rfl⟩) (fun _ _ _ h => by cases h; exact ⟨rfl, rfl⟩) rfl rfl dX7_addNumber_43 (fun t45 H lc M46 X47 => ?_)
      have I48 := Inv_mu I36 M46 (show Rg (kd 1) 1 v41 from (R_of (lo := 0) (hi := 940) r44 rfl))
      have F49 : Fr [(1, 1)] [2] τ t45 := Fr_mu F37 M46 (by decide)
      refine r_iinc (k := 0) S dX7_addNumber_46 hl rfl (by decide) (by decide) (fun v50 d51 ls z52 z53 hl => ?_)
      obtain ⟨e54, r55⟩ := i_add (lo := 16) (hi := 16) z52 r19 (R_eq z53) rfl
      have hl : lv_has ls 3 [(2, .int v50), (0, .ref (G.2.2.2.1 1)), (1, .int a0)] := hl
      refine r_goto (tgt := 16) S dX7_addNumber_49 (by decide) ?_
      refine r_iload_n S dX7_addNumber_16 rfl (lv_at hl 0 rfl) ?_
      refine r_if_lt (tgt := 52) S dX7_addNumber_17 (by decide) (fun c56 => ?_) (fun c56 => ?_)
      ·
        exfalso; omega
      ·
        refine r_aload_n S dX7_addNumber_20 rfl (lv_at hl 1 rfl) ?_
        refine r_get (K := 1) (v := .ref (G.2.2.2.1 2)) S X47 (Nat.le_of_ble_eq_true rfl) rfl lk7_9_7 (fun _ => ⟨_, rfl, rfl⟩) dX7_addNumber_21 ?_
        refine r_aload_n S dX7_addNumber_24 rfl (lv_at hl 1 rfl) ?_
        refine r_geti (K := 1) S X47 (Nat.le_of_ble_eq_true rfl) rfl lk7_15_7 (fun _ => ⟨_, rfl, rfl⟩) M46.1 dX7_addNumber_25 ?_
        refine r_iload_n S dX7_addNumber_28 rfl (lv_at hl 2 rfl) ?_
        refine r_iload_n S dX7_addNumber_29 rfl (lv_at hl 0 rfl) ?_
        refine r_iushr S dX7_addNumber_30 (fun v57 z58 => ?_)
        have r60 : R (0) (65535) v57 := i_ushrc z58 h_a0 r55 rfl
        refine r_sipush S dX7_addNumber_31 (by decide) (fun v61 z62 => ?_)
        have r63 := R_eq z62
        refine r_iand S dX7_addNumber_34 (fun v64 z65 => ?_)
        have r67 : R (0) (255) v64 := i_and2 z65 r60 r63 rfl
        have e68 := i_andle z65 r60 rfl
        refine r_ast (n := 940) (K := 2) S X47 (Nat.le_of_ble_eq_true rfl) rfl (fun _ _ => rfl) (ix_of r44 rfl) dX7_addNumber_35 (fun t69 H lc M70 X71 => ?_)
        have I72 := Inv_mu I48 M70 (show Rg (kd 2) _ v64 from (R_of (lo := 0) (hi := 255) r67 rfl))
        have F73 : Fr [(1, 1)] [2] τ t69 := Fr_cell F49 M70 (by decide)
        refine r_aload_n S dX7_addNumber_36 rfl (lv_at hl 1 rfl) ?_
        refine r_dup S dX7_addNumber_37 rfl ?_
        refine r_geti (K := 1) S X71 (Nat.le_of_ble_eq_true rfl) rfl lk7_15_7 (fun _ => ⟨_, rfl, rfl⟩) ((M70.2 1 1 (Or.inl (by decide))).trans M46.1) dX7_addNumber_38 ?_
        refine r_iconst S dX7_addNumber_41 (by decide) (fun v74 z75 => ?_)
        have r76 := R_eq z75
        refine r_iadd S dX7_addNumber_42 (fun v77 z78 => ?_)
        obtain ⟨e79, r80⟩ := i_add (lo := 2) (hi := 938) z78 r44 r76 rfl
        refine r_put (K := 1) (ty := .int) S X71 (Nat.le_of_ble_eq_true rfl) rfl lk7_15_7 (fun _ => ⟨_, rfl, Nat.le_of_ble_eq_true rfl, rfl⟩) (fun _ _ _ h => by cases h; exact ⟨rfl, rfl⟩) rfl rfl dX7_addNumber_43 (fun t81 H lc M82 X83 => ?_)
        have I84 := Inv_mu I72 M82 (show Rg (kd 1) 1 v77 from (R_of (lo := 0) (hi := 940) r80 rfl))
        have F85 : Fr [(1, 1)] [2] τ t81 := Fr_mu F73 M82 (by decide)
        refine r_iinc (k := 0) S dX7_addNumber_46 hl rfl (by decide) (by decide) (fun v86 d87 ls z88 z89 hl => ?_)
        obtain ⟨e90, r91⟩ := i_add (lo := 8) (hi := 8) z88 r55 (R_eq z89) rfl
        have hl : lv_has ls 3 [(2, .int v86), (0, .ref (G.2.2.2.1 1)), (1, .int a0)] := hl
        refine r_goto (tgt := 16) S dX7_addNumber_49 (by decide) ?_
        refine r_iload_n S dX7_addNumber_16 rfl (lv_at hl 0 rfl) ?_
        refine r_if_lt (tgt := 52) S dX7_addNumber_17 (by decide) (fun c92 => ?_) (fun c92 => ?_)
        ·
          exfalso; omega
        ·
          refine r_aload_n S dX7_addNumber_20 rfl (lv_at hl 1 rfl) ?_
          refine r_get (K := 1) (v := .ref (G.2.2.2.1 2)) S X83 (Nat.le_of_ble_eq_true rfl) rfl lk7_9_7 (fun _ => ⟨_, rfl, rfl⟩) dX7_addNumber_21 ?_
          refine r_aload_n S dX7_addNumber_24 rfl (lv_at hl 1 rfl) ?_
          refine r_geti (K := 1) S X83 (Nat.le_of_ble_eq_true rfl) rfl lk7_15_7 (fun _ => ⟨_, rfl, rfl⟩) M82.1 dX7_addNumber_25 ?_
          refine r_iload_n S dX7_addNumber_28 rfl (lv_at hl 2 rfl) ?_
          refine r_iload_n S dX7_addNumber_29 rfl (lv_at hl 0 rfl) ?_
          refine r_iushr S dX7_addNumber_30 (fun v93 z94 => ?_)
          have r96 : R (0) (16777215) v93 := i_ushrc z94 h_a0 r91 rfl
          refine r_sipush S dX7_addNumber_31 (by decide) (fun v97 z98 => ?_)
          have r99 := R_eq z98
          refine r_iand S dX7_addNumber_34 (fun v100 z101 => ?_)
          have r103 : R (0) (255) v100 := i_and2 z101 r96 r99 rfl
          have e104 := i_andle z101 r96 rfl
          refine r_ast (n := 940) (K := 2) S X83 (Nat.le_of_ble_eq_true rfl) rfl (fun _ _ => rfl) (ix_of r80 rfl) dX7_addNumber_35 (fun t105 H lc M106 X107 => ?_)
          have I108 := Inv_mu I84 M106 (show Rg (kd 2) _ v100 from (R_of (lo := 0) (hi := 255) r103 rfl))
          have F109 : Fr [(1, 1)] [2] τ t105 := Fr_cell F85 M106 (by decide)
          refine r_aload_n S dX7_addNumber_36 rfl (lv_at hl 1 rfl) ?_
          refine r_dup S dX7_addNumber_37 rfl ?_
          refine r_geti (K := 1) S X107 (Nat.le_of_ble_eq_true rfl) rfl lk7_15_7 (fun _ => ⟨_, rfl, rfl⟩) ((M106.2 1 1 (Or.inl (by decide))).trans M82.1) dX7_addNumber_38 ?_
          refine r_iconst S dX7_addNumber_41 (by decide) (fun v110 z111 => ?_)
          have r112 := R_eq z111
          refine r_iadd S dX7_addNumber_42 (fun v113 z114 => ?_)
          obtain ⟨e115, r116⟩ := i_add (lo := 3) (hi := 939) z114 r80 r112 rfl
          refine r_put (K := 1) (ty := .int) S X107 (Nat.le_of_ble_eq_true rfl) rfl lk7_15_7 (fun _ => ⟨_, rfl, Nat.le_of_ble_eq_true rfl, rfl⟩) (fun _ _ _ h => by cases h; exact ⟨rfl, rfl⟩) rfl rfl dX7_addNumber_43 (fun t117 H lc M118 X119 => ?_)
          have I120 := Inv_mu I108 M118 (show Rg (kd 1) 1 v113 from (R_of (lo := 0) (hi := 940) r116 rfl))
          have F121 : Fr [(1, 1)] [2] τ t117 := Fr_mu F109 M118 (by decide)
          refine r_iinc (k := 0) S dX7_addNumber_46 hl rfl (by decide) (by decide) (fun v122 d123 ls z124 z125 hl => ?_)
          obtain ⟨e126, r127⟩ := i_add (lo := 0) (hi := 0) z124 r91 (R_eq z125) rfl
          have hl : lv_has ls 3 [(2, .int v122), (0, .ref (G.2.2.2.1 1)), (1, .int a0)] := hl
          refine r_goto (tgt := 16) S dX7_addNumber_49 (by decide) ?_
          refine r_iload_n S dX7_addNumber_16 rfl (lv_at hl 0 rfl) ?_
          refine r_if_lt (tgt := 52) S dX7_addNumber_17 (by decide) (fun c128 => ?_) (fun c128 => ?_)
          ·
            exfalso; omega
          ·
            refine r_aload_n S dX7_addNumber_20 rfl (lv_at hl 1 rfl) ?_
            refine r_get (K := 1) (v := .ref (G.2.2.2.1 2)) S X119 (Nat.le_of_ble_eq_true rfl) rfl lk7_9_7 (fun _ => ⟨_, rfl, rfl⟩) dX7_addNumber_21 ?_
            refine r_aload_n S dX7_addNumber_24 rfl (lv_at hl 1 rfl) ?_
            refine r_geti (K := 1) S X119 (Nat.le_of_ble_eq_true rfl) rfl lk7_15_7 (fun _ => ⟨_, rfl, rfl⟩) M118.1 dX7_addNumber_25 ?_
            refine r_iload_n S dX7_addNumber_28 rfl (lv_at hl 2 rfl) ?_
            refine r_iload_n S dX7_addNumber_29 rfl (lv_at hl 0 rfl) ?_
            refine r_iushr S dX7_addNumber_30 (fun v129 z130 => ?_)
            have r131 := R_any v129
            refine r_sipush S dX7_addNumber_31 (by decide) (fun v132 z133 => ?_)
            have r134 := R_eq z133
            refine r_iand S dX7_addNumber_34 (fun v135 z136 => ?_)
            have r138 : R (0) (255) v135 := i_and2 z136 r131 r134 rfl
            refine r_ast (n := 940) (K := 2) S X119 (Nat.le_of_ble_eq_true rfl) rfl (fun _ _ => rfl) (ix_of r116 rfl) dX7_addNumber_35 (fun t139 H lc M140 X141 => ?_)
            have I142 := Inv_mu I120 M140 (show Rg (kd 2) _ v135 from (R_of (lo := 0) (hi := 255) r138 rfl))
            have F143 : Fr [(1, 1)] [2] τ t139 := Fr_cell F121 M140 (by decide)
            refine r_aload_n S dX7_addNumber_36 rfl (lv_at hl 1 rfl) ?_
            refine r_dup S dX7_addNumber_37 rfl ?_
            refine r_geti (K := 1) S X141 (Nat.le_of_ble_eq_true rfl) rfl lk7_15_7 (fun _ => ⟨_, rfl, rfl⟩) ((M140.2 1 1 (Or.inl (by decide))).trans M118.1) dX7_addNumber_38 ?_
            refine r_iconst S dX7_addNumber_41 (by decide) (fun v144 z145 => ?_)
            have r146 := R_eq z145
            refine r_iadd S dX7_addNumber_42 (fun v147 z148 => ?_)
            obtain ⟨e149, r150⟩ := i_add (lo := 4) (hi := 940) z148 r116 r146 rfl
            refine r_put (K := 1) (ty := .int) S X141 (Nat.le_of_ble_eq_true rfl) rfl lk7_15_7 (fun _ => ⟨_, rfl, Nat.le_of_ble_eq_true rfl, rfl⟩) (fun _ _ _ h => by cases h; exact ⟨rfl, rfl⟩) rfl rfl dX7_addNumber_43 (fun t151 H lc M152 X153 => ?_)
            have I154 := Inv_mu I142 M152 (show Rg (kd 1) 1 v147 from (R_of (lo := 0) (hi := 940) r150 rfl))
            have F155 : Fr [(1, 1)] [2] τ t151 := Fr_mu F143 M152 (by decide)
            refine r_iinc (k := 0) S dX7_addNumber_46 hl rfl (by decide) (by decide) (fun v156 d157 ls z158 z159 hl => ?_)
            obtain ⟨e160, r161⟩ := i_add (lo := -8) (hi := -8) z158 r127 (R_eq z159) rfl
            have hl : lv_has ls 3 [(2, .int v156), (0, .ref (G.2.2.2.1 1)), (1, .int a0)] := hl
            refine r_goto (tgt := 16) S dX7_addNumber_49 (by decide) ?_
            refine r_iload_n S dX7_addNumber_16 rfl (lv_at hl 0 rfl) ?_
            refine r_if_lt (tgt := 52) S dX7_addNumber_17 (by decide) (fun c162 => ?_) (fun c162 => ?_)
            ·
              exact r_vret S hr hlk X153 ⟨I154, F155, (by have h1_0 := congrArg Int32.toInt M152.1; have h2_0 := congrArg Int32.toInt z2; omega), (fun _ => (AP_4 M34 (fun j => ((M46.2 2 j (Or.inl (by decide))).trans rfl)) M70 (fun j => ((M82.2 2 j (Or.inl (by decide))).trans rfl)) M106 (fun j => ((M118.2 2 j (Or.inl (by decide))).trans rfl)) M140 (fun j => ((M152.2 2 j (Or.inl (by decide))).trans rfl)) (by have q := congrArg Int32.toInt z2; omega) (by have q := congrArg Int32.toInt z2; omega) (by have q := congrArg Int32.toInt z2; omega) (by have q := congrArg Int32.toInt z2; omega) (by have q := congrArg Int32.toInt z2; omega) (byt_c (i := 0) z22 (by omega) z29 (by omega) (by decide)) (byt_c (i := 1) z58 (by omega) z65 (by omega) (by decide)) (byt_c (i := 2) z94 (by omega) z101 (by omega) (by decide)) (byt_c (i := 3) z130 (by omega) z136 (by omega) (by decide))))⟩ dX7_addNumber_52
            ·
              exfalso; omega
  ·
    have r163 : R (941) (944) v7 := ⟨by omega, by omega⟩
    have r164 : R (937) (940) v1 := ⟨by omega, by omega⟩
    exact r_vret S hr hlk X ⟨hI, Fr_rfl, (by have h1_0 := congrArg Int32.toInt z2; have h2_0 := congrArg Int32.toInt z2; omega), (fun h => by have q := congrArg Int32.toInt z2; exfalso; omega)⟩ dX7_addNumber_12
def po_X11_feed_q (τ : Tau)  (a0 a1 a2 a3 a4 : Int32)   (r : Int32) (u : Tau) : Prop := Inv u ∧ Fr [(1, 1)] [2] τ u ∧ ((τ 1 1).toInt + 20 ≤ 940 → (u 1 1).toInt = (τ 1 1).toInt + 20 ∧ r.toInt = (τ 1 1).toInt + 20) ∧ (940 < (τ 1 1).toInt + 20 → (u 1 1).toInt = (τ 1 1).toInt ∧ r.toInt = -1) ∧ ((τ 1 1).toInt + 20 ≤ 940 → AP τ u 2 (τ 1 1).toInt.toNat 20 (cat5 a0 a1 a2 a3 a4)) ∧ (940 < (τ 1 1).toInt + 20 → ∀ j, u 2 j = τ 2 j)
set_option maxHeartbeats 4000000 in
set_option maxRecDepth 100000 in
theorem c_X11_feed_q (l : Launch) (G : Gx) (τ : Tau) (hI : Inv τ) (a0 : Int32) (a1 : Int32) (a2 : Int32) (a3 : Int32) (a4 : Int32) (h_a0 : R (-2147483648) (2147483647) a0) (h_a1 : R (-2147483648) (2147483647) a1) (h_a2 : R (-2147483648) (2147483647) a2) (h_a3 : R (-2147483648) (2147483647) a3) (h_a4 : R (-2147483648) (2147483647) a4) : Ci l G yX11_feed cX11_feed 6 (some .int) 1 22 [.ref (G.2.2.2.1 0), .int a0, .int a1, .int a2, .int a3, .int a4] τ (po_X11_feed_q τ  a0 a1 a2 a3 a4  ) := by
  unfold Ci
  refine C_of (own := RX11) (by decide) rfl (Nat.le_of_ble_eq_true rfl) ?_
  intro p e s m below meth c ls S hr hlk X hl
  have hl : lv_has ls 6 [(0, .ref (G.2.2.2.1 0)), (1, .int a0), (2, .int a1), (3, .int a2), (4, .int a3), (5, .int a4)] := hl
  obtain ⟨v1, z2⟩ : ∃ x, τ 1 1 = x := ⟨_, rfl⟩
  have r3 : R (0) (940) v1 := rd hI rfl z2
  refine r_aload_n S dX11_feed_0 rfl (lv_at hl 0 rfl) ?_
  refine r_get (K := 0) (v := .ref (G.2.2.2.1 1)) S X (Nat.le_of_ble_eq_true rfl) rfl lk11_12_9 (fun _ => ⟨_, rfl, rfl⟩) dX11_feed_1 ?_
  refine r_geti (K := 1) S X (Nat.le_of_ble_eq_true rfl) rfl lk11_88_7 (fun _ => ⟨_, rfl, rfl⟩) z2 dX11_feed_4 ?_
  refine r_bipush S dX11_feed_7 (by decide) (fun v4 z5 => ?_)
  have r6 := R_eq z5
  refine r_iadd S dX11_feed_9 (fun v7 z8 => ?_)
  obtain ⟨e9, r10⟩ := i_add (lo := 20) (hi := 960) z8 r3 r6 rfl
  refine r_sipush S dX11_feed_10 (by decide) (fun v11 z12 => ?_)
  have r13 := R_eq z12
  refine r_icmp_le (tgt := 18) S dX11_feed_13 (by decide) (fun c14 => ?_) (fun c14 => ?_)
  ·
    have r15 : R (20) (940) v7 := ⟨by omega, by omega⟩
    have r16 : R (0) (920) v1 := ⟨by omega, by omega⟩
    refine r_aload_n S dX11_feed_18 rfl (lv_at hl 0 rfl) ?_
    refine r_get (K := 0) (v := .ref (G.2.2.2.1 1)) S X (Nat.le_of_ble_eq_true rfl) rfl lk11_12_9 (fun _ => ⟨_, rfl, rfl⟩) dX11_feed_19 ?_
    refine r_iload_n S dX11_feed_22 rfl (lv_at hl 1 rfl) ?_
    refine r_kv (q_V (As := [.int a0]) (rest := []) (K := 1) (ci := 7) S X (c_X7_addNumber_q l G τ hI a0 h_a0) ck11_91 (Nat.le_of_ble_eq_true rfl) rfl (fun _ => ⟨_, rfl⟩) ⟨_, _, rfl⟩ ⟨Nat.le_of_ble_eq_true rfl, Nat.le_of_ble_eq_true rfl⟩ rfl hl.1 rfl (Nat.le_of_ble_eq_true rfl) dX11_feed_23 ⟨Nat.le_refl 0, Nat.le_refl 0⟩) X (fun t19 H lc q17 X18 => ?_)
    unfold po_X7_addNumber_q at q17
    obtain ⟨q20, q21, q22, q23⟩ := q17
    have F24 : Fr [(1, 1)] [2] τ t19 := Fr_call Fr_rfl q21 (by decide)
    have e25 := congrArg Int32.toInt z2
    refine r_aload_n S dX11_feed_26 rfl (lv_at hl 0 rfl) ?_
    refine r_get (K := 0) (v := .ref (G.2.2.2.1 1)) S X18 (Nat.le_of_ble_eq_true rfl) rfl lk11_12_9 (fun _ => ⟨_, rfl, rfl⟩) dX11_feed_27 ?_
    refine r_iload_n S dX11_feed_30 rfl (lv_at hl 2 rfl) ?_
    refine r_kv (q_V (As := [.int a1]) (rest := []) (K := 1) (ci := 7) S X18 (c_X7_addNumber_q l G t19 q20 a1 h_a1) ck11_91 (Nat.le_of_ble_eq_true rfl) rfl (fun _ => ⟨_, rfl⟩) ⟨_, _, rfl⟩ ⟨Nat.le_of_ble_eq_true rfl, Nat.le_of_ble_eq_true rfl⟩ rfl hl.1 rfl (Nat.le_of_ble_eq_true rfl) dX11_feed_31 ⟨Nat.le_refl 0, Nat.le_refl 0⟩) X18 (fun t28 H lc q26 X27 => ?_)
    unfold po_X7_addNumber_q at q26
    obtain ⟨q29, q30, q31, q32⟩ := q26
    have F33 : Fr [(1, 1)] [2] τ t28 := Fr_call F24 q30 (by decide)
    refine r_aload_n S dX11_feed_34 rfl (lv_at hl 0 rfl) ?_
    refine r_get (K := 0) (v := .ref (G.2.2.2.1 1)) S X27 (Nat.le_of_ble_eq_true rfl) rfl lk11_12_9 (fun _ => ⟨_, rfl, rfl⟩) dX11_feed_35 ?_
    refine r_iload_n S dX11_feed_38 rfl (lv_at hl 3 rfl) ?_
    refine r_kv (q_V (As := [.int a2]) (rest := []) (K := 1) (ci := 7) S X27 (c_X7_addNumber_q l G t28 q29 a2 h_a2) ck11_91 (Nat.le_of_ble_eq_true rfl) rfl (fun _ => ⟨_, rfl⟩) ⟨_, _, rfl⟩ ⟨Nat.le_of_ble_eq_true rfl, Nat.le_of_ble_eq_true rfl⟩ rfl hl.1 rfl (Nat.le_of_ble_eq_true rfl) dX11_feed_39 ⟨Nat.le_refl 0, Nat.le_refl 0⟩) X27 (fun t36 H lc q34 X35 => ?_)
    unfold po_X7_addNumber_q at q34
    obtain ⟨q37, q38, q39, q40⟩ := q34
    have F41 : Fr [(1, 1)] [2] τ t36 := Fr_call F33 q38 (by decide)
    refine r_aload_n S dX11_feed_42 rfl (lv_at hl 0 rfl) ?_
    refine r_get (K := 0) (v := .ref (G.2.2.2.1 1)) S X35 (Nat.le_of_ble_eq_true rfl) rfl lk11_12_9 (fun _ => ⟨_, rfl, rfl⟩) dX11_feed_43 ?_
    refine r_iload S dX11_feed_46 (lv_at hl 4 rfl) ?_
    refine r_kv (q_V (As := [.int a3]) (rest := []) (K := 1) (ci := 7) S X35 (c_X7_addNumber_q l G t36 q37 a3 h_a3) ck11_91 (Nat.le_of_ble_eq_true rfl) rfl (fun _ => ⟨_, rfl⟩) ⟨_, _, rfl⟩ ⟨Nat.le_of_ble_eq_true rfl, Nat.le_of_ble_eq_true rfl⟩ rfl hl.1 rfl (Nat.le_of_ble_eq_true rfl) dX11_feed_48 ⟨Nat.le_refl 0, Nat.le_refl 0⟩) X35 (fun t44 H lc q42 X43 => ?_)
    unfold po_X7_addNumber_q at q42
    obtain ⟨q45, q46, q47, q48⟩ := q42
    have F49 : Fr [(1, 1)] [2] τ t44 := Fr_call F41 q46 (by decide)
    refine r_aload_n S dX11_feed_51 rfl (lv_at hl 0 rfl) ?_
    refine r_get (K := 0) (v := .ref (G.2.2.2.1 1)) S X43 (Nat.le_of_ble_eq_true rfl) rfl lk11_12_9 (fun _ => ⟨_, rfl, rfl⟩) dX11_feed_52 ?_
    refine r_iload S dX11_feed_55 (lv_at hl 5 rfl) ?_
    refine r_kv (q_V (As := [.int a4]) (rest := []) (K := 1) (ci := 7) S X43 (c_X7_addNumber_q l G t44 q45 a4 h_a4) ck11_91 (Nat.le_of_ble_eq_true rfl) rfl (fun _ => ⟨_, rfl⟩) ⟨_, _, rfl⟩ ⟨Nat.le_of_ble_eq_true rfl, Nat.le_of_ble_eq_true rfl⟩ rfl hl.1 rfl (Nat.le_of_ble_eq_true rfl) dX11_feed_57 ⟨Nat.le_refl 0, Nat.le_refl 0⟩) X43 (fun t52 H lc q50 X51 => ?_)
    unfold po_X7_addNumber_q at q50
    obtain ⟨q53, q54, q55, q56⟩ := q50
    have F57 : Fr [(1, 1)] [2] τ t52 := Fr_call F49 q54 (by decide)
    refine r_aload_n S dX11_feed_60 rfl (lv_at hl 0 rfl) ?_
    refine r_get (K := 0) (v := .ref (G.2.2.2.1 1)) S X51 (Nat.le_of_ble_eq_true rfl) rfl lk11_12_9 (fun _ => ⟨_, rfl, rfl⟩) dX11_feed_61 ?_
    refine r_getn (K := 1) S X51 (Nat.le_of_ble_eq_true rfl) rfl lk11_88_7 (fun _ => ⟨_, rfl, rfl⟩) dX11_feed_64 (fun v58 z59 => ?_)
    have r60 : R (0) (940) v58 := rd q53 rfl z59
    exact r_ret S hr hlk X51 ⟨q53, F57, (by have h1_0 := congrArg Int32.toInt z59; have h2_0 := congrArg Int32.toInt z2; omega), (by have h1_0 := congrArg Int32.toInt z59; have h2_0 := congrArg Int32.toInt z2; omega), (fun _ => by have q0 := congrArg Int32.toInt z2; exact (AP_two (n' := 20) (AP_two (n' := 16) (AP_two (n' := 12) (AP_two (n' := 8) (q23 (by omega)) (q32 (by omega)) (by omega) rfl) (q40 (by omega)) (by omega) rfl) (q48 (by omega)) (by omega) rfl) (q56 (by omega)) (by omega) rfl)), (fun h => by have q := congrArg Int32.toInt z2; exfalso; omega)⟩ rfl dX11_feed_67
  ·
    have r61 : R (941) (960) v7 := ⟨by omega, by omega⟩
    have r62 : R (921) (940) v1 := ⟨by omega, by omega⟩
    refine r_iconst S dX11_feed_16 (by decide) (fun v63 z64 => ?_)
    have r65 := R_eq z64
    exact r_ret S hr hlk X ⟨hI, Fr_rfl, (by have h1_0 := congrArg Int32.toInt z2; have h2_0 := congrArg Int32.toInt z2; omega), (by have h1_0 := congrArg Int32.toInt z2; have h2_0 := congrArg Int32.toInt z2; omega), (fun h => by have q := congrArg Int32.toInt z2; exfalso; omega), (fun _ j => rfl)⟩ rfl dX11_feed_17
def po_X12_four_q0 (τ : Tau)  (a0 : Int32)   (u : Tau) : Prop := Inv u ∧ Fr [(131, 2)] [132] τ u ∧ R (4) (924) (u 131 2) ∧ (u 131 2).toInt = (τ 131 2).toInt + 4 ∧ AP τ u 132 (τ 131 2).toInt.toNat 4 (byt a0)
set_option maxHeartbeats 4000000 in
set_option maxRecDepth 100000 in
theorem c_X12_four_q0 (l : Launch) (G : Gx) (τ : Tau) (hI : Inv τ) (a0 : Int32) (h_a0 : R (-2147483648) (2147483647) a0) (hf_0 : R (0) (920) (τ 131 2)) : Cv l G yX12_four cX12_four 3 0 0 [.ref (G.2.2.2.1 131), .int a0] τ (po_X12_four_q0 τ  a0  ) := by
  unfold Cv
  refine C_of (own := RX12) (by decide) rfl (Nat.le_of_ble_eq_true rfl) ?_
  intro p e s m below meth c ls S hr hlk X hl
  have hl : lv_has ls 3 [(0, .ref (G.2.2.2.1 131)), (1, .int a0)] := hl
  obtain ⟨v1, z2⟩ : ∃ x, τ 131 2 = x := ⟨_, rfl⟩
  rw [z2] at hf_0
  refine r_bipush S dX12_four_0 (by decide) (fun v3 z4 => ?_)
  have r5 := R_eq z4
  refine r_istore_n (lv' := [(2, .int v3), (0, .ref (G.2.2.2.1 131)), (1, .int a0)]) S dX12_four_2 rfl hl (by decide) rfl (fun ls hl => ?_)
  refine r_iload_n S dX12_four_3 rfl (lv_at hl 0 rfl) ?_
  refine r_if_lt (tgt := 36) S dX12_four_4 (by decide) (fun c6 => ?_) (fun c6 => ?_)
  ·
    exfalso; omega
  ·
    refine r_aload_n S dX12_four_7 rfl (lv_at hl 1 rfl) ?_
    refine r_get (K := 38) (v := .ref (G.2.2.2.1 132)) S X (Nat.le_of_ble_eq_true rfl) rfl lk12_14_10 (fun _ => ⟨_, rfl, rfl⟩) dX12_four_8 ?_
    refine r_aload_n S dX12_four_11 rfl (lv_at hl 1 rfl) ?_
    refine r_geti (K := 38) S X (Nat.le_of_ble_eq_true rfl) rfl lk12_7_10 (fun _ => ⟨_, rfl, rfl⟩) z2 dX12_four_12 ?_
    refine r_iload_n S dX12_four_15 rfl (lv_at hl 2 rfl) ?_
    refine r_iload_n S dX12_four_16 rfl (lv_at hl 0 rfl) ?_
    refine r_ishr S dX12_four_17 (fun v7 z8 => ?_)
    have r9 := R_any v7
    refine r_i2bq S dX12_four_18 (fun v10 r11 e12 => ?_)
    refine r_bast (n := 940) (K := 39) S X (Nat.le_of_ble_eq_true rfl) rfl (fun _ _ => rfl) (ix_of hf_0 rfl) (R_of (lo := -128) (hi := 127) r11 rfl) dX12_four_19 (fun t13 H lc M14 X15 => ?_)
    have I16 := Inv_mu hI M14 (show Rg (kd 132) _ v10 from (R_of (lo := -128) (hi := 127) r11 rfl))
    have F17 : Fr [(131, 2)] [132] τ t13 := Fr_cell Fr_rfl M14 (by decide)
    refine r_aload_n S dX12_four_20 rfl (lv_at hl 1 rfl) ?_
    refine r_dup S dX12_four_21 rfl ?_
    refine r_geti (K := 38) S X15 (Nat.le_of_ble_eq_true rfl) rfl lk12_7_10 (fun _ => ⟨_, rfl, rfl⟩) ((M14.2 131 2 (Or.inl (by decide))).trans z2) dX12_four_22 ?_
    refine r_iconst S dX12_four_25 (by decide) (fun v18 z19 => ?_)
    have r20 := R_eq z19
    refine r_iadd S dX12_four_26 (fun v21 z22 => ?_)
    obtain ⟨e23, r24⟩ := i_add (lo := 1) (hi := 921) z22 hf_0 r20 rfl
    refine r_put (K := 38) (ty := .int) S X15 (Nat.le_of_ble_eq_true rfl) rfl lk12_7_10 (fun _ => ⟨_, rfl, Nat.le_of_ble_eq_true rfl, rfl⟩) (fun _ _ _ h => by cases h; exact ⟨rfl, rfl⟩) rfl rfl dX12_four_27 (fun t25 H lc M26 X27 => ?_)
    have I28 := Inv_mu I16 M26 (show Rg (kd 131) 2 v21 from (R_of (lo := 0) (hi := 940) r24 rfl))
    have F29 : Fr [(131, 2)] [132] τ t25 := Fr_mu F17 M26 (by decide)
    refine r_iinc (k := 0) S dX12_four_30 hl rfl (by decide) (by decide) (fun v30 d31 ls z32 z33 hl => ?_)
    obtain ⟨e34, r35⟩ := i_add (lo := 16) (hi := 16) z32 r5 (R_eq z33) rfl
    have hl : lv_has ls 3 [(2, .int v30), (0, .ref (G.2.2.2.1 131)), (1, .int a0)] := hl
    refine r_goto (tgt := 3) S dX12_four_33 (by decide) ?_
    refine r_iload_n S dX12_four_3 rfl (lv_at hl 0 rfl) ?_
    refine r_if_lt (tgt := 36) S dX12_four_4 (by decide) (fun c36 => ?_) (fun c36 => ?_)
    ·
      exfalso; omega
    ·
      refine r_aload_n S dX12_four_7 rfl (lv_at hl 1 rfl) ?_
      refine r_get (K := 38) (v := .ref (G.2.2.2.1 132)) S X27 (Nat.le_of_ble_eq_true rfl) rfl lk12_14_10 (fun _ => ⟨_, rfl, rfl⟩) dX12_four_8 ?_
      refine r_aload_n S dX12_four_11 rfl (lv_at hl 1 rfl) ?_
      refine r_geti (K := 38) S X27 (Nat.le_of_ble_eq_true rfl) rfl lk12_7_10 (fun _ => ⟨_, rfl, rfl⟩) M26.1 dX12_four_12 ?_
      refine r_iload_n S dX12_four_15 rfl (lv_at hl 2 rfl) ?_
      refine r_iload_n S dX12_four_16 rfl (lv_at hl 0 rfl) ?_
      refine r_ishr S dX12_four_17 (fun v37 z38 => ?_)
      have r39 := R_any v37
      refine r_i2bq S dX12_four_18 (fun v40 r41 e42 => ?_)
      refine r_bast (n := 940) (K := 39) S X27 (Nat.le_of_ble_eq_true rfl) rfl (fun _ _ => rfl) (ix_of r24 rfl) (R_of (lo := -128) (hi := 127) r41 rfl) dX12_four_19 (fun t43 H lc M44 X45 => ?_)
      have I46 := Inv_mu I28 M44 (show Rg (kd 132) _ v40 from (R_of (lo := -128) (hi := 127) r41 rfl))
      have F47 : Fr [(131, 2)] [132] τ t43 := Fr_cell F29 M44 (by decide)
      refine r_aload_n S dX12_four_20 rfl (lv_at hl 1 rfl) ?_
      refine r_dup S dX12_four_21 rfl ?_
      refine r_geti (K := 38) S X45 (Nat.le_of_ble_eq_true rfl) rfl lk12_7_10 (fun _ => ⟨_, rfl, rfl⟩) ((M44.2 131 2 (Or.inl (by decide))).trans M26.1) dX12_four_22 ?_
      refine r_iconst S dX12_four_25 (by decide) (fun v48 z49 => ?_)
      have r50 := R_eq z49
      refine r_iadd S dX12_four_26 (fun v51 z52 => ?_)
      obtain ⟨e53, r54⟩ := i_add (lo := 2) (hi := 922) z52 r24 r50 rfl
      refine r_put (K := 38) (ty := .int) S X45 (Nat.le_of_ble_eq_true rfl) rfl lk12_7_10 (fun _ => ⟨_, rfl, Nat.le_of_ble_eq_true rfl, rfl⟩) (fun _ _ _ h => by cases h; exact ⟨rfl, rfl⟩) rfl rfl dX12_four_27 (fun t55 H lc M56 X57 => ?_)
      have I58 := Inv_mu I46 M56 (show Rg (kd 131) 2 v51 from (R_of (lo := 0) (hi := 940) r54 rfl))
      have F59 : Fr [(131, 2)] [132] τ t55 := Fr_mu F47 M56 (by decide)
      refine r_iinc (k := 0) S dX12_four_30 hl rfl (by decide) (by decide) (fun v60 d61 ls z62 z63 hl => ?_)
      obtain ⟨e64, r65⟩ := i_add (lo := 8) (hi := 8) z62 r35 (R_eq z63) rfl
      have hl : lv_has ls 3 [(2, .int v60), (0, .ref (G.2.2.2.1 131)), (1, .int a0)] := hl
      refine r_goto (tgt := 3) S dX12_four_33 (by decide) ?_
      refine r_iload_n S dX12_four_3 rfl (lv_at hl 0 rfl) ?_
      refine r_if_lt (tgt := 36) S dX12_four_4 (by decide) (fun c66 => ?_) (fun c66 => ?_)
      ·
        exfalso; omega
      ·
        refine r_aload_n S dX12_four_7 rfl (lv_at hl 1 rfl) ?_
        refine r_get (K := 38) (v := .ref (G.2.2.2.1 132)) S X57 (Nat.le_of_ble_eq_true rfl) rfl lk12_14_10 (fun _ => ⟨_, rfl, rfl⟩) dX12_four_8 ?_
        refine r_aload_n S dX12_four_11 rfl (lv_at hl 1 rfl) ?_
        refine r_geti (K := 38) S X57 (Nat.le_of_ble_eq_true rfl) rfl lk12_7_10 (fun _ => ⟨_, rfl, rfl⟩) M56.1 dX12_four_12 ?_
        refine r_iload_n S dX12_four_15 rfl (lv_at hl 2 rfl) ?_
        refine r_iload_n S dX12_four_16 rfl (lv_at hl 0 rfl) ?_
        refine r_ishr S dX12_four_17 (fun v67 z68 => ?_)
        have r69 := R_any v67
        refine r_i2bq S dX12_four_18 (fun v70 r71 e72 => ?_)
        refine r_bast (n := 940) (K := 39) S X57 (Nat.le_of_ble_eq_true rfl) rfl (fun _ _ => rfl) (ix_of r54 rfl) (R_of (lo := -128) (hi := 127) r71 rfl) dX12_four_19 (fun t73 H lc M74 X75 => ?_)
        have I76 := Inv_mu I58 M74 (show Rg (kd 132) _ v70 from (R_of (lo := -128) (hi := 127) r71 rfl))
        have F77 : Fr [(131, 2)] [132] τ t73 := Fr_cell F59 M74 (by decide)
        refine r_aload_n S dX12_four_20 rfl (lv_at hl 1 rfl) ?_
        refine r_dup S dX12_four_21 rfl ?_
        refine r_geti (K := 38) S X75 (Nat.le_of_ble_eq_true rfl) rfl lk12_7_10 (fun _ => ⟨_, rfl, rfl⟩) ((M74.2 131 2 (Or.inl (by decide))).trans M56.1) dX12_four_22 ?_
        refine r_iconst S dX12_four_25 (by decide) (fun v78 z79 => ?_)
        have r80 := R_eq z79
        refine r_iadd S dX12_four_26 (fun v81 z82 => ?_)
        obtain ⟨e83, r84⟩ := i_add (lo := 3) (hi := 923) z82 r54 r80 rfl
        refine r_put (K := 38) (ty := .int) S X75 (Nat.le_of_ble_eq_true rfl) rfl lk12_7_10 (fun _ => ⟨_, rfl, Nat.le_of_ble_eq_true rfl, rfl⟩) (fun _ _ _ h => by cases h; exact ⟨rfl, rfl⟩) rfl rfl dX12_four_27 (fun t85 H lc M86 X87 => ?_)
        have I88 := Inv_mu I76 M86 (show Rg (kd 131) 2 v81 from (R_of (lo := 0) (hi := 940) r84 rfl))
        have F89 : Fr [(131, 2)] [132] τ t85 := Fr_mu F77 M86 (by decide)
        refine r_iinc (k := 0) S dX12_four_30 hl rfl (by decide) (by decide) (fun v90 d91 ls z92 z93 hl => ?_)
        obtain ⟨e94, r95⟩ := i_add (lo := 0) (hi := 0) z92 r65 (R_eq z93) rfl
        have hl : lv_has ls 3 [(2, .int v90), (0, .ref (G.2.2.2.1 131)), (1, .int a0)] := hl
        refine r_goto (tgt := 3) S dX12_four_33 (by decide) ?_
        refine r_iload_n S dX12_four_3 rfl (lv_at hl 0 rfl) ?_
        refine r_if_lt (tgt := 36) S dX12_four_4 (by decide) (fun c96 => ?_) (fun c96 => ?_)
        ·
          exfalso; omega
        ·
          refine r_aload_n S dX12_four_7 rfl (lv_at hl 1 rfl) ?_
          refine r_get (K := 38) (v := .ref (G.2.2.2.1 132)) S X87 (Nat.le_of_ble_eq_true rfl) rfl lk12_14_10 (fun _ => ⟨_, rfl, rfl⟩) dX12_four_8 ?_
          refine r_aload_n S dX12_four_11 rfl (lv_at hl 1 rfl) ?_
          refine r_geti (K := 38) S X87 (Nat.le_of_ble_eq_true rfl) rfl lk12_7_10 (fun _ => ⟨_, rfl, rfl⟩) M86.1 dX12_four_12 ?_
          refine r_iload_n S dX12_four_15 rfl (lv_at hl 2 rfl) ?_
          refine r_iload_n S dX12_four_16 rfl (lv_at hl 0 rfl) ?_
          refine r_ishr S dX12_four_17 (fun v97 z98 => ?_)
          have r99 := R_any v97
          refine r_i2bq S dX12_four_18 (fun v100 r101 e102 => ?_)
          refine r_bast (n := 940) (K := 39) S X87 (Nat.le_of_ble_eq_true rfl) rfl (fun _ _ => rfl) (ix_of r84 rfl) (R_of (lo := -128) (hi := 127) r101 rfl) dX12_four_19 (fun t103 H lc M104 X105 => ?_)
          have I106 := Inv_mu I88 M104 (show Rg (kd 132) _ v100 from (R_of (lo := -128) (hi := 127) r101 rfl))
          have F107 : Fr [(131, 2)] [132] τ t103 := Fr_cell F89 M104 (by decide)
          refine r_aload_n S dX12_four_20 rfl (lv_at hl 1 rfl) ?_
          refine r_dup S dX12_four_21 rfl ?_
          refine r_geti (K := 38) S X105 (Nat.le_of_ble_eq_true rfl) rfl lk12_7_10 (fun _ => ⟨_, rfl, rfl⟩) ((M104.2 131 2 (Or.inl (by decide))).trans M86.1) dX12_four_22 ?_
          refine r_iconst S dX12_four_25 (by decide) (fun v108 z109 => ?_)
          have r110 := R_eq z109
          refine r_iadd S dX12_four_26 (fun v111 z112 => ?_)
          obtain ⟨e113, r114⟩ := i_add (lo := 4) (hi := 924) z112 r84 r110 rfl
          refine r_put (K := 38) (ty := .int) S X105 (Nat.le_of_ble_eq_true rfl) rfl lk12_7_10 (fun _ => ⟨_, rfl, Nat.le_of_ble_eq_true rfl, rfl⟩) (fun _ _ _ h => by cases h; exact ⟨rfl, rfl⟩) rfl rfl dX12_four_27 (fun t115 H lc M116 X117 => ?_)
          have I118 := Inv_mu I106 M116 (show Rg (kd 131) 2 v111 from (R_of (lo := 0) (hi := 940) r114 rfl))
          have F119 : Fr [(131, 2)] [132] τ t115 := Fr_mu F107 M116 (by decide)
          refine r_iinc (k := 0) S dX12_four_30 hl rfl (by decide) (by decide) (fun v120 d121 ls z122 z123 hl => ?_)
          obtain ⟨e124, r125⟩ := i_add (lo := -8) (hi := -8) z122 r95 (R_eq z123) rfl
          have hl : lv_has ls 3 [(2, .int v120), (0, .ref (G.2.2.2.1 131)), (1, .int a0)] := hl
          refine r_goto (tgt := 3) S dX12_four_33 (by decide) ?_
          refine r_iload_n S dX12_four_3 rfl (lv_at hl 0 rfl) ?_
          refine r_if_lt (tgt := 36) S dX12_four_4 (by decide) (fun c126 => ?_) (fun c126 => ?_)
          ·
            exact r_vret S hr hlk X117 ⟨I118, F119, (by rw [M116.1]; exact R_of r114 rfl), (by have h1_0 := congrArg Int32.toInt M116.1; have h2_0 := congrArg Int32.toInt z2; omega), (AP_4 M14 (fun j => ((M26.2 132 j (Or.inl (by decide))).trans rfl)) M44 (fun j => ((M56.2 132 j (Or.inl (by decide))).trans rfl)) M74 (fun j => ((M86.2 132 j (Or.inl (by decide))).trans rfl)) M104 (fun j => ((M116.2 132 j (Or.inl (by decide))).trans rfl)) (by have q := congrArg Int32.toInt z2; omega) (by have q := congrArg Int32.toInt z2; omega) (by have q := congrArg Int32.toInt z2; omega) (by have q := congrArg Int32.toInt z2; omega) (by have q := congrArg Int32.toInt z2; omega) (byt_m (i := 0) z8 e12 (by omega) (by decide)) (byt_m (i := 1) z38 e42 (by omega) (by decide)) (byt_m (i := 2) z68 e72 (by omega) (by decide)) (byt_m (i := 3) z98 e102 (by omega) (by decide)))⟩ dX12_four_36
          ·
            exfalso; omega
def po_X12_four_q1 (τ : Tau)  (a0 : Int32)   (u : Tau) : Prop := Inv u ∧ Fr [(131, 2)] [132] τ u ∧ R (8) (928) (u 131 2) ∧ (u 131 2).toInt = (τ 131 2).toInt + 4 ∧ AP τ u 132 (τ 131 2).toInt.toNat 4 (byt a0)
set_option maxHeartbeats 4000000 in
set_option maxRecDepth 100000 in
theorem c_X12_four_q1 (l : Launch) (G : Gx) (τ : Tau) (hI : Inv τ) (a0 : Int32) (h_a0 : R (-2147483648) (2147483647) a0) (hf_0 : R (4) (924) (τ 131 2)) : Cv l G yX12_four cX12_four 3 0 0 [.ref (G.2.2.2.1 131), .int a0] τ (po_X12_four_q1 τ  a0  ) := by
  unfold Cv
  refine C_of (own := RX12) (by decide) rfl (Nat.le_of_ble_eq_true rfl) ?_
  intro p e s m below meth c ls S hr hlk X hl
  have hl : lv_has ls 3 [(0, .ref (G.2.2.2.1 131)), (1, .int a0)] := hl
  obtain ⟨v1, z2⟩ : ∃ x, τ 131 2 = x := ⟨_, rfl⟩
  rw [z2] at hf_0
  refine r_bipush S dX12_four_0 (by decide) (fun v3 z4 => ?_)
  have r5 := R_eq z4
  refine r_istore_n (lv' := [(2, .int v3), (0, .ref (G.2.2.2.1 131)), (1, .int a0)]) S dX12_four_2 rfl hl (by decide) rfl (fun ls hl => ?_)
  refine r_iload_n S dX12_four_3 rfl (lv_at hl 0 rfl) ?_
  refine r_if_lt (tgt := 36) S dX12_four_4 (by decide) (fun c6 => ?_) (fun c6 => ?_)
  ·
    exfalso; omega
  ·
    refine r_aload_n S dX12_four_7 rfl (lv_at hl 1 rfl) ?_
    refine r_get (K := 38) (v := .ref (G.2.2.2.1 132)) S X (Nat.le_of_ble_eq_true rfl) rfl lk12_14_10 (fun _ => ⟨_, rfl, rfl⟩) dX12_four_8 ?_
    refine r_aload_n S dX12_four_11 rfl (lv_at hl 1 rfl) ?_
    refine r_geti (K := 38) S X (Nat.le_of_ble_eq_true rfl) rfl lk12_7_10 (fun _ => ⟨_, rfl, rfl⟩) z2 dX12_four_12 ?_
    refine r_iload_n S dX12_four_15 rfl (lv_at hl 2 rfl) ?_
    refine r_iload_n S dX12_four_16 rfl (lv_at hl 0 rfl) ?_
    refine r_ishr S dX12_four_17 (fun v7 z8 => ?_)
    have r9 := R_any v7
    refine r_i2bq S dX12_four_18 (fun v10 r11 e12 => ?_)
    refine r_bast (n := 940) (K := 39) S X (Nat.le_of_ble_eq_true rfl) rfl (fun _ _ => rfl) (ix_of hf_0 rfl) (R_of (lo := -128) (hi := 127) r11 rfl) dX12_four_19 (fun t13 H lc M14 X15 => ?_)
    have I16 := Inv_mu hI M14 (show Rg (kd 132) _ v10 from (R_of (lo := -128) (hi := 127) r11 rfl))
    have F17 : Fr [(131, 2)] [132] τ t13 := Fr_cell Fr_rfl M14 (by decide)
    refine r_aload_n S dX12_four_20 rfl (lv_at hl 1 rfl) ?_
    refine r_dup S dX12_four_21 rfl ?_
    refine r_geti (K := 38) S X15 (Nat.le_of_ble_eq_true rfl) rfl lk12_7_10 (fun _ => ⟨_, rfl, rfl⟩) ((M14.2 131 2 (Or.inl (by decide))).trans z2) dX12_four_22 ?_
    refine r_iconst S dX12_four_25 (by decide) (fun v18 z19 => ?_)
    have r20 := R_eq z19
    refine r_iadd S dX12_four_26 (fun v21 z22 => ?_)
    obtain ⟨e23, r24⟩ := i_add (lo := 5) (hi := 925) z22 hf_0 r20 rfl
    refine r_put (K := 38) (ty := .int) S X15 (Nat.le_of_ble_eq_true rfl) rfl lk12_7_10 (fun _ => ⟨_, rfl, Nat.le_of_ble_eq_true rfl, rfl⟩) (fun _ _ _ h => by cases h; exact ⟨rfl, rfl⟩) rfl rfl dX12_four_27 (fun t25 H lc M26 X27 => ?_)
    have I28 := Inv_mu I16 M26 (show Rg (kd 131) 2 v21 from (R_of (lo := 0) (hi := 940) r24 rfl))
    have F29 : Fr [(131, 2)] [132] τ t25 := Fr_mu F17 M26 (by decide)
    refine r_iinc (k := 0) S dX12_four_30 hl rfl (by decide) (by decide) (fun v30 d31 ls z32 z33 hl => ?_)
    obtain ⟨e34, r35⟩ := i_add (lo := 16) (hi := 16) z32 r5 (R_eq z33) rfl
    have hl : lv_has ls 3 [(2, .int v30), (0, .ref (G.2.2.2.1 131)), (1, .int a0)] := hl
    refine r_goto (tgt := 3) S dX12_four_33 (by decide) ?_
    refine r_iload_n S dX12_four_3 rfl (lv_at hl 0 rfl) ?_
    refine r_if_lt (tgt := 36) S dX12_four_4 (by decide) (fun c36 => ?_) (fun c36 => ?_)
    ·
      exfalso; omega
    ·
      refine r_aload_n S dX12_four_7 rfl (lv_at hl 1 rfl) ?_
      refine r_get (K := 38) (v := .ref (G.2.2.2.1 132)) S X27 (Nat.le_of_ble_eq_true rfl) rfl lk12_14_10 (fun _ => ⟨_, rfl, rfl⟩) dX12_four_8 ?_
      refine r_aload_n S dX12_four_11 rfl (lv_at hl 1 rfl) ?_
      refine r_geti (K := 38) S X27 (Nat.le_of_ble_eq_true rfl) rfl lk12_7_10 (fun _ => ⟨_, rfl, rfl⟩) M26.1 dX12_four_12 ?_
      refine r_iload_n S dX12_four_15 rfl (lv_at hl 2 rfl) ?_
      refine r_iload_n S dX12_four_16 rfl (lv_at hl 0 rfl) ?_
      refine r_ishr S dX12_four_17 (fun v37 z38 => ?_)
      have r39 := R_any v37
      refine r_i2bq S dX12_four_18 (fun v40 r41 e42 => ?_)
      refine r_bast (n := 940) (K := 39) S X27 (Nat.le_of_ble_eq_true rfl) rfl (fun _ _ => rfl) (ix_of r24 rfl) (R_of (lo := -128) (hi := 127) r41 rfl) dX12_four_19 (fun t43 H lc M44 X45 => ?_)
      have I46 := Inv_mu I28 M44 (show Rg (kd 132) _ v40 from (R_of (lo := -128) (hi := 127) r41 rfl))
      have F47 : Fr [(131, 2)] [132] τ t43 := Fr_cell F29 M44 (by decide)
      refine r_aload_n S dX12_four_20 rfl (lv_at hl 1 rfl) ?_
      refine r_dup S dX12_four_21 rfl ?_
      refine r_geti (K := 38) S X45 (Nat.le_of_ble_eq_true rfl) rfl lk12_7_10 (fun _ => ⟨_, rfl, rfl⟩) ((M44.2 131 2 (Or.inl (by decide))).trans M26.1) dX12_four_22 ?_
      refine r_iconst S dX12_four_25 (by decide) (fun v48 z49 => ?_)
      have r50 := R_eq z49
      refine r_iadd S dX12_four_26 (fun v51 z52 => ?_)
      obtain ⟨e53, r54⟩ := i_add (lo := 6) (hi := 926) z52 r24 r50 rfl
      refine r_put (K := 38) (ty := .int) S X45 (Nat.le_of_ble_eq_true rfl) rfl lk12_7_10 (fun _ => ⟨_, rfl, Nat.le_of_ble_eq_true rfl, rfl⟩) (fun _ _ _ h => by cases h; exact ⟨rfl, rfl⟩) rfl rfl dX12_four_27 (fun t55 H lc M56 X57 => ?_)
      have I58 := Inv_mu I46 M56 (show Rg (kd 131) 2 v51 from (R_of (lo := 0) (hi := 940) r54 rfl))
      have F59 : Fr [(131, 2)] [132] τ t55 := Fr_mu F47 M56 (by decide)
      refine r_iinc (k := 0) S dX12_four_30 hl rfl (by decide) (by decide) (fun v60 d61 ls z62 z63 hl => ?_)
      obtain ⟨e64, r65⟩ := i_add (lo := 8) (hi := 8) z62 r35 (R_eq z63) rfl
      have hl : lv_has ls 3 [(2, .int v60), (0, .ref (G.2.2.2.1 131)), (1, .int a0)] := hl
      refine r_goto (tgt := 3) S dX12_four_33 (by decide) ?_
      refine r_iload_n S dX12_four_3 rfl (lv_at hl 0 rfl) ?_
      refine r_if_lt (tgt := 36) S dX12_four_4 (by decide) (fun c66 => ?_) (fun c66 => ?_)
      ·
        exfalso; omega
      ·
        refine r_aload_n S dX12_four_7 rfl (lv_at hl 1 rfl) ?_
        refine r_get (K := 38) (v := .ref (G.2.2.2.1 132)) S X57 (Nat.le_of_ble_eq_true rfl) rfl lk12_14_10 (fun _ => ⟨_, rfl, rfl⟩) dX12_four_8 ?_
        refine r_aload_n S dX12_four_11 rfl (lv_at hl 1 rfl) ?_
        refine r_geti (K := 38) S X57 (Nat.le_of_ble_eq_true rfl) rfl lk12_7_10 (fun _ => ⟨_, rfl, rfl⟩) M56.1 dX12_four_12 ?_
        refine r_iload_n S dX12_four_15 rfl (lv_at hl 2 rfl) ?_
        refine r_iload_n S dX12_four_16 rfl (lv_at hl 0 rfl) ?_
        refine r_ishr S dX12_four_17 (fun v67 z68 => ?_)
        have r69 := R_any v67
        refine r_i2bq S dX12_four_18 (fun v70 r71 e72 => ?_)
        refine r_bast (n := 940) (K := 39) S X57 (Nat.le_of_ble_eq_true rfl) rfl (fun _ _ => rfl) (ix_of r54 rfl) (R_of (lo := -128) (hi := 127) r71 rfl) dX12_four_19 (fun t73 H lc M74 X75 => ?_)
        have I76 := Inv_mu I58 M74 (show Rg (kd 132) _ v70 from (R_of (lo := -128) (hi := 127) r71 rfl))
        have F77 : Fr [(131, 2)] [132] τ t73 := Fr_cell F59 M74 (by decide)
        refine r_aload_n S dX12_four_20 rfl (lv_at hl 1 rfl) ?_
        refine r_dup S dX12_four_21 rfl ?_
        refine r_geti (K := 38) S X75 (Nat.le_of_ble_eq_true rfl) rfl lk12_7_10 (fun _ => ⟨_, rfl, rfl⟩) ((M74.2 131 2 (Or.inl (by decide))).trans M56.1) dX12_four_22 ?_
        refine r_iconst S dX12_four_25 (by decide) (fun v78 z79 => ?_)
        have r80 := R_eq z79
        refine r_iadd S dX12_four_26 (fun v81 z82 => ?_)
        obtain ⟨e83, r84⟩ := i_add (lo := 7) (hi := 927) z82 r54 r80 rfl
        refine r_put (K := 38) (ty := .int) S X75 (Nat.le_of_ble_eq_true rfl) rfl lk12_7_10 (fun _ => ⟨_, rfl, Nat.le_of_ble_eq_true rfl, rfl⟩) (fun _ _ _ h => by cases h; exact ⟨rfl, rfl⟩) rfl rfl dX12_four_27 (fun t85 H lc M86 X87 => ?_)
        have I88 := Inv_mu I76 M86 (show Rg (kd 131) 2 v81 from (R_of (lo := 0) (hi := 940) r84 rfl))
        have F89 : Fr [(131, 2)] [132] τ t85 := Fr_mu F77 M86 (by decide)
        refine r_iinc (k := 0) S dX12_four_30 hl rfl (by decide) (by decide) (fun v90 d91 ls z92 z93 hl => ?_)
        obtain ⟨e94, r95⟩ := i_add (lo := 0) (hi := 0) z92 r65 (R_eq z93) rfl
        have hl : lv_has ls 3 [(2, .int v90), (0, .ref (G.2.2.2.1 131)), (1, .int a0)] := hl
        refine r_goto (tgt := 3) S dX12_four_33 (by decide) ?_
        refine r_iload_n S dX12_four_3 rfl (lv_at hl 0 rfl) ?_
        refine r_if_lt (tgt := 36) S dX12_four_4 (by decide) (fun c96 => ?_) (fun c96 => ?_)
        ·
          exfalso; omega
        ·
          refine r_aload_n S dX12_four_7 rfl (lv_at hl 1 rfl) ?_
          refine r_get (K := 38) (v := .ref (G.2.2.2.1 132)) S X87 (Nat.le_of_ble_eq_true rfl) rfl lk12_14_10 (fun _ => ⟨_, rfl, rfl⟩) dX12_four_8 ?_
          refine r_aload_n S dX12_four_11 rfl (lv_at hl 1 rfl) ?_
          refine r_geti (K := 38) S X87 (Nat.le_of_ble_eq_true rfl) rfl lk12_7_10 (fun _ => ⟨_, rfl, rfl⟩) M86.1 dX12_four_12 ?_
          refine r_iload_n S dX12_four_15 rfl (lv_at hl 2 rfl) ?_
          refine r_iload_n S dX12_four_16 rfl (lv_at hl 0 rfl) ?_
          refine r_ishr S dX12_four_17 (fun v97 z98 => ?_)
          have r99 := R_any v97
          refine r_i2bq S dX12_four_18 (fun v100 r101 e102 => ?_)
          refine r_bast (n := 940) (K := 39) S X87 (Nat.le_of_ble_eq_true rfl) rfl (fun _ _ => rfl) (ix_of r84 rfl) (R_of (lo := -128) (hi := 127) r101 rfl) dX12_four_19 (fun t103 H lc M104 X105 => ?_)
          have I106 := Inv_mu I88 M104 (show Rg (kd 132) _ v100 from (R_of (lo := -128) (hi := 127) r101 rfl))
          have F107 : Fr [(131, 2)] [132] τ t103 := Fr_cell F89 M104 (by decide)
          refine r_aload_n S dX12_four_20 rfl (lv_at hl 1 rfl) ?_
          refine r_dup S dX12_four_21 rfl ?_
          refine r_geti (K := 38) S X105 (Nat.le_of_ble_eq_true rfl) rfl lk12_7_10 (fun _ => ⟨_, rfl, rfl⟩) ((M104.2 131 2 (Or.inl (by decide))).trans M86.1) dX12_four_22 ?_
          refine r_iconst S dX12_four_25 (by decide) (fun v108 z109 => ?_)
          have r110 := R_eq z109
          refine r_iadd S dX12_four_26 (fun v111 z112 => ?_)
          obtain ⟨e113, r114⟩ := i_add (lo := 8) (hi := 928) z112 r84 r110 rfl
          refine r_put (K := 38) (ty := .int) S X105 (Nat.le_of_ble_eq_true rfl) rfl lk12_7_10 (fun _ => ⟨_, rfl, Nat.le_of_ble_eq_true rfl, rfl⟩) (fun _ _ _ h => by cases h; exact ⟨rfl, rfl⟩) rfl rfl dX12_four_27 (fun t115 H lc M116 X117 => ?_)
          have I118 := Inv_mu I106 M116 (show Rg (kd 131) 2 v111 from (R_of (lo := 0) (hi := 940) r114 rfl))
          have F119 : Fr [(131, 2)] [132] τ t115 := Fr_mu F107 M116 (by decide)
          refine r_iinc (k := 0) S dX12_four_30 hl rfl (by decide) (by decide) (fun v120 d121 ls z122 z123 hl => ?_)
          obtain ⟨e124, r125⟩ := i_add (lo := -8) (hi := -8) z122 r95 (R_eq z123) rfl
          have hl : lv_has ls 3 [(2, .int v120), (0, .ref (G.2.2.2.1 131)), (1, .int a0)] := hl
          refine r_goto (tgt := 3) S dX12_four_33 (by decide) ?_
          refine r_iload_n S dX12_four_3 rfl (lv_at hl 0 rfl) ?_
          refine r_if_lt (tgt := 36) S dX12_four_4 (by decide) (fun c126 => ?_) (fun c126 => ?_)
          ·
            exact r_vret S hr hlk X117 ⟨I118, F119, (by rw [M116.1]; exact R_of r114 rfl), (by have h1_0 := congrArg Int32.toInt M116.1; have h2_0 := congrArg Int32.toInt z2; omega), (AP_4 M14 (fun j => ((M26.2 132 j (Or.inl (by decide))).trans rfl)) M44 (fun j => ((M56.2 132 j (Or.inl (by decide))).trans rfl)) M74 (fun j => ((M86.2 132 j (Or.inl (by decide))).trans rfl)) M104 (fun j => ((M116.2 132 j (Or.inl (by decide))).trans rfl)) (by have q := congrArg Int32.toInt z2; omega) (by have q := congrArg Int32.toInt z2; omega) (by have q := congrArg Int32.toInt z2; omega) (by have q := congrArg Int32.toInt z2; omega) (by have q := congrArg Int32.toInt z2; omega) (byt_m (i := 0) z8 e12 (by omega) (by decide)) (byt_m (i := 1) z38 e42 (by omega) (by decide)) (byt_m (i := 2) z68 e72 (by omega) (by decide)) (byt_m (i := 3) z98 e102 (by omega) (by decide)))⟩ dX12_four_36
          ·
            exfalso; omega
def po_X12_four_q2 (τ : Tau)  (a0 : Int32)   (u : Tau) : Prop := Inv u ∧ Fr [(131, 2)] [132] τ u ∧ R (12) (932) (u 131 2) ∧ (u 131 2).toInt = (τ 131 2).toInt + 4 ∧ AP τ u 132 (τ 131 2).toInt.toNat 4 (byt a0)
set_option maxHeartbeats 4000000 in
set_option maxRecDepth 100000 in
theorem c_X12_four_q2 (l : Launch) (G : Gx) (τ : Tau) (hI : Inv τ) (a0 : Int32) (h_a0 : R (-2147483648) (2147483647) a0) (hf_0 : R (8) (928) (τ 131 2)) : Cv l G yX12_four cX12_four 3 0 0 [.ref (G.2.2.2.1 131), .int a0] τ (po_X12_four_q2 τ  a0  ) := by
  unfold Cv
  refine C_of (own := RX12) (by decide) rfl (Nat.le_of_ble_eq_true rfl) ?_
  intro p e s m below meth c ls S hr hlk X hl
  have hl : lv_has ls 3 [(0, .ref (G.2.2.2.1 131)), (1, .int a0)] := hl
  obtain ⟨v1, z2⟩ : ∃ x, τ 131 2 = x := ⟨_, rfl⟩
  rw [z2] at hf_0
  refine r_bipush S dX12_four_0 (by decide) (fun v3 z4 => ?_)
  have r5 := R_eq z4
  refine r_istore_n (lv' := [(2, .int v3), (0, .ref (G.2.2.2.1 131)), (1, .int a0)]) S dX12_four_2 rfl hl (by decide) rfl (fun ls hl => ?_)
  refine r_iload_n S dX12_four_3 rfl (lv_at hl 0 rfl) ?_
  refine r_if_lt (tgt := 36) S dX12_four_4 (by decide) (fun c6 => ?_) (fun c6 => ?_)
  ·
    exfalso; omega
  ·
    refine r_aload_n S dX12_four_7 rfl (lv_at hl 1 rfl) ?_
    refine r_get (K := 38) (v := .ref (G.2.2.2.1 132)) S X (Nat.le_of_ble_eq_true rfl) rfl lk12_14_10 (fun _ => ⟨_, rfl, rfl⟩) dX12_four_8 ?_
    refine r_aload_n S dX12_four_11 rfl (lv_at hl 1 rfl) ?_
    refine r_geti (K := 38) S X (Nat.le_of_ble_eq_true rfl) rfl lk12_7_10 (fun _ => ⟨_, rfl, rfl⟩) z2 dX12_four_12 ?_
    refine r_iload_n S dX12_four_15 rfl (lv_at hl 2 rfl) ?_
    refine r_iload_n S dX12_four_16 rfl (lv_at hl 0 rfl) ?_
    refine r_ishr S dX12_four_17 (fun v7 z8 => ?_)
    have r9 := R_any v7
    refine r_i2bq S dX12_four_18 (fun v10 r11 e12 => ?_)
    refine r_bast (n := 940) (K := 39) S X (Nat.le_of_ble_eq_true rfl) rfl (fun _ _ => rfl) (ix_of hf_0 rfl) (R_of (lo := -128) (hi := 127) r11 rfl) dX12_four_19 (fun t13 H lc M14 X15 => ?_)
    have I16 := Inv_mu hI M14 (show Rg (kd 132) _ v10 from (R_of (lo := -128) (hi := 127) r11 rfl))
    have F17 : Fr [(131, 2)] [132] τ t13 := Fr_cell Fr_rfl M14 (by decide)
    refine r_aload_n S dX12_four_20 rfl (lv_at hl 1 rfl) ?_
    refine r_dup S dX12_four_21 rfl ?_
    refine r_geti (K := 38) S X15 (Nat.le_of_ble_eq_true rfl) rfl lk12_7_10 (fun _ => ⟨_, rfl, rfl⟩) ((M14.2 131 2 (Or.inl (by decide))).trans z2) dX12_four_22 ?_
    refine r_iconst S dX12_four_25 (by decide) (fun v18 z19 => ?_)
    have r20 := R_eq z19
    refine r_iadd S dX12_four_26 (fun v21 z22 => ?_)
    obtain ⟨e23, r24⟩ := i_add (lo := 9) (hi := 929) z22 hf_0 r20 rfl
    refine r_put (K := 38) (ty := .int) S X15 (Nat.le_of_ble_eq_true rfl) rfl lk12_7_10 (fun _ => ⟨_, rfl, Nat.le_of_ble_eq_true rfl, rfl⟩) (fun _ _ _ h => by cases h; exact ⟨rfl, rfl⟩) rfl rfl dX12_four_27 (fun t25 H lc M26 X27 => ?_)
    have I28 := Inv_mu I16 M26 (show Rg (kd 131) 2 v21 from (R_of (lo := 0) (hi := 940) r24 rfl))
    have F29 : Fr [(131, 2)] [132] τ t25 := Fr_mu F17 M26 (by decide)
    refine r_iinc (k := 0) S dX12_four_30 hl rfl (by decide) (by decide) (fun v30 d31 ls z32 z33 hl => ?_)
    obtain ⟨e34, r35⟩ := i_add (lo := 16) (hi := 16) z32 r5 (R_eq z33) rfl
    have hl : lv_has ls 3 [(2, .int v30), (0, .ref (G.2.2.2.1 131)), (1, .int a0)] := hl
    refine r_goto (tgt := 3) S dX12_four_33 (by decide) ?_
    refine r_iload_n S dX12_four_3 rfl (lv_at hl 0 rfl) ?_
    refine r_if_lt (tgt := 36) S dX12_four_4 (by decide) (fun c36 => ?_) (fun c36 => ?_)
    ·
      exfalso; omega
    ·
      refine r_aload_n S dX12_four_7 rfl (lv_at hl 1 rfl) ?_
      refine r_get (K := 38) (v := .ref (G.2.2.2.1 132)) S X27 (Nat.le_of_ble_eq_true rfl) rfl lk12_14_10 (fun _ => ⟨_, rfl, rfl⟩) dX12_four_8 ?_
      refine r_aload_n S dX12_four_11 rfl (lv_at hl 1 rfl) ?_
      refine r_geti (K := 38) S X27 (Nat.le_of_ble_eq_true rfl) rfl lk12_7_10 (fun _ => ⟨_, rfl, rfl⟩) M26.1 dX12_four_12 ?_
      refine r_iload_n S dX12_four_15 rfl (lv_at hl 2 rfl) ?_
      refine r_iload_n S dX12_four_16 rfl (lv_at hl 0 rfl) ?_
      refine r_ishr S dX12_four_17 (fun v37 z38 => ?_)
      have r39 := R_any v37
      refine r_i2bq S dX12_four_18 (fun v40 r41 e42 => ?_)
      refine r_bast (n := 940) (K := 39) S X27 (Nat.le_of_ble_eq_true rfl) rfl (fun _ _ => rfl) (ix_of r24 rfl) (R_of (lo := -128) (hi := 127) r41 rfl) dX12_four_19 (fun t43 H lc M44 X45 => ?_)
      have I46 := Inv_mu I28 M44 (show Rg (kd 132) _ v40 from (R_of (lo := -128) (hi := 127) r41 rfl))
      have F47 : Fr [(131, 2)] [132] τ t43 := Fr_cell F29 M44 (by decide)
      refine r_aload_n S dX12_four_20 rfl (lv_at hl 1 rfl) ?_
      refine r_dup S dX12_four_21 rfl ?_
      refine r_geti (K := 38) S X45 (Nat.le_of_ble_eq_true rfl) rfl lk12_7_10 (fun _ => ⟨_, rfl, rfl⟩) ((M44.2 131 2 (Or.inl (by decide))).trans M26.1) dX12_four_22 ?_
      refine r_iconst S dX12_four_25 (by decide) (fun v48 z49 => ?_)
      have r50 := R_eq z49
      refine r_iadd S dX12_four_26 (fun v51 z52 => ?_)
      obtain ⟨e53, r54⟩ := i_add (lo := 10) (hi := 930) z52 r24 r50 rfl
      refine r_put (K := 38) (ty := .int) S X45 (Nat.le_of_ble_eq_true rfl) rfl lk12_7_10 (fun _ => ⟨_, rfl, Nat.le_of_ble_eq_true rfl, rfl⟩) (fun _ _ _ h => by cases h; exact ⟨rfl, rfl⟩) rfl rfl dX12_four_27 (fun t55 H lc M56 X57 => ?_)
      have I58 := Inv_mu I46 M56 (show Rg (kd 131) 2 v51 from (R_of (lo := 0) (hi := 940) r54 rfl))
      have F59 : Fr [(131, 2)] [132] τ t55 := Fr_mu F47 M56 (by decide)
      refine r_iinc (k := 0) S dX12_four_30 hl rfl (by decide) (by decide) (fun v60 d61 ls z62 z63 hl => ?_)
      obtain ⟨e64, r65⟩ := i_add (lo := 8) (hi := 8) z62 r35 (R_eq z63) rfl
      have hl : lv_has ls 3 [(2, .int v60), (0, .ref (G.2.2.2.1 131)), (1, .int a0)] := hl
      refine r_goto (tgt := 3) S dX12_four_33 (by decide) ?_
      refine r_iload_n S dX12_four_3 rfl (lv_at hl 0 rfl) ?_
      refine r_if_lt (tgt := 36) S dX12_four_4 (by decide) (fun c66 => ?_) (fun c66 => ?_)
      ·
        exfalso; omega
      ·
        refine r_aload_n S dX12_four_7 rfl (lv_at hl 1 rfl) ?_
        refine r_get (K := 38) (v := .ref (G.2.2.2.1 132)) S X57 (Nat.le_of_ble_eq_true rfl) rfl lk12_14_10 (fun _ => ⟨_, rfl, rfl⟩) dX12_four_8 ?_
        refine r_aload_n S dX12_four_11 rfl (lv_at hl 1 rfl) ?_
        refine r_geti (K := 38) S X57 (Nat.le_of_ble_eq_true rfl) rfl lk12_7_10 (fun _ => ⟨_, rfl, rfl⟩) M56.1 dX12_four_12 ?_
        refine r_iload_n S dX12_four_15 rfl (lv_at hl 2 rfl) ?_
        refine r_iload_n S dX12_four_16 rfl (lv_at hl 0 rfl) ?_
        refine r_ishr S dX12_four_17 (fun v67 z68 => ?_)
        have r69 := R_any v67
        refine r_i2bq S dX12_four_18 (fun v70 r71 e72 => ?_)
        refine r_bast (n := 940) (K := 39) S X57 (Nat.le_of_ble_eq_true rfl) rfl (fun _ _ => rfl) (ix_of r54 rfl) (R_of (lo := -128) (hi := 127) r71 rfl) dX12_four_19 (fun t73 H lc M74 X75 => ?_)
        have I76 := Inv_mu I58 M74 (show Rg (kd 132) _ v70 from (R_of (lo := -128) (hi := 127) r71 rfl))
        have F77 : Fr [(131, 2)] [132] τ t73 := Fr_cell F59 M74 (by decide)
        refine r_aload_n S dX12_four_20 rfl (lv_at hl 1 rfl) ?_
        refine r_dup S dX12_four_21 rfl ?_
        refine r_geti (K := 38) S X75 (Nat.le_of_ble_eq_true rfl) rfl lk12_7_10 (fun _ => ⟨_, rfl, rfl⟩) ((M74.2 131 2 (Or.inl (by decide))).trans M56.1) dX12_four_22 ?_
        refine r_iconst S dX12_four_25 (by decide) (fun v78 z79 => ?_)
        have r80 := R_eq z79
        refine r_iadd S dX12_four_26 (fun v81 z82 => ?_)
        obtain ⟨e83, r84⟩ := i_add (lo := 11) (hi := 931) z82 r54 r80 rfl
        refine r_put (K := 38) (ty := .int) S X75 (Nat.le_of_ble_eq_true rfl) rfl lk12_7_10 (fun _ => ⟨_, rfl, Nat.le_of_ble_eq_true rfl, rfl⟩) (fun _ _ _ h => by cases h; exact ⟨rfl, rfl⟩) rfl rfl dX12_four_27 (fun t85 H lc M86 X87 => ?_)
        have I88 := Inv_mu I76 M86 (show Rg (kd 131) 2 v81 from (R_of (lo := 0) (hi := 940) r84 rfl))
        have F89 : Fr [(131, 2)] [132] τ t85 := Fr_mu F77 M86 (by decide)
        refine r_iinc (k := 0) S dX12_four_30 hl rfl (by decide) (by decide) (fun v90 d91 ls z92 z93 hl => ?_)
        obtain ⟨e94, r95⟩ := i_add (lo := 0) (hi := 0) z92 r65 (R_eq z93) rfl
        have hl : lv_has ls 3 [(2, .int v90), (0, .ref (G.2.2.2.1 131)), (1, .int a0)] := hl
        refine r_goto (tgt := 3) S dX12_four_33 (by decide) ?_
        refine r_iload_n S dX12_four_3 rfl (lv_at hl 0 rfl) ?_
        refine r_if_lt (tgt := 36) S dX12_four_4 (by decide) (fun c96 => ?_) (fun c96 => ?_)
        ·
          exfalso; omega
        ·
          refine r_aload_n S dX12_four_7 rfl (lv_at hl 1 rfl) ?_
          refine r_get (K := 38) (v := .ref (G.2.2.2.1 132)) S X87 (Nat.le_of_ble_eq_true rfl) rfl lk12_14_10 (fun _ => ⟨_, rfl, rfl⟩) dX12_four_8 ?_
          refine r_aload_n S dX12_four_11 rfl (lv_at hl 1 rfl) ?_
          refine r_geti (K := 38) S X87 (Nat.le_of_ble_eq_true rfl) rfl lk12_7_10 (fun _ => ⟨_, rfl, rfl⟩) M86.1 dX12_four_12 ?_
          refine r_iload_n S dX12_four_15 rfl (lv_at hl 2 rfl) ?_
          refine r_iload_n S dX12_four_16 rfl (lv_at hl 0 rfl) ?_
          refine r_ishr S dX12_four_17 (fun v97 z98 => ?_)
          have r99 := R_any v97
          refine r_i2bq S dX12_four_18 (fun v100 r101 e102 => ?_)
          refine r_bast (n := 940) (K := 39) S X87 (Nat.le_of_ble_eq_true rfl) rfl (fun _ _ => rfl) (ix_of r84 rfl) (R_of (lo := -128) (hi := 127) r101 rfl) dX12_four_19 (fun t103 H lc M104 X105 => ?_)
          have I106 := Inv_mu I88 M104 (show Rg (kd 132) _ v100 from (R_of (lo := -128) (hi := 127) r101 rfl))
          have F107 : Fr [(131, 2)] [132] τ t103 := Fr_cell F89 M104 (by decide)
          refine r_aload_n S dX12_four_20 rfl (lv_at hl 1 rfl) ?_
          refine r_dup S dX12_four_21 rfl ?_
          refine r_geti (K := 38) S X105 (Nat.le_of_ble_eq_true rfl) rfl lk12_7_10 (fun _ => ⟨_, rfl, rfl⟩) ((M104.2 131 2 (Or.inl (by decide))).trans M86.1) dX12_four_22 ?_
          refine r_iconst S dX12_four_25 (by decide) (fun v108 z109 => ?_)
          have r110 := R_eq z109
          refine r_iadd S dX12_four_26 (fun v111 z112 => ?_)
          obtain ⟨e113, r114⟩ := i_add (lo := 12) (hi := 932) z112 r84 r110 rfl
          refine r_put (K := 38) (ty := .int) S X105 (Nat.le_of_ble_eq_true rfl) rfl lk12_7_10 (fun _ => ⟨_, rfl, Nat.le_of_ble_eq_true rfl, rfl⟩) (fun _ _ _ h => by cases h; exact ⟨rfl, rfl⟩) rfl rfl dX12_four_27 (fun t115 H lc M116 X117 => ?_)
          have I118 := Inv_mu I106 M116 (show Rg (kd 131) 2 v111 from (R_of (lo := 0) (hi := 940) r114 rfl))
          have F119 : Fr [(131, 2)] [132] τ t115 := Fr_mu F107 M116 (by decide)
          refine r_iinc (k := 0) S dX12_four_30 hl rfl (by decide) (by decide) (fun v120 d121 ls z122 z123 hl => ?_)
          obtain ⟨e124, r125⟩ := i_add (lo := -8) (hi := -8) z122 r95 (R_eq z123) rfl
          have hl : lv_has ls 3 [(2, .int v120), (0, .ref (G.2.2.2.1 131)), (1, .int a0)] := hl
          refine r_goto (tgt := 3) S dX12_four_33 (by decide) ?_
          refine r_iload_n S dX12_four_3 rfl (lv_at hl 0 rfl) ?_
          refine r_if_lt (tgt := 36) S dX12_four_4 (by decide) (fun c126 => ?_) (fun c126 => ?_)
          ·
            exact r_vret S hr hlk X117 ⟨I118, F119, (by rw [M116.1]; exact R_of r114 rfl), (by have h1_0 := congrArg Int32.toInt M116.1; have h2_0 := congrArg Int32.toInt z2; omega), (AP_4 M14 (fun j => ((M26.2 132 j (Or.inl (by decide))).trans rfl)) M44 (fun j => ((M56.2 132 j (Or.inl (by decide))).trans rfl)) M74 (fun j => ((M86.2 132 j (Or.inl (by decide))).trans rfl)) M104 (fun j => ((M116.2 132 j (Or.inl (by decide))).trans rfl)) (by have q := congrArg Int32.toInt z2; omega) (by have q := congrArg Int32.toInt z2; omega) (by have q := congrArg Int32.toInt z2; omega) (by have q := congrArg Int32.toInt z2; omega) (by have q := congrArg Int32.toInt z2; omega) (byt_m (i := 0) z8 e12 (by omega) (by decide)) (byt_m (i := 1) z38 e42 (by omega) (by decide)) (byt_m (i := 2) z68 e72 (by omega) (by decide)) (byt_m (i := 3) z98 e102 (by omega) (by decide)))⟩ dX12_four_36
          ·
            exfalso; omega
def po_X12_four_q3 (τ : Tau)  (a0 : Int32)   (u : Tau) : Prop := Inv u ∧ Fr [(131, 2)] [132] τ u ∧ R (16) (936) (u 131 2) ∧ (u 131 2).toInt = (τ 131 2).toInt + 4 ∧ AP τ u 132 (τ 131 2).toInt.toNat 4 (byt a0)
set_option maxHeartbeats 4000000 in
set_option maxRecDepth 100000 in
theorem c_X12_four_q3 (l : Launch) (G : Gx) (τ : Tau) (hI : Inv τ) (a0 : Int32) (h_a0 : R (-2147483648) (2147483647) a0) (hf_0 : R (12) (932) (τ 131 2)) : Cv l G yX12_four cX12_four 3 0 0 [.ref (G.2.2.2.1 131), .int a0] τ (po_X12_four_q3 τ  a0  ) := by
  unfold Cv
  refine C_of (own := RX12) (by decide) rfl (Nat.le_of_ble_eq_true rfl) ?_
  intro p e s m below meth c ls S hr hlk X hl
  have hl : lv_has ls 3 [(0, .ref (G.2.2.2.1 131)), (1, .int a0)] := hl
  obtain ⟨v1, z2⟩ : ∃ x, τ 131 2 = x := ⟨_, rfl⟩
  rw [z2] at hf_0
  refine r_bipush S dX12_four_0 (by decide) (fun v3 z4 => ?_)
  have r5 := R_eq z4
  refine r_istore_n (lv' := [(2, .int v3), (0, .ref (G.2.2.2.1 131)), (1, .int a0)]) S dX12_four_2 rfl hl (by decide) rfl (fun ls hl => ?_)
  refine r_iload_n S dX12_four_3 rfl (lv_at hl 0 rfl) ?_
  refine r_if_lt (tgt := 36) S dX12_four_4 (by decide) (fun c6 => ?_) (fun c6 => ?_)
  ·
    exfalso; omega
  ·
    refine r_aload_n S dX12_four_7 rfl (lv_at hl 1 rfl) ?_
    refine r_get (K := 38) (v := .ref (G.2.2.2.1 132)) S X (Nat.le_of_ble_eq_true rfl) rfl lk12_14_10 (fun _ => ⟨_, rfl, rfl⟩) dX12_four_8 ?_
    refine r_aload_n S dX12_four_11 rfl (lv_at hl 1 rfl) ?_
    refine r_geti (K := 38) S X (Nat.le_of_ble_eq_true rfl) rfl lk12_7_10 (fun _ => ⟨_, rfl, rfl⟩) z2 dX12_four_12 ?_
    refine r_iload_n S dX12_four_15 rfl (lv_at hl 2 rfl) ?_
    refine r_iload_n S dX12_four_16 rfl (lv_at hl 0 rfl) ?_
    refine r_ishr S dX12_four_17 (fun v7 z8 => ?_)
    have r9 := R_any v7
    refine r_i2bq S dX12_four_18 (fun v10 r11 e12 => ?_)
    refine r_bast (n := 940) (K := 39) S X (Nat.le_of_ble_eq_true rfl) rfl (fun _ _ => rfl) (ix_of hf_0 rfl) (R_of (lo := -128) (hi := 127) r11 rfl) dX12_four_19 (fun t13 H lc M14 X15 => ?_)
    have I16 := Inv_mu hI M14 (show Rg (kd 132) _ v10 from (R_of (lo := -128) (hi := 127) r11 rfl))
    have F17 : Fr [(131, 2)] [132] τ t13 := Fr_cell Fr_rfl M14 (by decide)
    refine r_aload_n S dX12_four_20 rfl (lv_at hl 1 rfl) ?_
    refine r_dup S dX12_four_21 rfl ?_
    refine r_geti (K := 38) S X15 (Nat.le_of_ble_eq_true rfl) rfl lk12_7_10 (fun _ => ⟨_, rfl, rfl⟩) ((M14.2 131 2 (Or.inl (by decide))).trans z2) dX12_four_22 ?_
    refine r_iconst S dX12_four_25 (by decide) (fun v18 z19 => ?_)
    have r20 := R_eq z19
    refine r_iadd S dX12_four_26 (fun v21 z22 => ?_)
    obtain ⟨e23, r24⟩ := i_add (lo := 13) (hi := 933) z22 hf_0 r20 rfl
    refine r_put (K := 38) (ty := .int) S X15 (Nat.le_of_ble_eq_true rfl) rfl lk12_7_10 (fun _ => ⟨_, rfl, Nat.le_of_ble_eq_true rfl, rfl⟩) (fun _ _ _ h => by cases h; exact ⟨rfl, rfl⟩) rfl rfl dX12_four_27 (fun t25 H lc M26 X27 => ?_)
    have I28 := Inv_mu I16 M26 (show Rg (kd 131) 2 v21 from (R_of (lo := 0) (hi := 940) r24 rfl))
    have F29 : Fr [(131, 2)] [132] τ t25 := Fr_mu F17 M26 (by decide)
    refine r_iinc (k := 0) S dX12_four_30 hl rfl (by decide) (by decide) (fun v30 d31 ls z32 z33 hl => ?_)
    obtain ⟨e34, r35⟩ := i_add (lo := 16) (hi := 16) z32 r5 (R_eq z33) rfl
    have hl : lv_has ls 3 [(2, .int v30), (0, .ref (G.2.2.2.1 131)), (1, .int a0)] := hl
    refine r_goto (tgt := 3) S dX12_four_33 (by decide) ?_
    refine r_iload_n S dX12_four_3 rfl (lv_at hl 0 rfl) ?_
    refine r_if_lt (tgt := 36) S dX12_four_4 (by decide) (fun c36 => ?_) (fun c36 => ?_)
    ·
      exfalso; omega
    ·
      refine r_aload_n S dX12_four_7 rfl (lv_at hl 1 rfl) ?_
      refine r_get (K := 38) (v := .ref (G.2.2.2.1 132)) S X27 (Nat.le_of_ble_eq_true rfl) rfl lk12_14_10 (fun _ => ⟨_, rfl, rfl⟩) dX12_four_8 ?_
      refine r_aload_n S dX12_four_11 rfl (lv_at hl 1 rfl) ?_
      refine r_geti (K := 38) S X27 (Nat.le_of_ble_eq_true rfl) rfl lk12_7_10 (fun _ => ⟨_, rfl, rfl⟩) M26.1 dX12_four_12 ?_
      refine r_iload_n S dX12_four_15 rfl (lv_at hl 2 rfl) ?_
      refine r_iload_n S dX12_four_16 rfl (lv_at hl 0 rfl) ?_
      refine r_ishr S dX12_four_17 (fun v37 z38 => ?_)
      have r39 := R_any v37
      refine r_i2bq S dX12_four_18 (fun v40 r41 e42 => ?_)
      refine r_bast (n := 940) (K := 39) S X27 (Nat.le_of_ble_eq_true rfl) rfl (fun _ _ => rfl) (ix_of r24 rfl) (R_of (lo := -128) (hi := 127) r41 rfl) dX12_four_19 (fun t43 H lc M44 X45 => ?_)
      have I46 := Inv_mu I28 M44 (show Rg (kd 132) _ v40 from (R_of (lo := -128) (hi := 127) r41 rfl))
      have F47 : Fr [(131, 2)] [132] τ t43 := Fr_cell F29 M44 (by decide)
      refine r_aload_n S dX12_four_20 rfl (lv_at hl 1 rfl) ?_
      refine r_dup S dX12_four_21 rfl ?_
      refine r_geti (K := 38) S X45 (Nat.le_of_ble_eq_true rfl) rfl lk12_7_10 (fun _ => ⟨_, rfl, rfl⟩) ((M44.2 131 2 (Or.inl (by decide))).trans M26.1) dX12_four_22 ?_
      refine r_iconst S dX12_four_25 (by decide) (fun v48 z49 => ?_)
      have r50 := R_eq z49
      refine r_iadd S dX12_four_26 (fun v51 z52 => ?_)
      obtain ⟨e53, r54⟩ := i_add (lo := 14) (hi := 934) z52 r24 r50 rfl
      refine r_put (K := 38) (ty := .int) S X45 (Nat.le_of_ble_eq_true rfl) rfl lk12_7_10 (fun _ => ⟨_, rfl, Nat.le_of_ble_eq_true rfl, rfl⟩) (fun _ _ _ h => by cases h; exact ⟨rfl, rfl⟩) rfl rfl dX12_four_27 (fun t55 H lc M56 X57 => ?_)
      have I58 := Inv_mu I46 M56 (show Rg (kd 131) 2 v51 from (R_of (lo := 0) (hi := 940) r54 rfl))
      have F59 : Fr [(131, 2)] [132] τ t55 := Fr_mu F47 M56 (by decide)
      refine r_iinc (k := 0) S dX12_four_30 hl rfl (by decide) (by decide) (fun v60 d61 ls z62 z63 hl => ?_)
      obtain ⟨e64, r65⟩ := i_add (lo := 8) (hi := 8) z62 r35 (R_eq z63) rfl
      have hl : lv_has ls 3 [(2, .int v60), (0, .ref (G.2.2.2.1 131)), (1, .int a0)] := hl
      refine r_goto (tgt := 3) S dX12_four_33 (by decide) ?_
      refine r_iload_n S dX12_four_3 rfl (lv_at hl 0 rfl) ?_
      refine r_if_lt (tgt := 36) S dX12_four_4 (by decide) (fun c66 => ?_) (fun c66 => ?_)
      ·
        exfalso; omega
      ·
        refine r_aload_n S dX12_four_7 rfl (lv_at hl 1 rfl) ?_
        refine r_get (K := 38) (v := .ref (G.2.2.2.1 132)) S X57 (Nat.le_of_ble_eq_true rfl) rfl lk12_14_10 (fun _ => ⟨_, rfl, rfl⟩) dX12_four_8 ?_
        refine r_aload_n S dX12_four_11 rfl (lv_at hl 1 rfl) ?_
        refine r_geti (K := 38) S X57 (Nat.le_of_ble_eq_true rfl) rfl lk12_7_10 (fun _ => ⟨_, rfl, rfl⟩) M56.1 dX12_four_12 ?_
        refine r_iload_n S dX12_four_15 rfl (lv_at hl 2 rfl) ?_
        refine r_iload_n S dX12_four_16 rfl (lv_at hl 0 rfl) ?_
        refine r_ishr S dX12_four_17 (fun v67 z68 => ?_)
        have r69 := R_any v67
        refine r_i2bq S dX12_four_18 (fun v70 r71 e72 => ?_)
        refine r_bast (n := 940) (K := 39) S X57 (Nat.le_of_ble_eq_true rfl) rfl (fun _ _ => rfl) (ix_of r54 rfl) (R_of (lo := -128) (hi := 127) r71 rfl) dX12_four_19 (fun t73 H lc M74 X75 => ?_)
        have I76 := Inv_mu I58 M74 (show Rg (kd 132) _ v70 from (R_of (lo := -128) (hi := 127) r71 rfl))
        have F77 : Fr [(131, 2)] [132] τ t73 := Fr_cell F59 M74 (by decide)
        refine r_aload_n S dX12_four_20 rfl (lv_at hl 1 rfl) ?_
        refine r_dup S dX12_four_21 rfl ?_
        refine r_geti (K := 38) S X75 (Nat.le_of_ble_eq_true rfl) rfl lk12_7_10 (fun _ => ⟨_, rfl, rfl⟩) ((M74.2 131 2 (Or.inl (by decide))).trans M56.1) dX12_four_22 ?_
        refine r_iconst S dX12_four_25 (by decide) (fun v78 z79 => ?_)
        have r80 := R_eq z79
        refine r_iadd S dX12_four_26 (fun v81 z82 => ?_)
        obtain ⟨e83, r84⟩ := i_add (lo := 15) (hi := 935) z82 r54 r80 rfl
        refine r_put (K := 38) (ty := .int) S X75 (Nat.le_of_ble_eq_true rfl) rfl lk12_7_10 (fun _ => ⟨_, rfl, Nat.le_of_ble_eq_true rfl, rfl⟩) (fun _ _ _ h => by cases h; exact ⟨rfl, rfl⟩) rfl rfl dX12_four_27 (fun t85 H lc M86 X87 => ?_)
        have I88 := Inv_mu I76 M86 (show Rg (kd 131) 2 v81 from (R_of (lo := 0) (hi := 940) r84 rfl))
        have F89 : Fr [(131, 2)] [132] τ t85 := Fr_mu F77 M86 (by decide)
        refine r_iinc (k := 0) S dX12_four_30 hl rfl (by decide) (by decide) (fun v90 d91 ls z92 z93 hl => ?_)
        obtain ⟨e94, r95⟩ := i_add (lo := 0) (hi := 0) z92 r65 (R_eq z93) rfl
        have hl : lv_has ls 3 [(2, .int v90), (0, .ref (G.2.2.2.1 131)), (1, .int a0)] := hl
        refine r_goto (tgt := 3) S dX12_four_33 (by decide) ?_
        refine r_iload_n S dX12_four_3 rfl (lv_at hl 0 rfl) ?_
        refine r_if_lt (tgt := 36) S dX12_four_4 (by decide) (fun c96 => ?_) (fun c96 => ?_)
        ·
          exfalso; omega
        ·
          refine r_aload_n S dX12_four_7 rfl (lv_at hl 1 rfl) ?_
          refine r_get (K := 38) (v := .ref (G.2.2.2.1 132)) S X87 (Nat.le_of_ble_eq_true rfl) rfl lk12_14_10 (fun _ => ⟨_, rfl, rfl⟩) dX12_four_8 ?_
          refine r_aload_n S dX12_four_11 rfl (lv_at hl 1 rfl) ?_
          refine r_geti (K := 38) S X87 (Nat.le_of_ble_eq_true rfl) rfl lk12_7_10 (fun _ => ⟨_, rfl, rfl⟩) M86.1 dX12_four_12 ?_
          refine r_iload_n S dX12_four_15 rfl (lv_at hl 2 rfl) ?_
          refine r_iload_n S dX12_four_16 rfl (lv_at hl 0 rfl) ?_
          refine r_ishr S dX12_four_17 (fun v97 z98 => ?_)
          have r99 := R_any v97
          refine r_i2bq S dX12_four_18 (fun v100 r101 e102 => ?_)
          refine r_bast (n := 940) (K := 39) S X87 (Nat.le_of_ble_eq_true rfl) rfl (fun _ _ => rfl) (ix_of r84 rfl) (R_of (lo := -128) (hi := 127) r101 rfl) dX12_four_19 (fun t103 H lc M104 X105 => ?_)
          have I106 := Inv_mu I88 M104 (show Rg (kd 132) _ v100 from (R_of (lo := -128) (hi := 127) r101 rfl))
          have F107 : Fr [(131, 2)] [132] τ t103 := Fr_cell F89 M104 (by decide)
          refine r_aload_n S dX12_four_20 rfl (lv_at hl 1 rfl) ?_
          refine r_dup S dX12_four_21 rfl ?_
          refine r_geti (K := 38) S X105 (Nat.le_of_ble_eq_true rfl) rfl lk12_7_10 (fun _ => ⟨_, rfl, rfl⟩) ((M104.2 131 2 (Or.inl (by decide))).trans M86.1) dX12_four_22 ?_
          refine r_iconst S dX12_four_25 (by decide) (fun v108 z109 => ?_)
          have r110 := R_eq z109
          refine r_iadd S dX12_four_26 (fun v111 z112 => ?_)
          obtain ⟨e113, r114⟩ := i_add (lo := 16) (hi := 936) z112 r84 r110 rfl
          refine r_put (K := 38) (ty := .int) S X105 (Nat.le_of_ble_eq_true rfl) rfl lk12_7_10 (fun _ => ⟨_, rfl, Nat.le_of_ble_eq_true rfl, rfl⟩) (fun _ _ _ h => by cases h; exact ⟨rfl, rfl⟩) rfl rfl dX12_four_27 (fun t115 H lc M116 X117 => ?_)
          have I118 := Inv_mu I106 M116 (show Rg (kd 131) 2 v111 from (R_of (lo := 0) (hi := 940) r114 rfl))
          have F119 : Fr [(131, 2)] [132] τ t115 := Fr_mu F107 M116 (by decide)
          refine r_iinc (k := 0) S dX12_four_30 hl rfl (by decide) (by decide) (fun v120 d121 ls z122 z123 hl => ?_)
          obtain ⟨e124, r125⟩ := i_add (lo := -8) (hi := -8) z122 r95 (R_eq z123) rfl
          have hl : lv_has ls 3 [(2, .int v120), (0, .ref (G.2.2.2.1 131)), (1, .int a0)] := hl
          refine r_goto (tgt := 3) S dX12_four_33 (by decide) ?_
          refine r_iload_n S dX12_four_3 rfl (lv_at hl 0 rfl) ?_
          refine r_if_lt (tgt := 36) S dX12_four_4 (by decide) (fun c126 => ?_) (fun c126 => ?_)
          ·
            exact r_vret S hr hlk X117 ⟨I118, F119, (by rw [M116.1]; exact R_of r114 rfl), (by have h1_0 := congrArg Int32.toInt M116.1; have h2_0 := congrArg Int32.toInt z2; omega), (AP_4 M14 (fun j => ((M26.2 132 j (Or.inl (by decide))).trans rfl)) M44 (fun j => ((M56.2 132 j (Or.inl (by decide))).trans rfl)) M74 (fun j => ((M86.2 132 j (Or.inl (by decide))).trans rfl)) M104 (fun j => ((M116.2 132 j (Or.inl (by decide))).trans rfl)) (by have q := congrArg Int32.toInt z2; omega) (by have q := congrArg Int32.toInt z2; omega) (by have q := congrArg Int32.toInt z2; omega) (by have q := congrArg Int32.toInt z2; omega) (by have q := congrArg Int32.toInt z2; omega) (byt_m (i := 0) z8 e12 (by omega) (by decide)) (byt_m (i := 1) z38 e42 (by omega) (by decide)) (byt_m (i := 2) z68 e72 (by omega) (by decide)) (byt_m (i := 3) z98 e102 (by omega) (by decide)))⟩ dX12_four_36
          ·
            exfalso; omega
def po_X12_four_q4 (τ : Tau)  (a0 : Int32)   (u : Tau) : Prop := Inv u ∧ Fr [(131, 2)] [132] τ u ∧ R (20) (940) (u 131 2) ∧ (u 131 2).toInt = (τ 131 2).toInt + 4 ∧ AP τ u 132 (τ 131 2).toInt.toNat 4 (byt a0)
set_option maxHeartbeats 4000000 in
set_option maxRecDepth 100000 in
theorem c_X12_four_q4 (l : Launch) (G : Gx) (τ : Tau) (hI : Inv τ) (a0 : Int32) (h_a0 : R (-2147483648) (2147483647) a0) (hf_0 : R (16) (936) (τ 131 2)) : Cv l G yX12_four cX12_four 3 0 0 [.ref (G.2.2.2.1 131), .int a0] τ (po_X12_four_q4 τ  a0  ) := by
  unfold Cv
  refine C_of (own := RX12) (by decide) rfl (Nat.le_of_ble_eq_true rfl) ?_
  intro p e s m below meth c ls S hr hlk X hl
  have hl : lv_has ls 3 [(0, .ref (G.2.2.2.1 131)), (1, .int a0)] := hl
  obtain ⟨v1, z2⟩ : ∃ x, τ 131 2 = x := ⟨_, rfl⟩
  rw [z2] at hf_0
  refine r_bipush S dX12_four_0 (by decide) (fun v3 z4 => ?_)
  have r5 := R_eq z4
  refine r_istore_n (lv' := [(2, .int v3), (0, .ref (G.2.2.2.1 131)), (1, .int a0)]) S dX12_four_2 rfl hl (by decide) rfl (fun ls hl => ?_)
  refine r_iload_n S dX12_four_3 rfl (lv_at hl 0 rfl) ?_
  refine r_if_lt (tgt := 36) S dX12_four_4 (by decide) (fun c6 => ?_) (fun c6 => ?_)
  ·
    exfalso; omega
  ·
    refine r_aload_n S dX12_four_7 rfl (lv_at hl 1 rfl) ?_
    refine r_get (K := 38) (v := .ref (G.2.2.2.1 132)) S X (Nat.le_of_ble_eq_true rfl) rfl lk12_14_10 (fun _ => ⟨_, rfl, rfl⟩) dX12_four_8 ?_
    refine r_aload_n S dX12_four_11 rfl (lv_at hl 1 rfl) ?_
    refine r_geti (K := 38) S X (Nat.le_of_ble_eq_true rfl) rfl lk12_7_10 (fun _ => ⟨_, rfl, rfl⟩) z2 dX12_four_12 ?_
    refine r_iload_n S dX12_four_15 rfl (lv_at hl 2 rfl) ?_
    refine r_iload_n S dX12_four_16 rfl (lv_at hl 0 rfl) ?_
    refine r_ishr S dX12_four_17 (fun v7 z8 => ?_)
    have r9 := R_any v7
    refine r_i2bq S dX12_four_18 (fun v10 r11 e12 => ?_)
    refine r_bast (n := 940) (K := 39) S X (Nat.le_of_ble_eq_true rfl) rfl (fun _ _ => rfl) (ix_of hf_0 rfl) (R_of (lo := -128) (hi := 127) r11 rfl) dX12_four_19 (fun t13 H lc M14 X15 => ?_)
    have I16 := Inv_mu hI M14 (show Rg (kd 132) _ v10 from (R_of (lo := -128) (hi := 127) r11 rfl))
    have F17 : Fr [(131, 2)] [132] τ t13 := Fr_cell Fr_rfl M14 (by decide)
    refine r_aload_n S dX12_four_20 rfl (lv_at hl 1 rfl) ?_
    refine r_dup S dX12_four_21 rfl ?_
    refine r_geti (K := 38) S X15 (Nat.le_of_ble_eq_true rfl) rfl lk12_7_10 (fun _ => ⟨_, rfl, rfl⟩) ((M14.2 131 2 (Or.inl (by decide))).trans z2) dX12_four_22 ?_
    refine r_iconst S dX12_four_25 (by decide) (fun v18 z19 => ?_)
    have r20 := R_eq z19
    refine r_iadd S dX12_four_26 (fun v21 z22 => ?_)
    obtain ⟨e23, r24⟩ := i_add (lo := 17) (hi := 937) z22 hf_0 r20 rfl
    refine r_put (K := 38) (ty := .int) S X15 (Nat.le_of_ble_eq_true rfl) rfl lk12_7_10 (fun _ => ⟨_, rfl, Nat.le_of_ble_eq_true rfl, rfl⟩) (fun _ _ _ h => by cases h; exact ⟨rfl, rfl⟩) rfl rfl dX12_four_27 (fun t25 H lc M26 X27 => ?_)
    have I28 := Inv_mu I16 M26 (show Rg (kd 131) 2 v21 from (R_of (lo := 0) (hi := 940) r24 rfl))
    have F29 : Fr [(131, 2)] [132] τ t25 := Fr_mu F17 M26 (by decide)
    refine r_iinc (k := 0) S dX12_four_30 hl rfl (by decide) (by decide) (fun v30 d31 ls z32 z33 hl => ?_)
    obtain ⟨e34, r35⟩ := i_add (lo := 16) (hi := 16) z32 r5 (R_eq z33) rfl
    have hl : lv_has ls 3 [(2, .int v30), (0, .ref (G.2.2.2.1 131)), (1, .int a0)] := hl
    refine r_goto (tgt := 3) S dX12_four_33 (by decide) ?_
    refine r_iload_n S dX12_four_3 rfl (lv_at hl 0 rfl) ?_
    refine r_if_lt (tgt := 36) S dX12_four_4 (by decide) (fun c36 => ?_) (fun c36 => ?_)
    ·
      exfalso; omega
    ·
      refine r_aload_n S dX12_four_7 rfl (lv_at hl 1 rfl) ?_
      refine r_get (K := 38) (v := .ref (G.2.2.2.1 132)) S X27 (Nat.le_of_ble_eq_true rfl) rfl lk12_14_10 (fun _ => ⟨_, rfl, rfl⟩) dX12_four_8 ?_
      refine r_aload_n S dX12_four_11 rfl (lv_at hl 1 rfl) ?_
      refine r_geti (K := 38) S X27 (Nat.le_of_ble_eq_true rfl) rfl lk12_7_10 (fun _ => ⟨_, rfl, rfl⟩) M26.1 dX12_four_12 ?_
      refine r_iload_n S dX12_four_15 rfl (lv_at hl 2 rfl) ?_
      refine r_iload_n S dX12_four_16 rfl (lv_at hl 0 rfl) ?_
      refine r_ishr S dX12_four_17 (fun v37 z38 => ?_)
      have r39 := R_any v37
      refine r_i2bq S dX12_four_18 (fun v40 r41 e42 => ?_)
      refine r_bast (n := 940) (K := 39) S X27 (Nat.le_of_ble_eq_true rfl) rfl (fun _ _ => rfl) (ix_of r24 rfl) (R_of (lo := -128) (hi := 127) r41 rfl) dX12_four_19 (fun t43 H lc M44 X45 => ?_)
      have I46 := Inv_mu I28 M44 (show Rg (kd 132) _ v40 from (R_of (lo := -128) (hi := 127) r41 rfl))
      have F47 : Fr [(131, 2)] [132] τ t43 := Fr_cell F29 M44 (by decide)
      refine r_aload_n S dX12_four_20 rfl (lv_at hl 1 rfl) ?_
      refine r_dup S dX12_four_21 rfl ?_
      refine r_geti (K := 38) S X45 (Nat.le_of_ble_eq_true rfl) rfl lk12_7_10 (fun _ => ⟨_, rfl, rfl⟩) ((M44.2 131 2 (Or.inl (by decide))).trans M26.1) dX12_four_22 ?_
      refine r_iconst S dX12_four_25 (by decide) (fun v48 z49 => ?_)
      have r50 := R_eq z49
      refine r_iadd S dX12_four_26 (fun v51 z52 => ?_)
      obtain ⟨e53, r54⟩ := i_add (lo := 18) (hi := 938) z52 r24 r50 rfl
      refine r_put (K := 38) (ty := .int) S X45 (Nat.le_of_ble_eq_true rfl) rfl lk12_7_10 (fun _ => ⟨_, rfl, Nat.le_of_ble_eq_true rfl, rfl⟩) (fun _ _ _ h => by cases h; exact ⟨rfl, rfl⟩) rfl rfl dX12_four_27 (fun t55 H lc M56 X57 => ?_)
      have I58 := Inv_mu I46 M56 (show Rg (kd 131) 2 v51 from (R_of (lo := 0) (hi := 940) r54 rfl))
      have F59 : Fr [(131, 2)] [132] τ t55 := Fr_mu F47 M56 (by decide)
      refine r_iinc (k := 0) S dX12_four_30 hl rfl (by decide) (by decide) (fun v60 d61 ls z62 z63 hl => ?_)
      obtain ⟨e64, r65⟩ := i_add (lo := 8) (hi := 8) z62 r35 (R_eq z63) rfl
      have hl : lv_has ls 3 [(2, .int v60), (0, .ref (G.2.2.2.1 131)), (1, .int a0)] := hl
      refine r_goto (tgt := 3) S dX12_four_33 (by decide) ?_
      refine r_iload_n S dX12_four_3 rfl (lv_at hl 0 rfl) ?_
      refine r_if_lt (tgt := 36) S dX12_four_4 (by decide) (fun c66 => ?_) (fun c66 => ?_)
      ·
        exfalso; omega
      ·
        refine r_aload_n S dX12_four_7 rfl (lv_at hl 1 rfl) ?_
        refine r_get (K := 38) (v := .ref (G.2.2.2.1 132)) S X57 (Nat.le_of_ble_eq_true rfl) rfl lk12_14_10 (fun _ => ⟨_, rfl, rfl⟩) dX12_four_8 ?_
        refine r_aload_n S dX12_four_11 rfl (lv_at hl 1 rfl) ?_
        refine r_geti (K := 38) S X57 (Nat.le_of_ble_eq_true rfl) rfl lk12_7_10 (fun _ => ⟨_, rfl, rfl⟩) M56.1 dX12_four_12 ?_
        refine r_iload_n S dX12_four_15 rfl (lv_at hl 2 rfl) ?_
        refine r_iload_n S dX12_four_16 rfl (lv_at hl 0 rfl) ?_
        refine r_ishr S dX12_four_17 (fun v67 z68 => ?_)
        have r69 := R_any v67
        refine r_i2bq S dX12_four_18 (fun v70 r71 e72 => ?_)
        refine r_bast (n := 940) (K := 39) S X57 (Nat.le_of_ble_eq_true rfl) rfl (fun _ _ => rfl) (ix_of r54 rfl) (R_of (lo := -128) (hi := 127) r71 rfl) dX12_four_19 (fun t73 H lc M74 X75 => ?_)
        have I76 := Inv_mu I58 M74 (show Rg (kd 132) _ v70 from (R_of (lo := -128) (hi := 127) r71 rfl))
        have F77 : Fr [(131, 2)] [132] τ t73 := Fr_cell F59 M74 (by decide)
        refine r_aload_n S dX12_four_20 rfl (lv_at hl 1 rfl) ?_
        refine r_dup S dX12_four_21 rfl ?_
        refine r_geti (K := 38) S X75 (Nat.le_of_ble_eq_true rfl) rfl lk12_7_10 (fun _ => ⟨_, rfl, rfl⟩) ((M74.2 131 2 (Or.inl (by decide))).trans M56.1) dX12_four_22 ?_
        refine r_iconst S dX12_four_25 (by decide) (fun v78 z79 => ?_)
        have r80 := R_eq z79
        refine r_iadd S dX12_four_26 (fun v81 z82 => ?_)
        obtain ⟨e83, r84⟩ := i_add (lo := 19) (hi := 939) z82 r54 r80 rfl
        refine r_put (K := 38) (ty := .int) S X75 (Nat.le_of_ble_eq_true rfl) rfl lk12_7_10 (fun _ => ⟨_, rfl, Nat.le_of_ble_eq_true rfl, rfl⟩) (fun _ _ _ h => by cases h; exact ⟨rfl, rfl⟩) rfl rfl dX12_four_27 (fun t85 H lc M86 X87 => ?_)
        have I88 := Inv_mu I76 M86 (show Rg (kd 131) 2 v81 from (R_of (lo := 0) (hi := 940) r84 rfl))
        have F89 : Fr [(131, 2)] [132] τ t85 := Fr_mu F77 M86 (by decide)
        refine r_iinc (k := 0) S dX12_four_30 hl rfl (by decide) (by decide) (fun v90 d91 ls z92 z93 hl => ?_)
        obtain ⟨e94, r95⟩ := i_add (lo := 0) (hi := 0) z92 r65 (R_eq z93) rfl
        have hl : lv_has ls 3 [(2, .int v90), (0, .ref (G.2.2.2.1 131)), (1, .int a0)] := hl
        refine r_goto (tgt := 3) S dX12_four_33 (by decide) ?_
        refine r_iload_n S dX12_four_3 rfl (lv_at hl 0 rfl) ?_
        refine r_if_lt (tgt := 36) S dX12_four_4 (by decide) (fun c96 => ?_) (fun c96 => ?_)
        ·
          exfalso; omega
        ·
          refine r_aload_n S dX12_four_7 rfl (lv_at hl 1 rfl) ?_
          refine r_get (K := 38) (v := .ref (G.2.2.2.1 132)) S X87 (Nat.le_of_ble_eq_true rfl) rfl lk12_14_10 (fun _ => ⟨_, rfl, rfl⟩) dX12_four_8 ?_
          refine r_aload_n S dX12_four_11 rfl (lv_at hl 1 rfl) ?_
          refine r_geti (K := 38) S X87 (Nat.le_of_ble_eq_true rfl) rfl lk12_7_10 (fun _ => ⟨_, rfl, rfl⟩) M86.1 dX12_four_12 ?_
          refine r_iload_n S dX12_four_15 rfl (lv_at hl 2 rfl) ?_
          refine r_iload_n S dX12_four_16 rfl (lv_at hl 0 rfl) ?_
          refine r_ishr S dX12_four_17 (fun v97 z98 => ?_)
          have r99 := R_any v97
          refine r_i2bq S dX12_four_18 (fun v100 r101 e102 => ?_)
          refine r_bast (n := 940) (K := 39) S X87 (Nat.le_of_ble_eq_true rfl) rfl (fun _ _ => rfl) (ix_of r84 rfl) (R_of (lo := -128) (hi := 127) r101 rfl) dX12_four_19 (fun t103 H lc M104 X105 => ?_)
          have I106 := Inv_mu I88 M104 (show Rg (kd 132) _ v100 from (R_of (lo := -128) (hi := 127) r101 rfl))
          have F107 : Fr [(131, 2)] [132] τ t103 := Fr_cell F89 M104 (by decide)
          refine r_aload_n S dX12_four_20 rfl (lv_at hl 1 rfl) ?_
          refine r_dup S dX12_four_21 rfl ?_
          refine r_geti (K := 38) S X105 (Nat.le_of_ble_eq_true rfl) rfl lk12_7_10 (fun _ => ⟨_, rfl, rfl⟩) ((M104.2 131 2 (Or.inl (by decide))).trans M86.1) dX12_four_22 ?_
          refine r_iconst S dX12_four_25 (by decide) (fun v108 z109 => ?_)
          have r110 := R_eq z109
          refine r_iadd S dX12_four_26 (fun v111 z112 => ?_)
          obtain ⟨e113, r114⟩ := i_add (lo := 20) (hi := 940) z112 r84 r110 rfl
          refine r_put (K := 38) (ty := .int) S X105 (Nat.le_of_ble_eq_true rfl) rfl lk12_7_10 (fun _ => ⟨_, rfl, Nat.le_of_ble_eq_true rfl, rfl⟩) (fun _ _ _ h => by cases h; exact ⟨rfl, rfl⟩) rfl rfl dX12_four_27 (fun t115 H lc M116 X117 => ?_)
          have I118 := Inv_mu I106 M116 (show Rg (kd 131) 2 v111 from (R_of (lo := 0) (hi := 940) r114 rfl))
          have F119 : Fr [(131, 2)] [132] τ t115 := Fr_mu F107 M116 (by decide)
          refine r_iinc (k := 0) S dX12_four_30 hl rfl (by decide) (by decide) (fun v120 d121 ls z122 z123 hl => ?_)
          obtain ⟨e124, r125⟩ := i_add (lo := -8) (hi := -8) z122 r95 (R_eq z123) rfl
          have hl : lv_has ls 3 [(2, .int v120), (0, .ref (G.2.2.2.1 131)), (1, .int a0)] := hl
          refine r_goto (tgt := 3) S dX12_four_33 (by decide) ?_
          refine r_iload_n S dX12_four_3 rfl (lv_at hl 0 rfl) ?_
          refine r_if_lt (tgt := 36) S dX12_four_4 (by decide) (fun c126 => ?_) (fun c126 => ?_)
          ·
            exact r_vret S hr hlk X117 ⟨I118, F119, (by rw [M116.1]; exact R_of r114 rfl), (by have h1_0 := congrArg Int32.toInt M116.1; have h2_0 := congrArg Int32.toInt z2; omega), (AP_4 M14 (fun j => ((M26.2 132 j (Or.inl (by decide))).trans rfl)) M44 (fun j => ((M56.2 132 j (Or.inl (by decide))).trans rfl)) M74 (fun j => ((M86.2 132 j (Or.inl (by decide))).trans rfl)) M104 (fun j => ((M116.2 132 j (Or.inl (by decide))).trans rfl)) (by have q := congrArg Int32.toInt z2; omega) (by have q := congrArg Int32.toInt z2; omega) (by have q := congrArg Int32.toInt z2; omega) (by have q := congrArg Int32.toInt z2; omega) (by have q := congrArg Int32.toInt z2; omega) (byt_m (i := 0) z8 e12 (by omega) (by decide)) (byt_m (i := 1) z38 e42 (by omega) (by decide)) (byt_m (i := 2) z68 e72 (by omega) (by decide)) (byt_m (i := 3) z98 e102 (by omega) (by decide)))⟩ dX12_four_36
          ·
            exfalso; omega
def po_X12_feed_q (τ : Tau)  (a0 a1 a2 a3 a4 : Int32)   (r : Int32) (u : Tau) : Prop := Inv u ∧ Fr [(131, 0), (131, 2)] [132] τ u ∧ ((τ 131 2).toInt + 20 ≤ 940 → (u 131 2).toInt = (τ 131 2).toInt + 20 ∧ r.toInt = (τ 131 2).toInt + 20) ∧ (940 < (τ 131 2).toInt + 20 → (u 131 2).toInt = (τ 131 2).toInt ∧ r.toInt = -1) ∧ ((τ 131 2).toInt + 20 ≤ 940 → AP τ u 132 (τ 131 2).toInt.toNat 20 (cat5 a0 a1 a2 a3 a4)) ∧ (940 < (τ 131 2).toInt + 20 → ∀ j, u 132 j = τ 132 j)
set_option maxHeartbeats 4000000 in
set_option maxRecDepth 100000 in
theorem c_X12_feed_q (l : Launch) (G : Gx) (τ : Tau) (hI : Inv τ) (a0 : Int32) (a1 : Int32) (a2 : Int32) (a3 : Int32) (a4 : Int32) (h_a0 : R (-2147483648) (2147483647) a0) (h_a1 : R (-2147483648) (2147483647) a1) (h_a2 : R (-2147483648) (2147483647) a2) (h_a3 : R (-2147483648) (2147483647) a3) (h_a4 : R (-2147483648) (2147483647) a4) : Ci l G yX12_feed cX12_feed 6 (some .int) 1 22 [.ref (G.2.2.2.1 131), .int a0, .int a1, .int a2, .int a3, .int a4] τ (po_X12_feed_q τ  a0 a1 a2 a3 a4  ) := by
  unfold Ci
  refine C_of (own := RX12) (by decide) rfl (Nat.le_of_ble_eq_true rfl) ?_
  intro p e s m below meth c ls S hr hlk X hl
  have hl : lv_has ls 6 [(0, .ref (G.2.2.2.1 131)), (1, .int a0), (2, .int a1), (3, .int a2), (4, .int a3), (5, .int a4)] := hl
  obtain ⟨v1, z2⟩ : ∃ x, τ 131 2 = x := ⟨_, rfl⟩
  have r3 : R (0) (940) v1 := rd hI rfl z2
  refine r_aload_n S dX12_feed_0 rfl (lv_at hl 0 rfl) ?_
  refine r_iconst S dX12_feed_1 (by decide) (fun v4 z5 => ?_)
  have r6 := R_eq z5
  refine r_put (K := 38) (ty := .int) S X (Nat.le_of_ble_eq_true rfl) rfl lk12_1_10 (fun _ => ⟨_, rfl, Nat.le_of_ble_eq_true rfl, rfl⟩) (fun _ _ _ h => by cases h; exact ⟨rfl, rfl⟩) rfl rfl dX12_feed_2 (fun t7 H lc M8 X9 => ?_)
  have I10 := Inv_mu hI M8 (R_any v4)
  have F11 : Fr [(131, 0), (131, 2)] [132] τ t7 := Fr_mu Fr_rfl M8 (by decide)
  refine r_aload_n S dX12_feed_5 rfl (lv_at hl 0 rfl) ?_
  refine r_geti (K := 38) S X9 (Nat.le_of_ble_eq_true rfl) rfl lk12_7_10 (fun _ => ⟨_, rfl, rfl⟩) ((M8.2 131 2 (Or.inr (by decide))).trans z2) dX12_feed_6 ?_
  refine r_bipush S dX12_feed_9 (by decide) (fun v12 z13 => ?_)
  have r14 := R_eq z13
  refine r_iadd S dX12_feed_11 (fun v15 z16 => ?_)
  obtain ⟨e17, r18⟩ := i_add (lo := 20) (hi := 960) z16 r3 r14 rfl
  refine r_sipush S dX12_feed_12 (by decide) (fun v19 z20 => ?_)
  have r21 := R_eq z20
  refine r_icmp_le (tgt := 20) S dX12_feed_15 (by decide) (fun c22 => ?_) (fun c22 => ?_)
  ·
    have r23 : R (20) (940) v15 := ⟨by omega, by omega⟩
    have r24 : R (0) (920) v1 := ⟨by omega, by omega⟩
    refine r_aload_n S dX12_feed_20 rfl (lv_at hl 0 rfl) ?_
    refine r_iload_n S dX12_feed_21 rfl (lv_at hl 1 rfl) ?_
    refine r_kv (q_V (As := [.int a0]) (rest := []) (K := 38) (ci := 10) S X9 (c_X12_four_q0 l G t7 I10 a0 h_a0 (by rw [((M8.2 131 2 (Or.inr (by decide))).trans z2)]; exact R_of r24 rfl)) ck12_10 (Nat.le_of_ble_eq_true rfl) rfl (fun _ => ⟨_, rfl⟩) ⟨_, _, rfl⟩ ⟨Nat.le_of_ble_eq_true rfl, Nat.le_of_ble_eq_true rfl⟩ rfl hl.1 rfl (Nat.le_of_ble_eq_true rfl) dX12_feed_22 ⟨Nat.le_refl 0, Nat.le_refl 0⟩) X9 (fun t27 H lc q25 X26 => ?_)
    unfold po_X12_four_q0 at q25
    obtain ⟨q28, q29, q30, q31, q32⟩ := q25
    have F33 : Fr [(131, 0), (131, 2)] [132] τ t27 := Fr_call F11 q29 (by decide)
    obtain ⟨v34, z35⟩ : ∃ x, t27 131 2 = x := ⟨_, rfl⟩
    rw [z35] at q30
    have e36 := congrArg Int32.toInt ((M8.2 131 2 (Or.inr (by decide))).trans z2)
    have e37 := congrArg Int32.toInt z35
    refine r_aload_n S dX12_feed_25 rfl (lv_at hl 0 rfl) ?_
    refine r_iload_n S dX12_feed_26 rfl (lv_at hl 2 rfl) ?_
    refine r_kv (q_V (As := [.int a1]) (rest := []) (K := 38) (ci := 10) S X26 (c_X12_four_q1 l G t27 q28 a1 h_a1 (by rw [z35]; exact R_of q30 rfl)) ck12_10 (Nat.le_of_ble_eq_true rfl) rfl (fun _ => ⟨_, rfl⟩) ⟨_, _, rfl⟩ ⟨Nat.le_of_ble_eq_true rfl, Nat.le_of_ble_eq_true rfl⟩ rfl hl.1 rfl (Nat.le_of_ble_eq_true rfl) dX12_feed_27 ⟨Nat.le_refl 0, Nat.le_refl 0⟩) X26 (fun t40 H lc q38 X39 => ?_)
    unfold po_X12_four_q1 at q38
    obtain ⟨q41, q42, q43, q44, q45⟩ := q38
    have F46 : Fr [(131, 0), (131, 2)] [132] τ t40 := Fr_call F33 q42 (by decide)
    obtain ⟨v47, z48⟩ : ∃ x, t40 131 2 = x := ⟨_, rfl⟩
    rw [z48] at q43
    have e49 := congrArg Int32.toInt z35
    have e50 := congrArg Int32.toInt z48
    refine r_aload_n S dX12_feed_30 rfl (lv_at hl 0 rfl) ?_
    refine r_iload_n S dX12_feed_31 rfl (lv_at hl 3 rfl) ?_
    refine r_kv (q_V (As := [.int a2]) (rest := []) (K := 38) (ci := 10) S X39 (c_X12_four_q2 l G t40 q41 a2 h_a2 (by rw [z48]; exact R_of q43 rfl)) ck12_10 (Nat.le_of_ble_eq_true rfl) rfl (fun _ => ⟨_, rfl⟩) ⟨_, _, rfl⟩ ⟨Nat.le_of_ble_eq_true rfl, Nat.le_of_ble_eq_true rfl⟩ rfl hl.1 rfl (Nat.le_of_ble_eq_true rfl) dX12_feed_32 ⟨Nat.le_refl 0, Nat.le_refl 0⟩) X39 (fun t53 H lc q51 X52 => ?_)
    unfold po_X12_four_q2 at q51
    obtain ⟨q54, q55, q56, q57, q58⟩ := q51
    have F59 : Fr [(131, 0), (131, 2)] [132] τ t53 := Fr_call F46 q55 (by decide)
    obtain ⟨v60, z61⟩ : ∃ x, t53 131 2 = x := ⟨_, rfl⟩
    rw [z61] at q56
    have e62 := congrArg Int32.toInt z48
    have e63 := congrArg Int32.toInt z61
    refine r_aload_n S dX12_feed_35 rfl (lv_at hl 0 rfl) ?_
    refine r_iload S dX12_feed_36 (lv_at hl 4 rfl) ?_
    refine r_kv (q_V (As := [.int a3]) (rest := []) (K := 38) (ci := 10) S X52 (c_X12_four_q3 l G t53 q54 a3 h_a3 (by rw [z61]; exact R_of q56 rfl)) ck12_10 (Nat.le_of_ble_eq_true rfl) rfl (fun _ => ⟨_, rfl⟩) ⟨_, _, rfl⟩ ⟨Nat.le_of_ble_eq_true rfl, Nat.le_of_ble_eq_true rfl⟩ rfl hl.1 rfl (Nat.le_of_ble_eq_true rfl) dX12_feed_38 ⟨Nat.le_refl 0, Nat.le_refl 0⟩) X52 (fun t66 H lc q64 X65 => ?_)
    unfold po_X12_four_q3 at q64
    obtain ⟨q67, q68, q69, q70, q71⟩ := q64
    have F72 : Fr [(131, 0), (131, 2)] [132] τ t66 := Fr_call F59 q68 (by decide)
    obtain ⟨v73, z74⟩ : ∃ x, t66 131 2 = x := ⟨_, rfl⟩
    rw [z74] at q69
    have e75 := congrArg Int32.toInt z61
    have e76 := congrArg Int32.toInt z74
    refine r_aload_n S dX12_feed_41 rfl (lv_at hl 0 rfl) ?_
    refine r_iload S dX12_feed_42 (lv_at hl 5 rfl) ?_
    refine r_kv (q_V (As := [.int a4]) (rest := []) (K := 38) (ci := 10) S X65 (c_X12_four_q4 l G t66 q67 a4 h_a4 (by rw [z74]; exact R_of q69 rfl)) ck12_10 (Nat.le_of_ble_eq_true rfl) rfl (fun _ => ⟨_, rfl⟩) ⟨_, _, rfl⟩ ⟨Nat.le_of_ble_eq_true rfl, Nat.le_of_ble_eq_true rfl⟩ rfl hl.1 rfl (Nat.le_of_ble_eq_true rfl) dX12_feed_44 ⟨Nat.le_refl 0, Nat.le_refl 0⟩) X65 (fun t79 H lc q77 X78 => ?_)
    unfold po_X12_four_q4 at q77
    obtain ⟨q80, q81, q82, q83, q84⟩ := q77
    have F85 : Fr [(131, 0), (131, 2)] [132] τ t79 := Fr_call F72 q81 (by decide)
    obtain ⟨v86, z87⟩ : ∃ x, t79 131 2 = x := ⟨_, rfl⟩
    rw [z87] at q82
    have e88 := congrArg Int32.toInt z74
    have e89 := congrArg Int32.toInt z87
    refine r_aload_n S dX12_feed_47 rfl (lv_at hl 0 rfl) ?_
    refine r_geti (K := 38) S X78 (Nat.le_of_ble_eq_true rfl) rfl lk12_7_10 (fun _ => ⟨_, rfl, rfl⟩) z87 dX12_feed_48 ?_
    exact r_ret S hr hlk X78 ⟨q80, F85, (by have h1_0 := congrArg Int32.toInt z87; have h2_0 := congrArg Int32.toInt z2; omega), (by have h1_0 := congrArg Int32.toInt z87; have h2_0 := congrArg Int32.toInt z2; omega), (fun _ => by have q0 := congrArg Int32.toInt z2; have q1 := congrArg Int32.toInt (((M8.2 131 2 (Or.inr (by decide))).trans rfl) : t7 131 2 = τ 131 2); exact AP_st (by omega) (fun j => ((M8.2 132 j (Or.inl (by decide))).trans rfl)) (AP_two (n' := 20) (AP_two (n' := 16) (AP_two (n' := 12) (AP_two (n' := 8) (q32) (q45) (by omega) rfl) (q58) (by omega) rfl) (q71) (by omega) rfl) (q84) (by omega) rfl)), (fun h => by have q := congrArg Int32.toInt z2; exfalso; omega)⟩ rfl dX12_feed_51
  ·
    have r90 : R (941) (960) v15 := ⟨by omega, by omega⟩
    have r91 : R (921) (940) v1 := ⟨by omega, by omega⟩
    refine r_iconst S dX12_feed_18 (by decide) (fun v92 z93 => ?_)
    have r94 := R_eq z93
    exact r_ret S hr hlk X9 ⟨I10, F11, (by have h1_0 := congrArg Int32.toInt ((M8.2 131 2 (Or.inr (by decide))).trans z2); have h2_0 := congrArg Int32.toInt z2; omega), (by have h1_0 := congrArg Int32.toInt ((M8.2 131 2 (Or.inr (by decide))).trans z2); have h2_0 := congrArg Int32.toInt z2; omega), (fun h => by have q := congrArg Int32.toInt z2; exfalso; omega), (fun _ j => ((M8.2 132 j (Or.inl (by decide))).trans rfl))⟩ rfl dX12_feed_19
def po_X11_count_q (τ : Tau)  (a0 : Int32)   (r : Int32) (u : Tau) : Prop := u = τ ∧ (a0.toInt = 0 → r = τ 23 2) ∧ (a0.toInt = 1 → r = τ 23 3) ∧ (a0.toInt = 2 → r = τ 23 0) ∧ (a0.toInt = 3 → r = τ 23 1) ∧ (a0.toInt = 4 → r = τ 23 4) ∧ (a0.toInt = 5 → r = τ 1 1) ∧ (a0.toInt < 0 ∨ 5 < a0.toInt → r.toInt = -1)
set_option maxHeartbeats 4000000 in
set_option maxRecDepth 100000 in
theorem c_X11_count_q (l : Launch) (G : Gx) (τ : Tau) (hI : Inv τ) (a0 : Int32) (h_a0 : R (-2147483648) (2147483647) a0) : Ci l G yX11_count cX11_count 2 (some .int) 0 0 [.ref (G.2.2.2.1 0), .int a0] τ (po_X11_count_q τ  a0  ) := by
  unfold Ci
  refine C_of (own := RX11) (by decide) rfl (Nat.le_of_ble_eq_true rfl) ?_
  intro p e s m below meth c ls S hr hlk X hl
  have hl : lv_has ls 2 [(0, .ref (G.2.2.2.1 0)), (1, .int a0)] := hl
  refine r_iload_n S dX11_count_0 rfl (lv_at hl 1 rfl) ?_
  rcases (show (a0.toInt < 0 ∨ 5 < a0.toInt) ∨ a0.toInt = 0 ∨ a0.toInt = 1 ∨ a0.toInt = 2 ∨ a0.toInt = 3 ∨ a0.toInt = 4 ∨ a0.toInt = 5 by omega) with c1 | c1 | c1 | c1 | c1 | c1 | c1
  ·
    refine lv_tableOut (tgt := 103) S.1.1 S.1.2.1 dX11_count_1 c1 (by decide) ?_
    refine r_iconst S dX11_count_103 (by decide) (fun v2 z3 => ?_)
    have r4 := R_eq z3
    exact r_ret S hr hlk X ⟨rfl, (fun h => by exfalso; omega), (fun h => by exfalso; omega), (fun h => by exfalso; omega), (fun h => by exfalso; omega), (fun h => by exfalso; omega), (fun h => by exfalso; omega), (fun h => by omega)⟩ rfl dX11_count_104
  ·
    refine lv_tableIn (tgt := 40) S.1.1 S.1.2.1 dX11_count_1 (by omega) (by omega) (by rw [c1]; rfl) (by decide) ?_
    have r5 : R (0) (0) a0 := ⟨by omega, by omega⟩
    refine r_aload_n S dX11_count_40 rfl (lv_at hl 0 rfl) ?_
    refine r_get (K := 0) (v := .ref (G.2.2.2.1 22)) S X (Nat.le_of_ble_eq_true rfl) rfl lk11_42_9 (fun _ => ⟨_, rfl, rfl⟩) dX11_count_41 ?_
    refine r_get (K := 22) (v := .ref (G.2.2.2.1 23)) S X (Nat.le_of_ble_eq_true rfl) rfl lk11_139_8 (fun _ => ⟨_, rfl, rfl⟩) dX11_count_44 ?_
    refine r_getn (K := 4) S X (Nat.le_of_ble_eq_true rfl) rfl lk11_235_2 (fun _ => ⟨_, rfl, rfl⟩) dX11_count_47 (fun v6 z7 => ?_)
    have r8 : R (0) (9) v6 := rd hI rfl z7
    exact r_ret S hr hlk X ⟨rfl, (fun _ => z7.symm), (fun h => by exfalso; omega), (fun h => by exfalso; omega), (fun h => by exfalso; omega), (fun h => by exfalso; omega), (fun h => by exfalso; omega), (fun h => by omega)⟩ rfl dX11_count_50
  ·
    refine lv_tableIn (tgt := 51) S.1.1 S.1.2.1 dX11_count_1 (by omega) (by omega) (by rw [c1]; rfl) (by decide) ?_
    have r9 : R (1) (1) a0 := ⟨by omega, by omega⟩
    refine r_aload_n S dX11_count_51 rfl (lv_at hl 0 rfl) ?_
    refine r_get (K := 0) (v := .ref (G.2.2.2.1 22)) S X (Nat.le_of_ble_eq_true rfl) rfl lk11_42_9 (fun _ => ⟨_, rfl, rfl⟩) dX11_count_52 ?_
    refine r_get (K := 22) (v := .ref (G.2.2.2.1 23)) S X (Nat.le_of_ble_eq_true rfl) rfl lk11_139_8 (fun _ => ⟨_, rfl, rfl⟩) dX11_count_55 ?_
    refine r_getn (K := 4) S X (Nat.le_of_ble_eq_true rfl) rfl lk11_244_2 (fun _ => ⟨_, rfl, rfl⟩) dX11_count_58 (fun v10 z11 => ?_)
    have r12 : R (0) (10) v10 := rd hI rfl z11
    exact r_ret S hr hlk X ⟨rfl, (fun h => by exfalso; omega), (fun _ => z11.symm), (fun h => by exfalso; omega), (fun h => by exfalso; omega), (fun h => by exfalso; omega), (fun h => by exfalso; omega), (fun h => by omega)⟩ rfl dX11_count_61
  ·
    refine lv_tableIn (tgt := 62) S.1.1 S.1.2.1 dX11_count_1 (by omega) (by omega) (by rw [c1]; rfl) (by decide) ?_
    have r13 : R (2) (2) a0 := ⟨by omega, by omega⟩
    refine r_aload_n S dX11_count_62 rfl (lv_at hl 0 rfl) ?_
    refine r_get (K := 0) (v := .ref (G.2.2.2.1 22)) S X (Nat.le_of_ble_eq_true rfl) rfl lk11_42_9 (fun _ => ⟨_, rfl, rfl⟩) dX11_count_63 ?_
    refine r_get (K := 22) (v := .ref (G.2.2.2.1 23)) S X (Nat.le_of_ble_eq_true rfl) rfl lk11_139_8 (fun _ => ⟨_, rfl, rfl⟩) dX11_count_66 ?_
    refine r_getn (K := 4) S X (Nat.le_of_ble_eq_true rfl) rfl lk11_307_2 (fun _ => ⟨_, rfl, rfl⟩) dX11_count_69 (fun v14 z15 => ?_)
    have r16 : R (0) (8) v14 := rd hI rfl z15
    exact r_ret S hr hlk X ⟨rfl, (fun h => by exfalso; omega), (fun h => by exfalso; omega), (fun _ => z15.symm), (fun h => by exfalso; omega), (fun h => by exfalso; omega), (fun h => by exfalso; omega), (fun h => by omega)⟩ rfl dX11_count_72
  ·
    refine lv_tableIn (tgt := 73) S.1.1 S.1.2.1 dX11_count_1 (by omega) (by omega) (by rw [c1]; rfl) (by decide) ?_
    have r17 : R (3) (3) a0 := ⟨by omega, by omega⟩
    refine r_aload_n S dX11_count_73 rfl (lv_at hl 0 rfl) ?_
    refine r_get (K := 0) (v := .ref (G.2.2.2.1 22)) S X (Nat.le_of_ble_eq_true rfl) rfl lk11_42_9 (fun _ => ⟨_, rfl, rfl⟩) dX11_count_74 ?_
    refine r_get (K := 22) (v := .ref (G.2.2.2.1 23)) S X (Nat.le_of_ble_eq_true rfl) rfl lk11_139_8 (fun _ => ⟨_, rfl, rfl⟩) dX11_count_77 ?_
    refine r_getn (K := 4) S X (Nat.le_of_ble_eq_true rfl) rfl lk11_310_2 (fun _ => ⟨_, rfl, rfl⟩) dX11_count_80 (fun v18 z19 => ?_)
    have r20 : R (0) (9) v18 := rd hI rfl z19
    exact r_ret S hr hlk X ⟨rfl, (fun h => by exfalso; omega), (fun h => by exfalso; omega), (fun h => by exfalso; omega), (fun _ => z19.symm), (fun h => by exfalso; omega), (fun h => by exfalso; omega), (fun h => by omega)⟩ rfl dX11_count_83
  ·
    refine lv_tableIn (tgt := 84) S.1.1 S.1.2.1 dX11_count_1 (by omega) (by omega) (by rw [c1]; rfl) (by decide) ?_
    have r21 : R (4) (4) a0 := ⟨by omega, by omega⟩
    refine r_aload_n S dX11_count_84 rfl (lv_at hl 0 rfl) ?_
    refine r_get (K := 0) (v := .ref (G.2.2.2.1 22)) S X (Nat.le_of_ble_eq_true rfl) rfl lk11_42_9 (fun _ => ⟨_, rfl, rfl⟩) dX11_count_85 ?_
    refine r_get (K := 22) (v := .ref (G.2.2.2.1 23)) S X (Nat.le_of_ble_eq_true rfl) rfl lk11_139_8 (fun _ => ⟨_, rfl, rfl⟩) dX11_count_88 ?_
    refine r_getn (K := 4) S X (Nat.le_of_ble_eq_true rfl) rfl lk11_313_2 (fun _ => ⟨_, rfl, rfl⟩) dX11_count_91 (fun v22 z23 => ?_)
    have r25 := R_any v22
    exact r_ret S hr hlk X ⟨rfl, (fun h => by exfalso; omega), (fun h => by exfalso; omega), (fun h => by exfalso; omega), (fun h => by exfalso; omega), (fun _ => z23.symm), (fun h => by exfalso; omega), (fun h => by omega)⟩ rfl dX11_count_94
  ·
    refine lv_tableIn (tgt := 95) S.1.1 S.1.2.1 dX11_count_1 (by omega) (by omega) (by rw [c1]; rfl) (by decide) ?_
    have r26 : R (5) (5) a0 := ⟨by omega, by omega⟩
    refine r_aload_n S dX11_count_95 rfl (lv_at hl 0 rfl) ?_
    refine r_get (K := 0) (v := .ref (G.2.2.2.1 1)) S X (Nat.le_of_ble_eq_true rfl) rfl lk11_12_9 (fun _ => ⟨_, rfl, rfl⟩) dX11_count_96 ?_
    refine r_getn (K := 1) S X (Nat.le_of_ble_eq_true rfl) rfl lk11_88_7 (fun _ => ⟨_, rfl, rfl⟩) dX11_count_99 (fun v27 z28 => ?_)
    have r29 : R (0) (940) v27 := rd hI rfl z28
    exact r_ret S hr hlk X ⟨rfl, (fun h => by exfalso; omega), (fun h => by exfalso; omega), (fun h => by exfalso; omega), (fun h => by exfalso; omega), (fun h => by exfalso; omega), (fun _ => z28.symm), (fun h => by omega)⟩ rfl dX11_count_102
def po_X12_count_q (τ : Tau)  (a0 : Int32)   (r : Int32) (u : Tau) : Prop := Inv u ∧ Fr [(131, 0)] [] τ u ∧ (a0.toInt = 5 → r = τ 131 2) ∧ (0 ≤ a0.toInt ∧ a0.toInt ≤ 4 → r = τ 133 a0.toNatClampNeg) ∧ (a0.toInt < 0 ∨ 5 < a0.toInt → r.toInt = -1)
set_option maxHeartbeats 4000000 in
set_option maxRecDepth 100000 in
theorem c_X12_count_q (l : Launch) (G : Gx) (τ : Tau) (hI : Inv τ) (a0 : Int32) (h_a0 : R (-2147483648) (2147483647) a0) : Ci l G yX12_count cX12_count 2 (some .int) 1 22 [.ref (G.2.2.2.1 131), .int a0] τ (po_X12_count_q τ  a0  ) := by
  unfold Ci
  refine C_of (own := RX12) (by decide) rfl (Nat.le_of_ble_eq_true rfl) ?_
  intro p e s m below meth c ls S hr hlk X hl
  have hl : lv_has ls 2 [(0, .ref (G.2.2.2.1 131)), (1, .int a0)] := hl
  obtain ⟨v1, z2⟩ : ∃ x, τ 131 2 = x := ⟨_, rfl⟩
  have r3 : R (0) (940) v1 := rd hI rfl z2
  refine r_aload_n S dX12_count_0 rfl (lv_at hl 0 rfl) ?_
  refine r_iconst S dX12_count_1 (by decide) (fun v4 z5 => ?_)
  have r6 := R_eq z5
  refine r_put (K := 38) (ty := .int) S X (Nat.le_of_ble_eq_true rfl) rfl lk12_1_10 (fun _ => ⟨_, rfl, Nat.le_of_ble_eq_true rfl, rfl⟩) (fun _ _ _ h => by cases h; exact ⟨rfl, rfl⟩) rfl rfl dX12_count_2 (fun t7 H lc M8 X9 => ?_)
  have I10 := Inv_mu hI M8 (R_any v4)
  have F11 : Fr [(131, 0)] [] τ t7 := Fr_mu Fr_rfl M8 (by decide)
  refine r_iload_n S dX12_count_5 rfl (lv_at hl 1 rfl) ?_
  refine r_iconst S dX12_count_6 (by decide) (fun v12 z13 => ?_)
  have r14 := R_eq z13
  refine r_icmp_ne (tgt := 17) S dX12_count_7 (by decide) (fun c15 => ?_) (fun c15 => ?_)
  ·
    refine r_iload_n S dX12_count_17 rfl (lv_at hl 1 rfl) ?_
    refine r_iconst S dX12_count_18 (by decide) (fun v16 z17 => ?_)
    have r18 := R_eq z17
    refine r_iconst S dX12_count_19 (by decide) (fun v19 z20 => ?_)
    have r21 := R_eq z20
    refine r_ki (q_S (As := [.int a0, .int v16, .int v19]) (rest := []) S X9 (c_X12_isIn_q l G t7 I10 a0 v16 v19 h_a0 (R_of (lo := -2147483648) (hi := 2147483647) r18 rfl) (R_of (lo := -2147483648) (hi := 2147483647) r21 rfl)) ck12_189 ⟨Nat.le_of_ble_eq_true rfl, Nat.le_of_ble_eq_true rfl⟩ rfl hl.1 rfl (Nat.le_of_ble_eq_true rfl) dX12_count_20 ⟨Nat.le_refl 0, Nat.le_refl 0⟩) X9 (fun v25 t24 H lc q22 X23 => ?_)
    unfold po_X12_isIn_q at q22
    obtain ⟨q26, q27, q28⟩ := q22
    rw [q26] at X23
    refine r_if_eq (tgt := 35) S dX12_count_23 (by decide) (fun c29 => ?_) (fun c29 => ?_)
    ·
      have r30 : R (0) (0) v25 := ⟨by omega, by omega⟩
      refine r_iconst S dX12_count_35 (by decide) (fun v31 z32 => ?_)
      have r33 := R_eq z32
      exact r_ret S hr hlk X23 ⟨I10, F11, (fun h => by exfalso; omega), (fun h => by exfalso; omega), (fun h => by omega)⟩ rfl dX12_count_36
    ·
      have r34 : R (1) (1) v25 := ⟨by omega, by omega⟩
      refine r_aload_n S dX12_count_26 rfl (lv_at hl 0 rfl) ?_
      refine r_get (K := 38) (v := .ref (G.2.2.2.1 133)) S X23 (Nat.le_of_ble_eq_true rfl) rfl lk12_33_10 (fun _ => ⟨_, rfl, rfl⟩) dX12_count_27 ?_
      refine r_iload_n S dX12_count_30 rfl (lv_at hl 1 rfl) ?_
      refine r_aldn (n := 513) (K := 40) S X23 (Nat.le_of_ble_eq_true rfl) rfl (fun _ => rfl) (by omega) dX12_count_31 (fun v35 z36 => ?_)
      have r38 := R_any v35
      have g39 : Rg 40 a0.toNatClampNeg v35 := rd I10 rfl z36
      refine r_goto (tgt := 36) S dX12_count_32 (by decide) ?_
      exact r_ret S hr hlk X23 ⟨I10, F11, (fun h => by exfalso; omega), (fun _ => ((((M8.2 133 a0.toNatClampNeg (Or.inl (by decide))).trans rfl) : t7 133 a0.toNatClampNeg = τ 133 a0.toNatClampNeg).symm.trans z36).symm), (fun h => by omega)⟩ rfl dX12_count_36
  ·
    have r40 : R (5) (5) a0 := ⟨by omega, by omega⟩
    refine r_aload_n S dX12_count_10 rfl (lv_at hl 0 rfl) ?_
    refine r_geti (K := 38) S X9 (Nat.le_of_ble_eq_true rfl) rfl lk12_7_10 (fun _ => ⟨_, rfl, rfl⟩) ((M8.2 131 2 (Or.inr (by decide))).trans z2) dX12_count_11 ?_
    refine r_goto (tgt := 36) S dX12_count_14 (by decide) ?_
    exact r_ret S hr hlk X9 ⟨I10, F11, (fun _ => (z2).symm), (fun h => by exfalso; omega), (fun h => by omega)⟩ rfl dX12_count_36
