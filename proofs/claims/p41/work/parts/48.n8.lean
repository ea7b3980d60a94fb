def po_X7_addNumber_q (τ : Tau)  (a0 : Int32)   (u : Tau) : Prop := Inv u ∧ Fr [(1, 1)] [2] τ u ∧ ((τ 1 1).toInt ≤ 936 → (u 1 1).toInt = (τ 1 1).toInt + 4) ∧ ((τ 1 1).toInt ≤ 936 → AP τ u 2 (τ 1 1).toInt.toNat 4 (byt a0))
set_option maxHeartbeats 4000000 in
set_option maxRecDepth 100000 in
theorem c_X7_addNumber_q (l : Launch) (G : Gx) (τ : Tau) (hI : Inv τ) (a0 : Int32) (h_a0 : R (-2147483648) (2147483647) a0) : Cv l G yX7_addNumber cX7_addNumber 3 0 0 [.ref (G.2.2.2.1 1), .int a0] τ (po_X7_addNumber_q τ  a0  ) := by
  unfold Cv
  refine C_of (own := RX7) (by decide) rfl (Nat.le_of_ble_eq_true rfl) ?_
  intro p e s m below meth c ls S hr hlk X hl
  have hl : lv_has ls 3 [(0, .ref (G.2.2.2.1 1)), (1, .int a0)] := hl
  obtain ⟨v1, z2⟩ : ∃ x, τ 1 1 = x := ⟨_, rfl⟩
  have r3 : R (0) (940) v1 := rd hI rfl z2
  refine r_aload_n S dX7_addNumber_0 rfl (lv_at hl 0 rfl) ?_
  refine r_geti (K := 1) S X (Nat.le_of_ble_eq_true rfl) rfl lk7_15_7 (fun _ => ⟨_, rfl, rfl⟩) z2 dX7_addNumber_1 ?_
  refine r_iconst S dX7_addNumber_4 (by decide) (fun v4 z5 => ?_)
  have r6 := R_eq z5
  refine r_iadd S dX7_addNumber_5 (fun v7 z8 => ?_)
  obtain ⟨e9, r10⟩ := i_add (lo := 4) (hi := 944) z8 r3 r6 rfl
  refine r_sipush S dX7_addNumber_6 (by decide) (fun v11 z12 => ?_)
  have r13 := R_eq z12
  refine r_icmp_le (tgt := 13) S dX7_addNumber_9 (by decide) (fun c14 => ?_) (fun c14 => ?_)
  ·
    have r15 : R (4) (940) v7 := ⟨by omega, by omega⟩
    have r16 : R (0) (936) v1 := ⟨by omega, by omega⟩
    refine r_bipush S dX7_addNumber_13 (by decide) (fun v17 z18 => ?_)
    have r19 := R_eq z18
    refine r_istore_n (lv' := [(2, .int v17), (0, .ref (G.2.2.2.1 1)), (1, .int a0)]) S dX7_addNumber_15 rfl hl (by decide) rfl (fun ls hl => ?_)
    refine r_iload_n S dX7_addNumber_16 rfl (lv_at hl 0 rfl) ?_
    refine r_if_lt (tgt := 52) S dX7_addNumber_17 (by decide) (fun c20 => ?_) (fun c20 => ?_)
    ·
      exfalso; omega
    ·
      refine r_aload_n S dX7_addNumber_20 rfl (lv_at hl 1 rfl) ?_
      refine r_get (K := 1) (v := .ref (G.2.2.2.1 2)) S X (Nat.le_of_ble_eq_true rfl) rfl lk7_9_7 (fun _ => ⟨_, rfl, rfl⟩) dX7_addNumber_21 ?_
      refine r_aload_n S dX7_addNumber_24 rfl (lv_at hl 1 rfl) ?_
      refine r_geti (K := 1) S X (Nat.le_of_ble_eq_true rfl) rfl lk7_15_7 (fun _ => ⟨_, rfl, rfl⟩) z2 dX7_addNumber_25 ?_
      refine r_iload_n S dX7_addNumber_28 rfl (lv_at hl 2 rfl) ?_
      refine r_iload_n S dX7_addNumber_29 rfl (lv_at hl 0 rfl) ?_
      refine r_iushr S dX7_addNumber_30 (fun v21 z22 => ?_)
      have r24 : R (0) (255) v21 := i_ushrc z22 h_a0 r19 rfl
      refine r_sipush S dX7_addNumber_31 (by decide) (fun v25 z26 => ?_)
      have r27 := R_eq z26
      refine r_iand S dX7_addNumber_34 (fun v28 z29 => ?_)
      have r31 : R (0) (255) v28 := i_and1 z29 r24 r27 rfl
      have e32 := i_andle z29 r24 rfl
      refine r_ast (n := 940) (K := 2) S X (Nat.le_of_ble_eq_true rfl) rfl (fun _ _ => rfl) (ix_of r16 rfl) dX7_addNumber_35 (fun t33 H lc M34 X35 => ?_)
      have I36 := Inv_mu hI M34 (show Rg (kd 2) _ v28 from (R_of (lo := 0) (hi := 255) r31 rfl))
      have F37 : Fr [(1, 1)] [2] τ t33 := Fr_cell Fr_rfl M34 (by decide)
      refine r_aload_n S dX7_addNumber_36 rfl (lv_at hl 1 rfl) ?_
      refine r_dup S dX7_addNumber_37 rfl ?_
      refine r_geti (K := 1) S X35 (Nat.le_of_ble_eq_true rfl) rfl lk7_15_7 (fun _ => ⟨_, rfl, rfl⟩) ((M34.2 1 1 (Or.inl (by decide))).trans z2) dX7_addNumber_38 ?_
      refine r_iconst S dX7_addNumber_41 (by decide) (fun v38 z39 => ?_)
      have r40 := R_eq z39
      refine r_iadd S dX7_addNumber_42 (fun v41 z42 => ?_)
      obtain ⟨e43, r44⟩ := i_add (lo := 1) (hi := 937) z42 r16 r40 rfl
      refine r_put (K := 1) (ty := .int) S X35 (Nat.le_of_ble_eq_true rfl) rfl lk7_15_7 (fun _ => ⟨_, rfl, Nat.le_of_ble_eq_true rfl, rfl⟩) (fun _ _ _ h => by cases h; exact ⟨rfl, rfl⟩) rfl rfl dX7_addNumber_43 (fun t45 H lc M46 X47 => ?_)
      have I48 := Inv_mu I36 M46 (show Rg (kd 1) 1 v41 from (R_of (lo := 0) (hi := 940) r44 rfl))
      have F49 : Fr [(1, 1)] [2] τ t45 := Fr_mu F37 M46 (by decide)
      refine r_iinc (k := 0) S dX7_addNumber_46 hl rfl (by decide) (by decide) (fun v50 d51 ls z52 z53 hl => ?_)
      obtain ⟨e54, r55⟩ := i_add (lo := 16) (hi := 16) z52 r19 (R_eq z53) rfl
      have hl : lv_has ls 3 [(2, .int v50), (0, .ref (G.2.2.2.1 1)), (1, .int a0)] := hl
      refine r_goto (tgt := 16) S dX7_addNumber_49 (by decide) ?_
      refine r_iload_n S dX7_addNumber_16 rfl (lv_at hl 0 rfl) ?_
      refine r_if_lt (tgt := 52) S dX7_addNumber_17 (by decide) (fun c56 => ?_) (fun c56 => ?_)
      ·
        exfalso; omega
      ·
        refine r_aload_n S dX7_addNumber_20 rfl (lv_at hl 1 rfl) ?_
        refine r_get (K := 1) (v := .ref (G.2.2.2.1 2)) S X47 (Nat.le_of_ble_eq_true rfl) rfl lk7_9_7 (fun _ => ⟨_, rfl, rfl⟩) dX7_addNumber_21 ?_
        refine r_aload_n S dX7_addNumber_24 rfl (lv_at hl 1 rfl) ?_
        refine r_geti (K := 1) S X47 (Nat.le_of_ble_eq_true rfl) rfl lk7_15_7 (fun _ => ⟨_, rfl, rfl⟩) M46.1 dX7_addNumber_25 ?_
        refine r_iload_n S dX7_addNumber_28 rfl (lv_at hl 2 rfl) ?_
        refine r_iload_n S dX7_addNumber_29 rfl (lv_at hl 0 rfl) ?_
        refine r_iushr S dX7_addNumber_30 (fun v57 z58 => ?_)
        have r60 : R (0) (65535) v57 := i_ushrc z58 h_a0 r55 rfl
        refine r_sipush S dX7_addNumber_31 (by decide) (fun v61 z62 => ?_)
        have r63 := R_eq z62
        refine r_iand S dX7_addNumber_34 (fun v64 z65 => ?_)
        have r67 : R (0) (255) v64 := i_and2 z65 r60 r63 rfl
        have e68 := i_andle z65 r60 rfl
        refine r_ast (n := 940) (K := 2) S X47 (Nat.le_of_ble_eq_true rfl) rfl (fun _ _ => rfl) (ix_of r44 rfl) dX7_addNumber_35 (fun t69 H lc M70 X71 => ?_)
        have I72 := Inv_mu I48 M70 (show Rg (kd 2) _ v64 from (R_of (lo := 0) (hi := 255) r67 rfl))
        have F73 : Fr [(1, 1)] [2] τ t69 := Fr_cell F49 M70 (by decide)
        refine r_aload_n S dX7_addNumber_36 rfl (lv_at hl 1 rfl) ?_
        refine r_dup S dX7_addNumber_37 rfl ?_
        refine r_geti (K := 1) S X71 (Nat.le_of_ble_eq_true rfl) rfl lk7_15_7 (fun _ => ⟨_, rfl, rfl⟩) ((M70.2 1 1 (Or.inl (by decide))).trans M46.1) dX7_addNumber_38 ?_
        refine r_iconst S dX7_addNumber_41 (by decide) (fun v74 z75 => ?_)
        have r76 := R_eq z75
        refine r_iadd S dX7_addNumber_42 (fun v77 z78 => ?_)
        obtain ⟨e79, r80⟩ := i_add (lo := 2) (hi := 938) z78 r44 r76 rfl
        refine r_put (K := 1) (ty := .int) S X71 (Nat.le_of_ble_eq_true rfl) rfl lk7_15_7 (fun _ => ⟨_, rfl, Nat.le_of_ble_eq_true rfl, rfl⟩) (fun _ _ _ h => by cases h; exact ⟨rfl, rfl⟩) rfl rfl dX7_addNumber_43 (fun t81 H lc M82 X83 => ?_)
        have I84 := Inv_mu I72 M82 (show Rg (kd 1) 1 v77 from (R_of (lo := 0) (hi := 940) r80 rfl))
        have F85 : Fr [(1, 1)] [2] τ t81 := Fr_mu F73 M82 (by decide)
        refine r_iinc (k := 0) S dX7_addNumber_46 hl rfl (by decide) (by decide) (fun v86 d87 ls z88 z89 hl => ?_)
        obtain ⟨e90, r91⟩ := i_add (lo := 8) (hi := 8) z88 r55 (R_eq z89) rfl
        have hl : lv_has ls 3 [(2, .int v86), (0, .ref (G.2.2.2.1 1)), (1, .int a0)] := hl
        refine r_goto (tgt := 16) S dX7_addNumber_49 (by decide) ?_
        refine r_iload_n S dX7_addNumber_16 rfl (lv_at hl 0 rfl) ?_
        refine r_if_lt (tgt := 52) S dX7_addNumber_17 (by decide) (fun c92 => ?_) (fun c92 => ?_)
        ·
          exfalso; omega
        ·
          refine r_aload_n S dX7_addNumber_20 rfl (lv_at hl 1 rfl) ?_
          refine r_get (K := 1) (v := .ref (G.2.2.2.1 2)) S X83 (Nat.le_of_ble_eq_true rfl) rfl lk7_9_7 (fun _ => ⟨_, rfl, rfl⟩) dX7_addNumber_21 ?_
          refine r_aload_n S dX7_addNumber_24 rfl (lv_at hl 1 rfl) ?_
          refine r_geti (K := 1) S X83 (Nat.le_of_ble_eq_true rfl) rfl lk7_15_7 (fun _ => ⟨_, rfl, rfl⟩) M82.1 dX7_addNumber_25 ?_
          refine r_iload_n S dX7_addNumber_28 rfl (lv_at hl 2 rfl) ?_
          refine r_iload_n S dX7_addNumber_29 rfl (lv_at hl 0 rfl) ?_
          refine r_iushr S dX7_addNumber_30 (fun v93 z94 => ?_)
          have r96 : R (0) (16777215) v93 := i_ushrc z94 h_a0 r91 rfl
          refine r_sipush S dX7_addNumber_31 (by decide) (fun v97 z98 => ?_)
          have r99 := R_eq z98
          refine r_iand S dX7_addNumber_34 (fun v100 z101 => ?_)
          have r103 : R (0) (255) v100 := i_and2 z101 r96 r99 rfl
          have e104 := i_andle z101 r96 rfl
          refine r_ast (n := 940) (K := 2) S X83 (Nat.le_of_ble_eq_true rfl) rfl (fun _ _ => rfl) (ix_of r80 rfl) dX7_addNumber_35 (fun t105 H lc M106 X107 => ?_)
          have I108 := Inv_mu I84 M106 (show Rg (kd 2) _ v100 from (R_of (lo := 0) (hi := 255) r103 rfl))
          have F109 : Fr [(1, 1)] [2] τ t105 := Fr_cell F85 M106 (by decide)
          refine r_aload_n S dX7_addNumber_36 rfl (lv_at hl 1 rfl) ?_
          refine r_dup S dX7_addNumber_37 rfl ?_
          refine r_geti (K := 1) S X107 (Nat.le_of_ble_eq_true rfl) rfl lk7_15_7 (fun _ => ⟨_, rfl, rfl⟩) ((M106.2 1 1 (Or.inl (by decide))).trans M82.1) dX7_addNumber_38 ?_
          refine r_iconst S dX7_addNumber_41 (by decide) (fun v110 z111 => ?_)
          have r112 := R_eq z111
          refine r_iadd S dX7_addNumber_42 (fun v113 z114 => ?_)
          obtain ⟨e115, r116⟩ := i_add (lo := 3) (hi := 939) z114 r80 r112 rfl
          refine r_put (K := 1) (ty := .int) S X107 (Nat.le_of_ble_eq_true rfl) rfl lk7_15_7 (fun _ => ⟨_, rfl, Nat.le_of_ble_eq_true rfl, rfl⟩) (fun _ _ _ h => by cases h; exact ⟨rfl, rfl⟩) rfl rfl dX7_addNumber_43 (fun t117 H lc M118 X119 => ?_)
          have I120 := Inv_mu I108 M118 (show Rg (kd 1) 1 v113 from (R_of (lo := 0) (hi := 940) r116 rfl))
          have F121 : Fr [(1, 1)] [2] τ t117 := Fr_mu F109 M118 (by decide)
          refine r_iinc (k := 0) S dX7_addNumber_46 hl rfl (by decide) (by decide) (fun v122 d123 ls z124 z125 hl => ?_)
          obtain ⟨e126, r127⟩ := i_add (lo := 0) (hi := 0) z124 r91 (R_eq z125) rfl
          have hl : lv_has ls 3 [(2, .int v122), (0, .ref (G.2.2.2.1 1)), (1, .int a0)] := hl
          refine r_goto (tgt := 16) S dX7_addNumber_49 (by decide) ?_
          refine r_iload_n S dX7_addNumber_16 rfl (lv_at hl 0 rfl) ?_
          refine r_if_lt (tgt := 52) S dX7_addNumber_17 (by decide) (fun c128 => ?_) (fun c128 => ?_)
          ·
            exfalso; omega
          ·
            refine r_aload_n S dX7_addNumber_20 rfl (lv_at hl 1 rfl) ?_
            refine r_get (K := 1) (v := .ref (G.2.2.2.1 2)) S X119 (Nat.le_of_ble_eq_true rfl) rfl lk7_9_7 (fun _ => ⟨_, rfl, rfl⟩) dX7_addNumber_21 ?_
            refine r_aload_n S dX7_addNumber_24 rfl (lv_at hl 1 rfl) ?_
            refine r_geti (K := 1) S X119 (Nat.le_of_ble_eq_true rfl) rfl lk7_15_7 (fun _ => ⟨_, rfl, rfl⟩) M118.1 dX7_addNumber_25 ?_
            refine r_iload_n S dX7_addNumber_28 rfl (lv_at hl 2 rfl) ?_
            refine r_iload_n S dX7_addNumber_29 rfl (lv_at hl 0 rfl) ?_
            refine r_iushr S dX7_addNumber_30 (fun v129 z130 => ?_)
            have r131 := R_any v129
            refine r_sipush S dX7_addNumber_31 (by decide) (fun v132 z133 => ?_)
            have r134 := R_eq z133
            refine r_iand S dX7_addNumber_34 (fun v135 z136 => ?_)
            have r138 : R (0) (255) v135 := i_and2 z136 r131 r134 rfl
            refine r_ast (n := 940) (K := 2) S X119 (Nat.le_of_ble_eq_true rfl) rfl (fun _ _ => rfl) (ix_of r116 rfl) dX7_addNumber_35 (fun t139 H lc M140 X141 => ?_)
            have I142 := Inv_mu I120 M140 (show Rg (kd 2) _ v135 from (R_of (lo := 0) (hi := 255) r138 rfl))
            have F143 : Fr [(1, 1)] [2] τ t139 := Fr_cell F121 M140 (by decide)
            refine r_aload_n S dX7_addNumber_36 rfl (lv_at hl 1 rfl) ?_
            refine r_dup S dX7_addNumber_37 rfl ?_
            refine r_geti (K := 1) S X141 (Nat.le_of_ble_eq_true rfl) rfl lk7_15_7 (fun _ => ⟨_, rfl, rfl⟩) ((M140.2 1 1 (Or.inl (by decide))).trans M118.1) dX7_addNumber_38 ?_
            refine r_iconst S dX7_addNumber_41 (by decide) (fun v144 z145 => ?_)
            have r146 := R_eq z145
            refine r_iadd S dX7_addNumber_42 (fun v147 z148 => ?_)
            obtain ⟨e149, r150⟩ := i_add (lo := 4) (hi := 940) z148 r116 r146 rfl
            refine r_put (K := 1) (ty := .int) S X141 (Nat.le_of_ble_eq_true rfl) rfl lk7_15_7 (fun _ => ⟨_, rfl, Nat.le_of_ble_eq_true rfl, rfl⟩) (fun _ _ _ h => by cases h; exact ⟨rfl, rfl⟩) rfl rfl dX7_addNumber_43 (fun t151 H lc M152 X153 => ?_)
            have I154 := Inv_mu I142 M152 (show Rg (kd 1) 1 v147 from (R_of (lo := 0) (hi := 940) r150 rfl))
            have F155 : Fr [(1, 1)] [2] τ t151 := Fr_mu F143 M152 (by decide)
            refine r_iinc (k := 0) S dX7_addNumber_46 hl rfl (by decide) (by decide) (fun v156 d157 ls z158 z159 hl => ?_)
            obtain ⟨e160, r161⟩ := i_add (lo := -8) (hi := -8) z158 r127 (R_eq z159) rfl
            have hl : lv_has ls 3 [(2, .int v156), (0, .ref (G.2.2.2.1 1)), (1, .int a0)] := hl
            refine r_goto (tgt := 16) S dX7_addNumber_49 (by decide) ?_
            refine r_iload_n S dX7_addNumber_16 rfl (lv_at hl 0 rfl) ?_
            refine r_if_lt (tgt := 52) S dX7_addNumber_17 (by decide) (fun c162 => ?_) (fun c162 => ?_)
            ·
              exact r_vret S hr hlk X153 ⟨I154, F155, (by have h1_0 := congrArg Int32.toInt M152.1; have h2_0 := congrArg Int32.toInt z2; omega), (fun _ => (AP_4 M34 (fun j => ((M46.2 2 j (Or.inl (by decide))).trans rfl)) M70 (fun j => ((M82.2 2 j (Or.inl (by decide))).trans rfl)) M106 (fun j => ((M118.2 2 j (Or.inl (by decide))).trans rfl)) M140 (fun j => ((M152.2 2 j (Or.inl (by decide))).trans rfl)) (by have q := congrArg Int32.toInt z2; omega) (by have q := congrArg Int32.toInt z2; omega) (by have q := congrArg Int32.toInt z2; omega) (by have q := congrArg Int32.toInt z2; omega) (by have q := congrArg Int32.toInt z2; omega) (byt_c (i := 0) z22 (by omega) z29 (by omega) (by decide)) (byt_c (i := 1) z58 (by omega) z65 (by omega) (by decide)) (byt_c (i := 2) z94 (by omega) z101 (by omega) (by decide)) (byt_c (i := 3) z130 (by omega) z136 (by omega) (by decide))))⟩ dX7_addNumber_52
            ·
              exfalso; omega
  ·
    have r163 : R (941) (944) v7 := ⟨by omega, by omega⟩
    have r164 : R (937) (940) v1 := ⟨by omega, by omega⟩
    exact r_vret S hr hlk X ⟨hI, Fr_rfl, (by have h1_0 := congrArg Int32.toInt z2; have h2_0 := congrArg Int32.toInt z2; omega), (fun h => by have q := congrArg Int32.toInt z2; exfalso; omega)⟩ dX7_addNumber_12
