def po_X6_readOne_q3 (τ : Tau)  (a0 : Int32)  (bb : Nat → Int) (nb : Nat) (an mn : List (List Int)) (t : Tk) (k : Nat) (sg : List Bool) (r : Int32) (u : Tau) : Prop := Inv u ∧ Fr [(16, 1), (16, 2), (17, 4), (1, 3), (1, 4), (1, 5), (1, 7), (1, 8), (16, 4)] [18, 19, 20, 201] τ u ∧ YT u ∧ R (0) (1) r ∧ (r.toInt = 1 → R (0) (0) (u 16 1)) ∧ QS bb nb 200 an mn t k sg (dropN sg) r u (fun t => True)
set_option maxHeartbeats 4000000 in
set_option maxRecDepth 100000 in
theorem c_X6_readOne_q3 (l : Launch) (G : Gx) (τ : Tau) (hI : Inv τ) (a0 : Int32) (h_a0 : R (3) (3) a0) (hf_0 : R (1) (1) (τ 16 5)) (hf_1 : R (0) (0) (τ 16 1)) (hYT : YT τ) (bb : Nat → Int) (nb : Nat) (an mn : List (List Int)) (t : Tk) (k : Nat) (sg : List Bool) (hR : RG bb nb 200 an mn τ t) (hon : (τ 16 4).toInt = k) (hs : sg.length + 1 = 3) : Ci l G yX6_readOne cX6_readOne 3 (some .boolean) 21 457 [.ref (G.2.2.2.1 16), .int a0] τ (po_X6_readOne_q3 τ  a0  bb nb an mn t k sg) := by
  unfold Ci
  refine C_of (own := RX6) (by decide) rfl (Nat.le_of_ble_eq_true rfl) ?_
  intro p e s m below meth c ls S hr hlk X hl
  have hl : lv_has ls 3 [(0, .ref (G.2.2.2.1 16)), (1, .int a0)] := hl
  obtain ⟨v1, z2⟩ : ∃ x, τ 16 5 = x := ⟨_, rfl⟩
  rw [z2] at hf_0
  obtain ⟨v3, z4⟩ : ∃ x, τ 16 1 = x := ⟨_, rfl⟩
  rw [z4] at hf_1
  refine r_aload_n S dX6_readOne_0 rfl (lv_at hl 0 rfl) ?_
  refine r_kw2 (q_V (As := []) (rest := []) (K := 16) (ci := 6) S X (c_X6_firstWord_q l G τ hI bb nb an mn t hR) ck6_77 (Nat.le_of_ble_eq_true rfl) rfl (fun _ => ⟨_, rfl⟩) ⟨_, _, rfl⟩ ⟨Nat.le_of_ble_eq_true rfl, Nat.le_of_ble_eq_true rfl⟩ rfl hl.1 rfl (Nat.le_of_ble_eq_true rfl) dX6_readOne_1 ⟨Nat.le_refl 0, Nat.le_refl 0⟩) X (fun _ _ h => h.2.1) (fun y8 t7 H lc q5 X6 h9 => ?_) (fun y8 t7 H lc w10 q5 X6 h_w10 e11 => ?_)
  ·
    unfold po_X6_firstWord_q at q5
    obtain ⟨q12, q13, q14⟩ := q5
    rw [q12] at X6
    refine lv_astore_nN (lv' := [(2, .null), (0, .ref (G.2.2.2.1 16)), (1, .int a0)]) S.1.1 S.1.2.1 dX6_readOne_4 rfl hl (by decide) rfl (fun ls hl => ?_)
    refine lv_aload_nN S.1.1 S.1.2.1 dX6_readOne_5 rfl (lv_at hl 0 rfl) ?_
    refine lv_ifnonnullN S.1.1 S.1.2.1 dX6_readOne_6 ?_
    refine r_aload_n S dX6_readOne_9 rfl (lv_at hl 1 rfl) ?_
    refine r_get (K := 16) (v := .ref (G.2.2.2.1 1)) S X6 (Nat.le_of_ble_eq_true rfl) rfl lk6_39_6 (fun _ => ⟨_, rfl, rfl⟩) dX6_readOne_10 ?_
    refine r_bipush S dX6_readOne_13 (by decide) (fun v15 z16 => ?_)
    have r17 := R_eq z16
    refine r_ki (q_V (As := [.int v15]) (rest := []) (K := 1) (ci := 7) S X6 (c_X7_isSigned_q l G τ hI v15 (R_of (lo := 0) (hi := 65535) r17 rfl) bb nb 200 t hR.1) ck6_81 (Nat.le_of_ble_eq_true rfl) rfl (fun _ => ⟨_, rfl⟩) ⟨_, _, rfl⟩ ⟨Nat.le_of_ble_eq_true rfl, Nat.le_of_ble_eq_true rfl⟩ rfl hl.1 rfl (Nat.le_of_ble_eq_true rfl) dX6_readOne_15 ⟨Nat.le_refl 0, Nat.le_refl 0⟩) X6 (fun v21 t20 H lc q18 X19 => ?_)
    unfold po_X7_isSigned_q at q18
    obtain ⟨q22, q23, q24⟩ := q18
    rw [q22] at X19
    refine r_if_ne (tgt := 27) S dX6_readOne_18 (by decide) (fun c25 => ?_) (fun c25 => ?_)
    ·
      have r26 : R (1) (1) v21 := ⟨by omega, by omega⟩
      have p27 := (q24).mp (by omega)
      refine r_aload_n S dX6_readOne_27 rfl (lv_at hl 1 rfl) ?_
      refine r_getn (K := 16) S X19 (Nat.le_of_ble_eq_true rfl) rfl lk6_28_6 (fun _ => ⟨_, rfl, rfl⟩) dX6_readOne_28 (fun v28 z29 => ?_)
      have r30 : R (0) (20) v28 := rd hI rfl z29
      have e31 : v28.toInt = (k : Int) := by rw [← z29]; exact hon
      refine r_bipush S dX6_readOne_31 (by decide) (fun v32 z33 => ?_)
      have r34 := R_eq z33
      refine r_icmp_ge (tgt := 42) S dX6_readOne_33 (by decide) (fun c35 => ?_) (fun c35 => ?_)
      ·
        have r36 : R (20) (20) v28 := ⟨by omega, by omega⟩
        refine r_aload_n S dX6_readOne_42 rfl (lv_at hl 1 rfl) ?_
        refine r_iconst S dX6_readOne_43 (by decide) (fun v37 z38 => ?_)
        have r39 := R_eq z38
        refine r_ki (q_U (As := [.int v37]) (rest := []) (K := 16) (ci := 6) S X19 (c_X8_fail_t16 l G τ hI v37 (R_of (lo := -2147483648) (hi := 2147483647) r39 rfl)) ck6_48_6 (Nat.le_of_ble_eq_true rfl) rfl (fun _ => ⟨_, rfl⟩) ⟨_, _, rfl⟩ ⟨Nat.le_of_ble_eq_true rfl, Nat.le_of_ble_eq_true rfl⟩ rfl hl.1 rfl (Nat.le_of_ble_eq_true rfl) dX6_readOne_44 ⟨Nat.le_refl 0, Nat.le_refl 0⟩) X19 (fun v43 t42 H lc q40 X41 => ?_)
        unfold po_X8_fail_t16 at q40
        obtain ⟨q44, q45, q46, q47⟩ := q40
        have F48 : Fr [(16, 1), (16, 2), (17, 4), (1, 3), (1, 4), (1, 5), (1, 7), (1, 8), (16, 4)] [18, 19, 20, 201] τ t42 := Fr_call Fr_rfl q45 (by decide)
        exact r_ret S hr hlk X41 ⟨q44, F48, (YT_eq hYT (fun j => ((q45 18 j (by simp [fz])).trans rfl)) (fun j => ((q45 19 j (by simp [fz])).trans rfl))), (R_of q46 rfl), (fun h => by exfalso; omega), (QS_l (by omega) (Hlt_1 Rch_0 (stS_O (stO_4 (Or.inr (Or.inl ⟨p27.1, by have q := p27.2; omega⟩)) (by omega)))) (by rw [q47]; show _ = ((4 : Nat) : Int); omega) (RG_at (RG_fr hR (fun j => ((q45 1 j (by simp [fz])).trans rfl)) (fun j => ((q45 2 j (by simp [fz])).trans rfl)) (fun j => ((q45 201 j (by simp [fz])).trans rfl)) ((q45 23 2 (by decide)).trans rfl) ((q45 23 3 (by decide)).trans rfl) (fun j => ((q45 228 j (by simp [fz])).trans rfl)) (fun j => ((q45 229 j (by simp [fz])).trans rfl)))))⟩ (nr_bool (R_of (lo := 0) (hi := 1) q46 rfl)) dX6_readOne_47
      ·
        have r49 : R (0) (19) v28 := ⟨by omega, by omega⟩
        refine r_iload_n S dX6_readOne_36 rfl (lv_at hl 2 rfl) ?_
        refine r_bipush S dX6_readOne_37 (by decide) (fun v50 z51 => ?_)
        have r52 := R_eq z51
        refine r_icmp_le (tgt := 48) S dX6_readOne_39 (by decide) (fun c53 => ?_) (fun c53 => ?_)
        ·
          refine r_aload_n S dX6_readOne_48 rfl (lv_at hl 1 rfl) ?_
          refine r_dup S dX6_readOne_49 rfl ?_
          refine r_geti (K := 16) S X19 (Nat.le_of_ble_eq_true rfl) rfl lk6_28_6 (fun _ => ⟨_, rfl, rfl⟩) z29 dX6_readOne_50 ?_
          refine r_iconst S dX6_readOne_53 (by decide) (fun v54 z55 => ?_)
          have r56 := R_eq z55
          refine r_iadd S dX6_readOne_54 (fun v57 z58 => ?_)
          obtain ⟨e59, r60⟩ := i_add (lo := 1) (hi := 20) z58 r49 r56 rfl
          refine r_put (K := 16) (ty := .int) S X19 (Nat.le_of_ble_eq_true rfl) rfl lk6_28_6 (fun _ => ⟨_, rfl, Nat.le_of_ble_eq_true rfl, rfl⟩) (fun _ _ _ h => by cases h; exact ⟨rfl, rfl⟩) rfl rfl dX6_readOne_55 (fun t61 H lc M62 X63 => ?_)
          have I64 := Inv_mu hI M62 (show Rg (kd 16) 4 v57 from (R_of (lo := 0) (hi := 20) r60 rfl))
          have F65 : Fr [(16, 1), (16, 2), (17, 4), (1, 3), (1, 4), (1, 5), (1, 7), (1, 8), (16, 4)] [18, 19, 20, 201] τ t61 := Fr_mu Fr_rfl M62 (by decide)
          refine r_aload_n S dX6_readOne_58 rfl (lv_at hl 1 rfl) ?_
          refine r_get (K := 16) (v := .ref (G.2.2.2.1 1)) S X63 (Nat.le_of_ble_eq_true rfl) rfl lk6_39_6 (fun _ => ⟨_, rfl, rfl⟩) dX6_readOne_59 ?_
          refine r_kv (q_V (As := []) (rest := []) (K := 1) (ci := 7) S X63 (c_X7_step_q l G t61 I64 bb nb 200 t.2.2 (RT_st (RG_fr hR (fun j => ((M62.2 1 j (Or.inl (by decide))).trans rfl)) (fun j => ((M62.2 2 j (Or.inl (by decide))).trans rfl)) (fun j => ((M62.2 201 j (Or.inl (by decide))).trans rfl)) ((M62.2 23 2 (Or.inl (by decide))).trans rfl) ((M62.2 23 3 (Or.inl (by decide))).trans rfl) (fun j => ((M62.2 228 j (Or.inl (by decide))).trans rfl)) (fun j => ((M62.2 229 j (Or.inl (by decide))).trans rfl))).1 (Or.inr (Or.inr p27.1))).1 (RT_st (RG_fr hR (fun j => ((M62.2 1 j (Or.inl (by decide))).trans rfl)) (fun j => ((M62.2 2 j (Or.inl (by decide))).trans rfl)) (fun j => ((M62.2 201 j (Or.inl (by decide))).trans rfl)) ((M62.2 23 2 (Or.inl (by decide))).trans rfl) ((M62.2 23 3 (Or.inl (by decide))).trans rfl) (fun j => ((M62.2 228 j (Or.inl (by decide))).trans rfl)) (fun j => ((M62.2 229 j (Or.inl (by decide))).trans rfl))).1 (Or.inr (Or.inr p27.1))).2.1 (RT_st (RG_fr hR (fun j => ((M62.2 1 j (Or.inl (by decide))).trans rfl)) (fun j => ((M62.2 2 j (Or.inl (by decide))).trans rfl)) (fun j => ((M62.2 201 j (Or.inl (by decide))).trans rfl)) ((M62.2 23 2 (Or.inl (by decide))).trans rfl) ((M62.2 23 3 (Or.inl (by decide))).trans rfl) (fun j => ((M62.2 228 j (Or.inl (by decide))).trans rfl)) (fun j => ((M62.2 229 j (Or.inl (by decide))).trans rfl))).1 (Or.inr (Or.inr p27.1))).2.2) ck6_64 (Nat.le_of_ble_eq_true rfl) rfl (fun _ => ⟨_, rfl⟩) ⟨_, _, rfl⟩ ⟨Nat.le_of_ble_eq_true rfl, Nat.le_of_ble_eq_true rfl⟩ rfl hl.1 rfl (Nat.le_of_ble_eq_true rfl) dX6_readOne_62 ⟨Nat.le_refl 0, Nat.le_refl 0⟩) X63 (fun t68 H lc q66 X67 => ?_)
          unfold po_X7_step_q at q66
          obtain ⟨q69, q70, q71⟩ := q66
          have F72 : Fr [(16, 1), (16, 2), (17, 4), (1, 3), (1, 4), (1, 5), (1, 7), (1, 8), (16, 4)] [18, 19, 20, 201] τ t68 := Fr_call F65 q70 (by decide)
          have hR73 : RG bb nb 200 an mn t68 (nx bb nb 200 t) := ⟨q71, NM2_fr hR.2 ((q70 23 2 (by decide)).trans ((M62.2 23 2 (Or.inl (by decide))).trans rfl)) ((q70 23 3 (by decide)).trans ((M62.2 23 3 (Or.inl (by decide))).trans rfl)) (fun j => ((q70 228 j (by simp [fz])).trans ((M62.2 228 j (Or.inl (by decide))).trans rfl))) (fun j => ((q70 229 j (by simp [fz])).trans ((M62.2 229 j (Or.inl (by decide))).trans rfl)))⟩
          refine lv_aload_nN S.1.1 S.1.2.1 dX6_readOne_65 rfl (lv_at hl 0 rfl) ?_
          refine lv_ifnonnullN S.1.1 S.1.2.1 dX6_readOne_66 ?_
          refine r_aload_n S dX6_readOne_69 rfl (lv_at hl 1 rfl) ?_
          refine r_iload_n S dX6_readOne_70 rfl (lv_at hl 2 rfl) ?_
          refine r_iconst S dX6_readOne_71 (by decide) (fun v74 z75 => ?_)
          have r76 := R_eq z75
          refine r_iadd S dX6_readOne_72 (fun v77 z78 => ?_)
          obtain ⟨e79, r80⟩ := i_add (lo := 4) (hi := 4) z78 h_a0 r76 rfl
          refine r_ki (q_V (As := [.int v77]) (rest := []) (K := 16) (ci := 6) S X67 (c_X6_readCond_q4 l G t68 q69 v77 r80 (by rw [((q70 16 5 (by decide)).trans ((M62.2 16 5 (Or.inr (by decide))).trans z2))]; exact R_of hf_0 rfl) (by rw [((q70 16 1 (by decide)).trans ((M62.2 16 1 (Or.inr (by decide))).trans z4))]; exact R_of hf_1 rfl) (YT_eq hYT (fun j => ((q70 18 j (by simp [fz])).trans ((M62.2 18 j (Or.inl (by decide))).trans rfl))) (fun j => ((q70 19 j (by simp [fz])).trans ((M62.2 19 j (Or.inl (by decide))).trans rfl)))) bb nb an mn (nx bb nb 200 t) (k + 1) (false :: sg) hR73 (by rw [((q70 16 4 (by decide)).trans M62.1)]; omega) (by rw [List.length_cons]; omega) rfl) ck6_35 (Nat.le_of_ble_eq_true rfl) rfl (fun _ => ⟨_, rfl⟩) ⟨_, _, rfl⟩ ⟨Nat.le_of_ble_eq_true rfl, Nat.le_of_ble_eq_true rfl⟩ rfl hl.1 rfl (Nat.le_of_ble_eq_true rfl) dX6_readOne_73 ⟨Nat.le_refl 0, Nat.le_refl 0⟩) X67 (fun v84 t83 H lc q81 X82 => ?_)
          unfold po_X6_readCond_q4 at q81
          obtain ⟨q85, q86, q87, q88, q89, q90⟩ := q81
          have F91 : Fr [(16, 1), (16, 2), (17, 4), (1, 3), (1, 4), (1, 5), (1, 7), (1, 8), (16, 4)] [18, 19, 20, 201] τ t83 := Fr_call F72 q86 (by decide)
          refine r_if_eq (tgt := 92) S dX6_readOne_76 (by decide) (fun c92 => ?_) (fun c92 => ?_)
          ·
            have r93 : R (0) (0) v84 := ⟨by omega, by omega⟩
            have p94 := q90.1 (by omega)
            obtain ⟨q95, e96, h97, h98⟩ := p94
            refine r_iconst S dX6_readOne_92 (by decide) (fun v99 z100 => ?_)
            have r101 := R_eq z100
            exact r_ret S hr hlk X82 ⟨q85, F91, q87, (R_of r101 rfl), (fun h => by exfalso; omega), (QS_l (by omega) (Hlt_tr (Rch_1 Rch_0 (stS_O (stO_o ⟨p27.1, by have q := p27.2; omega⟩ (fun h => by omega)))) e96) h97 h98)⟩ (nr_bool (R_of (lo := 0) (hi := 1) r101 rfl)) dX6_readOne_93
          ·
            have r102 : R (1) (1) v84 := ⟨by omega, by omega⟩
            have p103 := q89 (by omega)
            obtain ⟨v104, z105⟩ : ∃ x, t83 16 1 = x := ⟨_, rfl⟩
            rw [z105] at p103
            have p106 := q90.2 (by omega)
            obtain ⟨t107, k108, hR109, h4110, hk111, hP112, hr113⟩ := p106
            refine r_aload_n S dX6_readOne_79 rfl (lv_at hl 1 rfl) ?_
            refine r_bipush S dX6_readOne_80 (by decide) (fun v114 z115 => ?_)
            have r116 := R_eq z115
            refine r_ki (q_U (As := [.int v114]) (rest := []) (K := 16) (ci := 6) S X82 (c_X8_takeSign_t16 l G t83 q85 v114 r116 (by rw [z105]; exact R_of p103 rfl) bb nb an mn t107 hR109 ) ck6_85_6 (Nat.le_of_ble_eq_true rfl) rfl (fun _ => ⟨_, rfl⟩) ⟨_, _, rfl⟩ ⟨Nat.le_of_ble_eq_true rfl, Nat.le_of_ble_eq_true rfl⟩ rfl hl.1 rfl (Nat.le_of_ble_eq_true rfl) dX6_readOne_82 ⟨Nat.le_refl 0, Nat.le_refl 0⟩) X82 (fun v120 t119 H lc q117 X118 => ?_)
            unfold po_X8_takeSign_t16 at q117
            obtain ⟨q121, q122, q123, q124, q125⟩ := q117
            have F126 : Fr [(16, 1), (16, 2), (17, 4), (1, 3), (1, 4), (1, 5), (1, 7), (1, 8), (16, 4)] [18, 19, 20, 201] τ t119 := Fr_call F91 q122 (by decide)
            refine r_if_eq (tgt := 92) S dX6_readOne_85 (by decide) (fun c127 => ?_) (fun c127 => ?_)
            ·
              have r128 : R (0) (0) v120 := ⟨by omega, by omega⟩
              have p129 := (QY_0 q125) (by omega)
              obtain ⟨q130, e131, h132, h133⟩ := p129
              refine r_iconst S dX6_readOne_92 (by decide) (fun v134 z135 => ?_)
              have r136 := R_eq z135
              exact r_ret S hr hlk X118 ⟨q121, F126, (YT_eq q87 (fun j => ((q122 18 j (by simp [fz])).trans rfl)) (fun j => ((q122 19 j (by simp [fz])).trans rfl))), (R_of r136 rfl), (fun h => by exfalso; omega), (QS_l (by omega) (Hlt_1 (Rch_tr (Rch_1 Rch_0 (stS_O (stO_o ⟨p27.1, by have q := p27.2; omega⟩ (fun h => by omega)))) hr113) (stS_W (stW_fg hP112.1 hP112.2 e131))) h132 h133)⟩ (nr_bool (R_of (lo := 0) (hi := 1) r136 rfl)) dX6_readOne_93
            ·
              have r137 : R (1) (1) v120 := ⟨by omega, by omega⟩
              have p138 := q124 (by omega)
              obtain ⟨v139, z140⟩ : ∃ x, t119 16 1 = x := ⟨_, rfl⟩
              rw [z140] at p138
              have p141 := (QY_1 q125) (by omega)
              obtain ⟨g142, e143, hP144⟩ := p141
              refine r_iconst S dX6_readOne_88 (by decide) (fun v145 z146 => ?_)
              have r147 := R_eq z146
              refine r_goto (tgt := 93) S dX6_readOne_89 (by decide) ?_
              exact r_ret S hr hlk X118 ⟨q121, F126, (YT_eq q87 (fun j => ((q122 18 j (by simp [fz])).trans rfl)) (fun j => ((q122 19 j (by simp [fz])).trans rfl))), (R_of r147 rfl), (fun h => (by rw [z140]; exact R_of p138 rfl)), (QS_r (by omega) hP144 (by rw [show t119 16 4 = t83 16 4 from ((q122 16 4 (by decide)).trans rfl)]; exact h4110) ⟨by omega, by omega⟩ trivial (Rch_1 (Rch_tr (Rch_1 Rch_0 (stS_O (stO_o ⟨p27.1, by have q := p27.2; omega⟩ (fun h => by omega)))) hr113) (stS_W (stW_cg e143))))⟩ (nr_bool (R_of (lo := 0) (hi := 1) r147 rfl)) dX6_readOne_93
        ·
          exfalso; omega
    ·
      have r148 : R (0) (0) v21 := ⟨by omega, by omega⟩
      have p149 := (iff_n q24) (by omega)
      refine r_aload_n S dX6_readOne_21 rfl (lv_at hl 1 rfl) ?_
      refine r_iconst S dX6_readOne_22 (by decide) (fun v150 z151 => ?_)
      have r152 := R_eq z151
      refine r_ki (q_U (As := [.int v150]) (rest := []) (K := 16) (ci := 6) S X19 (c_X8_fail_t16 l G τ hI v150 (R_of (lo := -2147483648) (hi := 2147483647) r152 rfl)) ck6_48_6 (Nat.le_of_ble_eq_true rfl) rfl (fun _ => ⟨_, rfl⟩) ⟨_, _, rfl⟩ ⟨Nat.le_of_ble_eq_true rfl, Nat.le_of_ble_eq_true rfl⟩ rfl hl.1 rfl (Nat.le_of_ble_eq_true rfl) dX6_readOne_23 ⟨Nat.le_refl 0, Nat.le_refl 0⟩) X19 (fun v156 t155 H lc q153 X154 => ?_)
      unfold po_X8_fail_t16 at q153
      obtain ⟨q157, q158, q159, q160⟩ := q153
      have F161 : Fr [(16, 1), (16, 2), (17, 4), (1, 3), (1, 4), (1, 5), (1, 7), (1, 8), (16, 4)] [18, 19, 20, 201] τ t155 := Fr_call Fr_rfl q158 (by decide)
      exact r_ret S hr hlk X154 ⟨q157, F161, (YT_eq hYT (fun j => ((q158 18 j (by simp [fz])).trans rfl)) (fun j => ((q158 19 j (by simp [fz])).trans rfl))), (R_of q159 rfl), (fun h => by exfalso; omega), (QS_l (by omega) (Hlt_1 Rch_0 (stS_O (stO_1 (fs_no q14 (by omega) (fun h => p149 ⟨h.1, by have q := h.2; omega⟩))))) (by rw [q160]; show _ = ((1 : Nat) : Int); omega) (RG_at (RG_fr hR (fun j => ((q158 1 j (by simp [fz])).trans rfl)) (fun j => ((q158 2 j (by simp [fz])).trans rfl)) (fun j => ((q158 201 j (by simp [fz])).trans rfl)) ((q158 23 2 (by decide)).trans rfl) ((q158 23 3 (by decide)).trans rfl) (fun j => ((q158 228 j (by simp [fz])).trans rfl)) (fun j => ((q158 229 j (by simp [fz])).trans rfl)))))⟩ (nr_bool (R_of (lo := 0) (hi := 1) q159 rfl)) dX6_readOne_26
  ·
    unfold po_X6_firstWord_q at q5
    obtain ⟨q162, q163, q164⟩ := q5
    rw [q162] at X6
    refine r_astore_n (lv' := [(2, .ref (G.2.2.1 w10)), (0, .ref (G.2.2.2.1 16)), (1, .int a0)]) S dX6_readOne_4 rfl hl (by decide) rfl (fun ls hl => ?_)
    refine r_aload_n S dX6_readOne_5 rfl (lv_at hl 0 rfl) ?_
    refine lv_ifnonnull (tgt := 27) S.1.1 S.1.2.1 dX6_readOne_6 (by decide) ?_
    refine r_aload_n S dX6_readOne_27 rfl (lv_at hl 1 rfl) ?_
    refine r_getn (K := 16) S X6 (Nat.le_of_ble_eq_true rfl) rfl lk6_28_6 (fun _ => ⟨_, rfl, rfl⟩) dX6_readOne_28 (fun v165 z166 => ?_)
    have r167 : R (0) (20) v165 := rd hI rfl z166
    have e168 : v165.toInt = (k : Int) := by rw [← z166]; exact hon
    refine r_bipush S dX6_readOne_31 (by decide) (fun v169 z170 => ?_)
    have r171 := R_eq z170
    refine r_icmp_ge (tgt := 42) S dX6_readOne_33 (by decide) (fun c172 => ?_) (fun c172 => ?_)
    ·
      have r173 : R (20) (20) v165 := ⟨by omega, by omega⟩
      refine r_aload_n S dX6_readOne_42 rfl (lv_at hl 1 rfl) ?_
      refine r_iconst S dX6_readOne_43 (by decide) (fun v174 z175 => ?_)
      have r176 := R_eq z175
      refine r_ki (q_U (As := [.int v174]) (rest := []) (K := 16) (ci := 6) S X6 (c_X8_fail_t16 l G τ hI v174 (R_of (lo := -2147483648) (hi := 2147483647) r176 rfl)) ck6_48_6 (Nat.le_of_ble_eq_true rfl) rfl (fun _ => ⟨_, rfl⟩) ⟨_, _, rfl⟩ ⟨Nat.le_of_ble_eq_true rfl, Nat.le_of_ble_eq_true rfl⟩ rfl hl.1 rfl (Nat.le_of_ble_eq_true rfl) dX6_readOne_44 ⟨Nat.le_refl 0, Nat.le_refl 0⟩) X6 (fun v180 t179 H lc q177 X178 => ?_)
      unfold po_X8_fail_t16 at q177
      obtain ⟨q181, q182, q183, q184⟩ := q177
      have F185 : Fr [(16, 1), (16, 2), (17, 4), (1, 3), (1, 4), (1, 5), (1, 7), (1, 8), (16, 4)] [18, 19, 20, 201] τ t179 := Fr_call Fr_rfl q182 (by decide)
      exact r_ret S hr hlk X178 ⟨q181, F185, (YT_eq hYT (fun j => ((q182 18 j (by simp [fz])).trans rfl)) (fun j => ((q182 19 j (by simp [fz])).trans rfl))), (R_of q183 rfl), (fun h => by exfalso; omega), (QS_l (by omega) (Hlt_1 Rch_0 (stS_O (stO_4 (fs_w (i := w10) q164 (by omega)) (by omega)))) (by rw [q184]; show _ = ((4 : Nat) : Int); omega) (RG_at (RG_fr hR (fun j => ((q182 1 j (by simp [fz])).trans rfl)) (fun j => ((q182 2 j (by simp [fz])).trans rfl)) (fun j => ((q182 201 j (by simp [fz])).trans rfl)) ((q182 23 2 (by decide)).trans rfl) ((q182 23 3 (by decide)).trans rfl) (fun j => ((q182 228 j (by simp [fz])).trans rfl)) (fun j => ((q182 229 j (by simp [fz])).trans rfl)))))⟩ (nr_bool (R_of (lo := 0) (hi := 1) q183 rfl)) dX6_readOne_47
    ·
      have r186 : R (0) (19) v165 := ⟨by omega, by omega⟩
      refine r_iload_n S dX6_readOne_36 rfl (lv_at hl 2 rfl) ?_
      refine r_bipush S dX6_readOne_37 (by decide) (fun v187 z188 => ?_)
      have r189 := R_eq z188
      refine r_icmp_le (tgt := 48) S dX6_readOne_39 (by decide) (fun c190 => ?_) (fun c190 => ?_)
      ·
        refine r_aload_n S dX6_readOne_48 rfl (lv_at hl 1 rfl) ?_
        refine r_dup S dX6_readOne_49 rfl ?_
        refine r_geti (K := 16) S X6 (Nat.le_of_ble_eq_true rfl) rfl lk6_28_6 (fun _ => ⟨_, rfl, rfl⟩) z166 dX6_readOne_50 ?_
        refine r_iconst S dX6_readOne_53 (by decide) (fun v191 z192 => ?_)
        have r193 := R_eq z192
        refine r_iadd S dX6_readOne_54 (fun v194 z195 => ?_)
        obtain ⟨e196, r197⟩ := i_add (lo := 1) (hi := 20) z195 r186 r193 rfl
        refine r_put (K := 16) (ty := .int) S X6 (Nat.le_of_ble_eq_true rfl) rfl lk6_28_6 (fun _ => ⟨_, rfl, Nat.le_of_ble_eq_true rfl, rfl⟩) (fun _ _ _ h => by cases h; exact ⟨rfl, rfl⟩) rfl rfl dX6_readOne_55 (fun t198 H lc M199 X200 => ?_)
        have I201 := Inv_mu hI M199 (show Rg (kd 16) 4 v194 from (R_of (lo := 0) (hi := 20) r197 rfl))
        have F202 : Fr [(16, 1), (16, 2), (17, 4), (1, 3), (1, 4), (1, 5), (1, 7), (1, 8), (16, 4)] [18, 19, 20, 201] τ t198 := Fr_mu Fr_rfl M199 (by decide)
        refine r_aload_n S dX6_readOne_58 rfl (lv_at hl 1 rfl) ?_
        refine r_get (K := 16) (v := .ref (G.2.2.2.1 1)) S X200 (Nat.le_of_ble_eq_true rfl) rfl lk6_39_6 (fun _ => ⟨_, rfl, rfl⟩) dX6_readOne_59 ?_
        refine r_kv (q_V (As := []) (rest := []) (K := 1) (ci := 7) S X200 (c_X7_step_q l G t198 I201 bb nb 200 t.2.2 (RT_st (RG_fr hR (fun j => ((M199.2 1 j (Or.inl (by decide))).trans rfl)) (fun j => ((M199.2 2 j (Or.inl (by decide))).trans rfl)) (fun j => ((M199.2 201 j (Or.inl (by decide))).trans rfl)) ((M199.2 23 2 (Or.inl (by decide))).trans rfl) ((M199.2 23 3 (Or.inl (by decide))).trans rfl) (fun j => ((M199.2 228 j (Or.inl (by decide))).trans rfl)) (fun j => ((M199.2 229 j (Or.inl (by decide))).trans rfl))).1 (Or.inl (q164.2 w10 (by omega)).1.1)).1 (RT_st (RG_fr hR (fun j => ((M199.2 1 j (Or.inl (by decide))).trans rfl)) (fun j => ((M199.2 2 j (Or.inl (by decide))).trans rfl)) (fun j => ((M199.2 201 j (Or.inl (by decide))).trans rfl)) ((M199.2 23 2 (Or.inl (by decide))).trans rfl) ((M199.2 23 3 (Or.inl (by decide))).trans rfl) (fun j => ((M199.2 228 j (Or.inl (by decide))).trans rfl)) (fun j => ((M199.2 229 j (Or.inl (by decide))).trans rfl))).1 (Or.inl (q164.2 w10 (by omega)).1.1)).2.1 (RT_st (RG_fr hR (fun j => ((M199.2 1 j (Or.inl (by decide))).trans rfl)) (fun j => ((M199.2 2 j (Or.inl (by decide))).trans rfl)) (fun j => ((M199.2 201 j (Or.inl (by decide))).trans rfl)) ((M199.2 23 2 (Or.inl (by decide))).trans rfl) ((M199.2 23 3 (Or.inl (by decide))).trans rfl) (fun j => ((M199.2 228 j (Or.inl (by decide))).trans rfl)) (fun j => ((M199.2 229 j (Or.inl (by decide))).trans rfl))).1 (Or.inl (q164.2 w10 (by omega)).1.1)).2.2) ck6_64 (Nat.le_of_ble_eq_true rfl) rfl (fun _ => ⟨_, rfl⟩) ⟨_, _, rfl⟩ ⟨Nat.le_of_ble_eq_true rfl, Nat.le_of_ble_eq_true rfl⟩ rfl hl.1 rfl (Nat.le_of_ble_eq_true rfl) dX6_readOne_62 ⟨Nat.le_refl 0, Nat.le_refl 0⟩) X200 (fun t205 H lc q203 X204 => ?_)
        unfold po_X7_step_q at q203
        obtain ⟨q206, q207, q208⟩ := q203
        have F209 : Fr [(16, 1), (16, 2), (17, 4), (1, 3), (1, 4), (1, 5), (1, 7), (1, 8), (16, 4)] [18, 19, 20, 201] τ t205 := Fr_call F202 q207 (by decide)
        have hR210 : RG bb nb 200 an mn t205 (nx bb nb 200 t) := ⟨q208, NM2_fr hR.2 ((q207 23 2 (by decide)).trans ((M199.2 23 2 (Or.inl (by decide))).trans rfl)) ((q207 23 3 (by decide)).trans ((M199.2 23 3 (Or.inl (by decide))).trans rfl)) (fun j => ((q207 228 j (by simp [fz])).trans ((M199.2 228 j (Or.inl (by decide))).trans rfl))) (fun j => ((q207 229 j (by simp [fz])).trans ((M199.2 229 j (Or.inl (by decide))).trans rfl)))⟩
        refine r_aload_n S dX6_readOne_65 rfl (lv_at hl 0 rfl) ?_
        refine lv_ifnonnull (tgt := 94) S.1.1 S.1.2.1 dX6_readOne_66 (by decide) ?_
        refine r_aload_n S dX6_readOne_94 rfl (lv_at hl 0 rfl) ?_
        refine r_wst (i := 15) S X204 (by decide) kw74 dX6_readOne_95 ?_
        refine r_cacmp_ne (tgt := 127) S h_w10 (by decide) dX6_readOne_98 (by decide) (fun c211 => ?_) (fun c211 => ?_)
        ·
          refine r_aload_n S dX6_readOne_127 rfl (lv_at hl 1 rfl) ?_
          refine r_aload_n S dX6_readOne_128 rfl (lv_at hl 0 rfl) ?_
          refine r_ki (q_V (As := [.ref (G.2.2.1 w10)]) (rest := []) (K := 16) (ci := 6) S X204 (c_X6_readPlainOne_q l G t205 q206 w10 h_w10 (by rw [((q207 16 5 (by decide)).trans ((M199.2 16 5 (Or.inr (by decide))).trans z2))]; exact R_of hf_0 rfl) (by rw [((q207 16 1 (by decide)).trans ((M199.2 16 1 (Or.inr (by decide))).trans z4))]; exact R_of hf_1 rfl) (YT_eq hYT (fun j => ((q207 18 j (by simp [fz])).trans ((M199.2 18 j (Or.inl (by decide))).trans rfl))) (fun j => ((q207 19 j (by simp [fz])).trans ((M199.2 19 j (Or.inl (by decide))).trans rfl)))) bb nb an mn t hR210 (q164.2 w10 (by omega)).1 ⟨(q164.2 w10 (by omega)).2, by omega⟩) ck6_91 (Nat.le_of_ble_eq_true rfl) rfl (fun _ => ⟨_, rfl⟩) ⟨_, _, rfl⟩ ⟨Nat.le_of_ble_eq_true rfl, Nat.le_of_ble_eq_true rfl⟩ rfl hl.1 rfl (Nat.le_of_ble_eq_true rfl) dX6_readOne_129 ⟨Nat.le_refl 0, Nat.le_refl 0⟩) X204 (fun v215 t214 H lc q212 X213 => ?_)
          unfold po_X6_readPlainOne_q at q212
          obtain ⟨q216, q217, q218, q219, q220, q221⟩ := q212
          have F222 : Fr [(16, 1), (16, 2), (17, 4), (1, 3), (1, 4), (1, 5), (1, 7), (1, 8), (16, 4)] [18, 19, 20, 201] τ t214 := Fr_call F209 q217 (by decide)
          exact r_ret S hr hlk X213 ⟨q216, F222, q218, q219, (fun h => q220 h), (QS_y q221 (by omega) (lf_i (q164.2 w10 (by omega)).1 (q164.2 w10 (by omega)).2 (by omega)) (fun h => by omega) (by rw [show t214 16 4 = t205 16 4 from ((q217 16 4 (by decide)).trans rfl), ((q207 16 4 (by decide)).trans M199.1)]; omega))⟩ (nr_bool (R_of (lo := 0) (hi := 1) q219 rfl)) dX6_readOne_132
        ·
          refine r_aload_n S dX6_readOne_101 rfl (lv_at hl 1 rfl) ?_
          refine r_iload_n S dX6_readOne_102 rfl (lv_at hl 2 rfl) ?_
          refine r_iconst S dX6_readOne_103 (by decide) (fun v223 z224 => ?_)
          have r225 := R_eq z224
          refine r_iadd S dX6_readOne_104 (fun v226 z227 => ?_)
          obtain ⟨e228, r229⟩ := i_add (lo := 4) (hi := 4) z227 h_a0 r225 rfl
          refine r_ki (q_V (As := [.int v226]) (rest := []) (K := 16) (ci := 6) S X204 (c_X6_readOne_q4 l G t205 q206 v226 r229 (by rw [((q207 16 5 (by decide)).trans ((M199.2 16 5 (Or.inr (by decide))).trans z2))]; exact R_of hf_0 rfl) (by rw [((q207 16 1 (by decide)).trans ((M199.2 16 1 (Or.inr (by decide))).trans z4))]; exact R_of hf_1 rfl) (YT_eq hYT (fun j => ((q207 18 j (by simp [fz])).trans ((M199.2 18 j (Or.inl (by decide))).trans rfl))) (fun j => ((q207 19 j (by simp [fz])).trans ((M199.2 19 j (Or.inl (by decide))).trans rfl)))) bb nb an mn (nx bb nb 200 t) (k + 1) (true :: sg) hR210 (by rw [((q207 16 4 (by decide)).trans M199.1)]; omega) (by rw [List.length_cons]; omega)) ck6_71 (Nat.le_of_ble_eq_true rfl) rfl (fun _ => ⟨_, rfl⟩) ⟨_, _, rfl⟩ ⟨Nat.le_of_ble_eq_true rfl, Nat.le_of_ble_eq_true rfl⟩ rfl hl.1 rfl (Nat.le_of_ble_eq_true rfl) dX6_readOne_105 ⟨Nat.le_refl 0, Nat.le_refl 0⟩) X204 (fun v233 t232 H lc q230 X231 => ?_)
          unfold po_X6_readOne_q4 at q230
          obtain ⟨q234, q235, q236, q237, q238, q239⟩ := q230
          have F240 : Fr [(16, 1), (16, 2), (17, 4), (1, 3), (1, 4), (1, 5), (1, 7), (1, 8), (16, 4)] [18, 19, 20, 201] τ t232 := Fr_call F209 q235 (by decide)
          refine r_if_ne (tgt := 113) S dX6_readOne_108 (by decide) (fun c241 => ?_) (fun c241 => ?_)
          ·
            have r242 : R (1) (1) v233 := ⟨by omega, by omega⟩
            have p243 := q238 (by omega)
            obtain ⟨v244, z245⟩ : ∃ x, t232 16 1 = x := ⟨_, rfl⟩
            rw [z245] at p243
            have p246 := q239.2 (by omega)
            obtain ⟨t247, k248, hR249, h4250, hk251, hP252, hr253⟩ := p246
            refine r_aload_n S dX6_readOne_113 rfl (lv_at hl 1 rfl) ?_
            refine r_get (K := 16) (v := .ref (G.2.2.2.1 17)) S X231 (Nat.le_of_ble_eq_true rfl) rfl lk6_14_6 (fun _ => ⟨_, rfl, rfl⟩) dX6_readOne_114 ?_
            refine r_wst (i := 15) S X231 (by decide) kw74 dX6_readOne_117 ?_
            refine r_iconst S dX6_readOne_120 (by decide) (fun v254 z255 => ?_)
            have r256 := R_eq z255
            refine r_iconst S dX6_readOne_121 (by decide) (fun v257 z258 => ?_)
            have r259 := R_eq z258
            refine r_kv (q_V (As := [.ref (G.2.2.1 15), .int v254, .int v257]) (rest := []) (K := 17) (ci := 5) S X231 (c_X5_add l G t232 q234 15 (by decide) v254 v257 (R_of (lo := -2147483648) (hi := 2147483647) r256 rfl) (R_of (lo := 0) (hi := 99) r259 rfl) q236 (by omega)) ck6_67 (Nat.le_of_ble_eq_true rfl) rfl (fun _ => ⟨_, rfl⟩) ⟨_, _, rfl⟩ ⟨Nat.le_of_ble_eq_true rfl, Nat.le_of_ble_eq_true rfl⟩ rfl hl.1 rfl (Nat.le_of_ble_eq_true rfl) dX6_readOne_122 ⟨Nat.le_refl 0, Nat.le_refl 0⟩) X231 (fun t262 H lc q260 X261 => ?_)
            unfold po_X5_add at q260
            obtain ⟨q263, q264, q265⟩ := q260
            have F266 : Fr [(16, 1), (16, 2), (17, 4), (1, 3), (1, 4), (1, 5), (1, 7), (1, 8), (16, 4)] [18, 19, 20, 201] τ t262 := Fr_call F240 q264 (by decide)
            refine r_iconst S dX6_readOne_125 (by decide) (fun v267 z268 => ?_)
            have r269 := R_eq z268
            exact r_ret S hr hlk X261 ⟨q263, F266, q265, (R_of r269 rfl), (fun h => (by rw [((q264 16 1 (by decide)).trans z245)]; exact R_of p243 rfl)), (QS_r (by omega) (RG_fr hR249 (fun j => ((q264 1 j (by simp [fz])).trans rfl)) (fun j => ((q264 2 j (by simp [fz])).trans rfl)) (fun j => ((q264 201 j (by simp [fz])).trans rfl)) ((q264 23 2 (by decide)).trans rfl) ((q264 23 3 (by decide)).trans rfl) (fun j => ((q264 228 j (by simp [fz])).trans rfl)) (fun j => ((q264 229 j (by simp [fz])).trans rfl))) (by rw [show t262 16 4 = t232 16 4 from ((q264 16 4 (by decide)).trans rfl)]; exact h4250) ⟨by omega, by omega⟩ trivial (Rch_tr (Rch_1 Rch_0 (stS_O (stO_n (w15 (q164.2 w10 (by omega)).1 (by omega)) (fun h => by omega)))) hr253))⟩ (nr_bool (R_of (lo := 0) (hi := 1) r269 rfl)) dX6_readOne_126
          ·
            have r270 : R (0) (0) v233 := ⟨by omega, by omega⟩
            have p271 := q239.1 (by omega)
            obtain ⟨q272, e273, h274, h275⟩ := p271
            refine r_iconst S dX6_readOne_111 (by decide) (fun v276 z277 => ?_)
            have r278 := R_eq z277
            exact r_ret S hr hlk X231 ⟨q234, F240, q236, (R_of r278 rfl), (fun h => by exfalso; omega), (QS_l (by omega) (Hlt_tr (Rch_1 Rch_0 (stS_O (stO_n (w15 (q164.2 w10 (by omega)).1 (by omega)) (fun h => by omega)))) e273) h274 h275)⟩ (nr_bool (R_of (lo := 0) (hi := 1) r278 rfl)) dX6_readOne_112
      ·
        exfalso; omega
def po_X6_readAll_q3 (τ : Tau)  (a0 : Int32)  (bb : Nat → Int) (nb : Nat) (an mn : List (List Int)) (t : Tk) (k : Nat) (sg : List Bool) (r : Int32) (u : Tau) : Prop := Inv u ∧ Fr [(16, 1), (16, 2), (17, 4), (1, 3), (1, 4), (1, 5), (1, 7), (1, 8), (16, 4)] [18, 19, 20, 201] τ u ∧ YT u ∧ R (0) (1) r ∧ (r.toInt = 1 → R (0) (0) (u 16 1)) ∧ QS bb nb 200 an mn t k sg sg r u (fun t => ¬ isW bb 14 t)
set_option maxHeartbeats 4000000 in
set_option maxRecDepth 100000 in
theorem c_X6_readAll_q3 (l : Launch) (G : Gx) (τ : Tau) (hI : Inv τ) (a0 : Int32) (h_a0 : R (3) (3) a0) (hf_0 : R (1) (1) (τ 16 5)) (hf_1 : R (0) (0) (τ 16 1)) (hYT : YT τ) (bb : Nat → Int) (nb : Nat) (an mn : List (List Int)) (t : Tk) (k : Nat) (sg : List Bool) (hR : RG bb nb 200 an mn τ t) (hon : (τ 16 4).toInt = k) (hs : sg.length + 1 = 3) (hd : dropN sg = sg) : Ci l G yX6_readAll cX6_readAll 3 (some .boolean) 22 479 [.ref (G.2.2.2.1 16), .int a0] τ (po_X6_readAll_q3 τ  a0  bb nb an mn t k sg) := by
  unfold Ci
  refine C_of (own := RX6) (by decide) rfl (Nat.le_of_ble_eq_true rfl) ?_
  intro p e s m below meth c ls S hr hlk X hl
  have hl : lv_has ls 3 [(0, .ref (G.2.2.2.1 16)), (1, .int a0)] := hl
  obtain ⟨v1, z2⟩ : ∃ x, τ 16 5 = x := ⟨_, rfl⟩
  rw [z2] at hf_0
  obtain ⟨v3, z4⟩ : ∃ x, τ 16 1 = x := ⟨_, rfl⟩
  rw [z4] at hf_1
  refine r_aload_n S dX6_readAll_0 rfl (lv_at hl 0 rfl) ?_
  refine r_iload_n S dX6_readAll_1 rfl (lv_at hl 1 rfl) ?_
  refine r_ki (q_V (As := [.int a0]) (rest := []) (K := 16) (ci := 6) S X (c_X6_readOne_q3 l G τ hI a0 h_a0 (by rw [z2]; exact R_of hf_0 rfl) (by rw [z4]; exact R_of hf_1 rfl) hYT bb nb an mn t k sg hR hon hs) ck6_71 (Nat.le_of_ble_eq_true rfl) rfl (fun _ => ⟨_, rfl⟩) ⟨_, _, rfl⟩ ⟨Nat.le_of_ble_eq_true rfl, Nat.le_of_ble_eq_true rfl⟩ rfl hl.1 rfl (Nat.le_of_ble_eq_true rfl) dX6_readAll_2 ⟨Nat.le_refl 0, Nat.le_refl 0⟩) X (fun v8 t7 H lc q5 X6 => ?_)
  unfold po_X6_readOne_q3 at q5
  obtain ⟨q9, q10, q11, q12, q13, q14⟩ := q5
  have F15 : Fr [(16, 1), (16, 2), (17, 4), (1, 3), (1, 4), (1, 5), (1, 7), (1, 8), (16, 4)] [18, 19, 20, 201] τ t7 := Fr_call Fr_rfl q10 (by decide)
  refine r_if_ne (tgt := 10) S dX6_readAll_5 (by decide) (fun c16 => ?_) (fun c16 => ?_)
  ·
    have r17 : R (1) (1) v8 := ⟨by omega, by omega⟩
    have p18 := q13 (by omega)
    obtain ⟨v19, z20⟩ : ∃ x, t7 16 1 = x := ⟨_, rfl⟩
    rw [z20] at p18
    have p21 := q14.2 (by omega)
    obtain ⟨t22, k23, hR24, h425, hk26, hP27, hr28⟩ := p21
    rw [hd] at hr28
    refine r_iconst S dX6_readAll_10 (by decide) (fun v29 z30 => ?_)
    have r31 := R_eq z30
    refine r_istore_n (lv' := [(2, .int v29), (0, .ref (G.2.2.2.1 16)), (1, .int a0)]) S dX6_readAll_11 rfl hl (by decide) rfl (fun ls hl => ?_)
    have L1036 : ∀ (n : Nat) (t1027 : Tau) (H : Heap) (lc : List Loc) (ls : Array Slot) (i1025 : Int32) (f1033 : Int32), Xd G s H lc t1027 → Inv t1027 → Fr [(16, 1), (16, 2), (17, 4), (1, 3), (1, 4), (1, 5), (1, 7), (1, 8), (16, 4)] [18, 19, 20, 201] τ t1027 → YT t1027 → R (0) (24) i1025 → t1027 16 5 = v1 → t1027 16 1 = f1033 → R (0) (0) f1033 → (∃ (tc : Tk) (kc : Nat), RG bb nb 200 an mn t1027 tc ∧ (t1027 16 4).toInt = kc ∧ ((i1025).toInt + 1 + k ≤ kc ∧ kc ≤ 20) ∧ True ∧ Rch bb nb 200 an mn (false, t, k, sg) (true, tc, kc, sg)) → lv_has ls 3 [(0, .ref (G.2.2.2.1 16)), (1, .int a0), (2, .int i1025)] → (24 - i1025.toInt).toNat < n → W p l e (Rm 22 479) s m ([.ref (G.2.2.2.1 16), .int a0] : List Value).toArray below meth c H lc 0 0 (MQ below (va_Qi (po_X6_readAll_q3 τ  a0  bb nb an mn t k sg) (Bs G) G.2.2.2.2) ([.ref (G.2.2.2.1 16), .int a0] : List Value).toArray s 0 0 G.2.2.2.2) (F0 m 12 ls []) := by
      intro n
      induction n with
      | zero => intros; omega
      | succ n ih1038 =>
        intro t1027 H lc ls i1025 f1033 X1031 I1028 F1029 hYT1030 r1026 z1032 z1035 r1034 x1037 hl hm
        obtain ⟨tc1039, kc1040, hR1041, h41042, hk1043, hP1044, hr1045⟩ := x1037
        refine r_iload_n S dX6_readAll_12 rfl (lv_at hl 2 rfl) ?_
        refine r_bipush S dX6_readAll_13 (by decide) (fun v1046 z1047 => ?_)
        have r1048 := R_eq z1047
        refine r_icmp_gt (tgt := 66) S dX6_readAll_15 (by decide) (fun c1049 => ?_) (fun c1049 => ?_)
        ·
          have r1050 : R (21) (24) i1025 := ⟨by omega, by omega⟩
          refine r_iconst S dX6_readAll_66 (by decide) (fun v1051 z1052 => ?_)
          have r1053 := R_eq z1052
          exact r_ret S hr hlk X1031 ⟨I1028, F1029, hYT1030, (R_of r1053 rfl), (fun h => (by rw [z1035]; exact R_of r1034 rfl)), (by exfalso; omega)⟩ (nr_bool (R_of (lo := 0) (hi := 1) r1053 rfl)) dX6_readAll_67
        ·
          have r1054 : R (0) (20) i1025 := ⟨by omega, by omega⟩
          refine r_aload_n S dX6_readAll_18 rfl (lv_at hl 0 rfl) ?_
          refine r_get (K := 16) (v := .ref (G.2.2.2.1 1)) S X1031 (Nat.le_of_ble_eq_true rfl) rfl lk6_39_6 (fun _ => ⟨_, rfl, rfl⟩) dX6_readAll_19 ?_
          refine r_wst (i := 14) S X1031 (by decide) kw81 dX6_readAll_22 ?_
          refine r_ki (q_V (As := [.ref (G.2.2.1 14)]) (rest := []) (K := 1) (ci := 7) S X1031 (c_X7_is_q l G t1027 I1028 14 (by decide) bb nb 200 tc1039 hR1041.1) ck6_60 (Nat.le_of_ble_eq_true rfl) rfl (fun _ => ⟨_, rfl⟩) ⟨_, _, rfl⟩ ⟨Nat.le_of_ble_eq_true rfl, Nat.le_of_ble_eq_true rfl⟩ rfl hl.1 rfl (Nat.le_of_ble_eq_true rfl) dX6_readAll_25 ⟨Nat.le_refl 0, Nat.le_refl 0⟩) X1031 (fun v1058 t1057 H lc q1055 X1056 => ?_)
          unfold po_X7_is_q at q1055
          obtain ⟨q1059, q1060, q1061⟩ := q1055
          rw [q1059] at X1056
          refine r_if_eq (tgt := 66) S dX6_readAll_28 (by decide) (fun c1062 => ?_) (fun c1062 => ?_)
          ·
            have r1063 : R (0) (0) v1058 := ⟨by omega, by omega⟩
            have p1064 := (iff_n q1061) (by omega)
            refine r_iconst S dX6_readAll_66 (by decide) (fun v1065 z1066 => ?_)
            have r1067 := R_eq z1066
            exact r_ret S hr hlk X1056 ⟨I1028, F1029, hYT1030, (R_of r1067 rfl), (fun h => (by rw [z1035]; exact R_of r1034 rfl)), (QS_r (by omega) hR1041 (by rw [show t1027 16 4 = t1027 16 4 from rfl]; exact h41042) ⟨by omega, by omega⟩ p1064 hr1045)⟩ (nr_bool (R_of (lo := 0) (hi := 1) r1067 rfl)) dX6_readAll_67
          ·
            have r1068 : R (1) (1) v1058 := ⟨by omega, by omega⟩
            have p1069 := (q1061).mp (by omega)
            refine r_aload_n S dX6_readAll_31 rfl (lv_at hl 0 rfl) ?_
            refine r_get (K := 16) (v := .ref (G.2.2.2.1 1)) S X1056 (Nat.le_of_ble_eq_true rfl) rfl lk6_39_6 (fun _ => ⟨_, rfl, rfl⟩) dX6_readAll_32 ?_
            refine r_kv (q_V (As := []) (rest := []) (K := 1) (ci := 7) S X1056 (c_X7_step_q l G t1027 I1028 bb nb 200 tc1039.2.2 (RT_st hR1041.1 (Or.inl p1069.1)).1 (RT_st hR1041.1 (Or.inl p1069.1)).2.1 (RT_st hR1041.1 (Or.inl p1069.1)).2.2) ck6_64 (Nat.le_of_ble_eq_true rfl) rfl (fun _ => ⟨_, rfl⟩) ⟨_, _, rfl⟩ ⟨Nat.le_of_ble_eq_true rfl, Nat.le_of_ble_eq_true rfl⟩ rfl hl.1 rfl (Nat.le_of_ble_eq_true rfl) dX6_readAll_35 ⟨Nat.le_refl 0, Nat.le_refl 0⟩) X1056 (fun t1072 H lc q1070 X1071 => ?_)
            unfold po_X7_step_q at q1070
            obtain ⟨q1073, q1074, q1075⟩ := q1070
            have F1076 : Fr [(16, 1), (16, 2), (17, 4), (1, 3), (1, 4), (1, 5), (1, 7), (1, 8), (16, 4)] [18, 19, 20, 201] τ t1072 := Fr_call F1029 q1074 (by decide)
            have hR1077 : RG bb nb 200 an mn t1072 (nx bb nb 200 tc1039) := ⟨q1075, NM2_fr hR1041.2 ((q1074 23 2 (by decide)).trans rfl) ((q1074 23 3 (by decide)).trans rfl) (fun j => ((q1074 228 j (by simp [fz])).trans rfl)) (fun j => ((q1074 229 j (by simp [fz])).trans rfl))⟩
            refine r_aload_n S dX6_readAll_38 rfl (lv_at hl 0 rfl) ?_
            refine r_iload_n S dX6_readAll_39 rfl (lv_at hl 1 rfl) ?_
            refine r_ki (q_V (As := [.int a0]) (rest := []) (K := 16) (ci := 6) S X1071 (c_X6_readOne_q3 l G t1072 q1073 a0 h_a0 (by rw [((q1074 16 5 (by decide)).trans z1032)]; exact R_of hf_0 rfl) (by rw [((q1074 16 1 (by decide)).trans z1035)]; exact R_of r1034 rfl) (YT_eq hYT1030 (fun j => ((q1074 18 j (by simp [fz])).trans rfl)) (fun j => ((q1074 19 j (by simp [fz])).trans rfl))) bb nb an mn (nx bb nb 200 tc1039) kc1040 sg hR1077 (by rw [show t1072 16 4 = t1027 16 4 from ((q1074 16 4 (by decide)).trans rfl)]; exact h41042) hs) ck6_71 (Nat.le_of_ble_eq_true rfl) rfl (fun _ => ⟨_, rfl⟩) ⟨_, _, rfl⟩ ⟨Nat.le_of_ble_eq_true rfl, Nat.le_of_ble_eq_true rfl⟩ rfl hl.1 rfl (Nat.le_of_ble_eq_true rfl) dX6_readAll_40 ⟨Nat.le_refl 0, Nat.le_refl 0⟩) X1071 (fun v1081 t1080 H lc q1078 X1079 => ?_)
            unfold po_X6_readOne_q3 at q1078
            obtain ⟨q1082, q1083, q1084, q1085, q1086, q1087⟩ := q1078
            have F1088 : Fr [(16, 1), (16, 2), (17, 4), (1, 3), (1, 4), (1, 5), (1, 7), (1, 8), (16, 4)] [18, 19, 20, 201] τ t1080 := Fr_call F1076 q1083 (by decide)
            refine r_if_ne (tgt := 48) S dX6_readAll_43 (by decide) (fun c1089 => ?_) (fun c1089 => ?_)
            ·
              have r1090 : R (1) (1) v1081 := ⟨by omega, by omega⟩
              have p1091 := q1086 (by omega)
              obtain ⟨v1092, z1093⟩ : ∃ x, t1080 16 1 = x := ⟨_, rfl⟩
              rw [z1093] at p1091
              have p1094 := q1087.2 (by omega)
              obtain ⟨t1095, k1096, hR1097, h41098, hk1099, hP1100, hr1101⟩ := p1094
              rw [hd] at hr1101
              refine r_aload_n S dX6_readAll_48 rfl (lv_at hl 0 rfl) ?_
              refine r_get (K := 16) (v := .ref (G.2.2.2.1 17)) S X1079 (Nat.le_of_ble_eq_true rfl) rfl lk6_14_6 (fun _ => ⟨_, rfl, rfl⟩) dX6_readAll_49 ?_
              refine r_wst (i := 14) S X1079 (by decide) kw81 dX6_readAll_52 ?_
              refine r_iconst S dX6_readAll_55 (by decide) (fun v1102 z1103 => ?_)
              have r1104 := R_eq z1103
              refine r_iconst S dX6_readAll_56 (by decide) (fun v1105 z1106 => ?_)
              have r1107 := R_eq z1106
              refine r_kv (q_V (As := [.ref (G.2.2.1 14), .int v1102, .int v1105]) (rest := []) (K := 17) (ci := 5) S X1079 (c_X5_add l G t1080 q1082 14 (by decide) v1102 v1105 (R_of (lo := -2147483648) (hi := 2147483647) r1104 rfl) (R_of (lo := 0) (hi := 99) r1107 rfl) q1084 (by omega)) ck6_67 (Nat.le_of_ble_eq_true rfl) rfl (fun _ => ⟨_, rfl⟩) ⟨_, _, rfl⟩ ⟨Nat.le_of_ble_eq_true rfl, Nat.le_of_ble_eq_true rfl⟩ rfl hl.1 rfl (Nat.le_of_ble_eq_true rfl) dX6_readAll_57 ⟨Nat.le_refl 0, Nat.le_refl 0⟩) X1079 (fun t1110 H lc q1108 X1109 => ?_)
              unfold po_X5_add at q1108
              obtain ⟨q1111, q1112, q1113⟩ := q1108
              have F1114 : Fr [(16, 1), (16, 2), (17, 4), (1, 3), (1, 4), (1, 5), (1, 7), (1, 8), (16, 4)] [18, 19, 20, 201] τ t1110 := Fr_call F1088 q1112 (by decide)
              refine r_iinc (k := 2) S dX6_readAll_60 hl rfl (by decide) (by decide) (fun v1115 d1116 ls z1117 z1118 hl => ?_)
              obtain ⟨e1119, r1120⟩ := i_add (lo := 1) (hi := 21) z1117 r1054 (R_eq z1118) rfl
              have hl : lv_has ls 3 [(2, .int v1115), (0, .ref (G.2.2.2.1 16)), (1, .int a0)] := hl
              refine r_goto (tgt := 12) S dX6_readAll_63 (by decide) ?_
              exact ih1038 t1110 _ _ _ v1115 v1092 X1109 q1111 F1114 q1113 (R_of r1120 rfl) ((q1112 16 5 (by decide)).trans ((q1083 16 5 (by decide)).trans ((q1074 16 5 (by decide)).trans z1032))) ((q1112 16 1 (by decide)).trans z1093) ⟨by omega, by omega⟩ ⟨t1095, k1096, (RG_fr hR1097 (fun j => ((q1112 1 j (by simp [fz])).trans rfl)) (fun j => ((q1112 2 j (by simp [fz])).trans rfl)) (fun j => ((q1112 201 j (by simp [fz])).trans rfl)) ((q1112 23 2 (by decide)).trans rfl) ((q1112 23 3 (by decide)).trans rfl) (fun j => ((q1112 228 j (by simp [fz])).trans rfl)) (fun j => ((q1112 229 j (by simp [fz])).trans rfl))), (by rw [show t1110 16 4 = t1080 16 4 from ((q1112 16 4 (by decide)).trans rfl)]; exact h41098), ⟨by omega, by omega⟩, trivial, (Rch_tr (Rch_1 hr1045 (stS_W (stW_a (Or.inl p1069)))) hr1101)⟩ (lv_sub hl [1, 2, 0] rfl) (by omega)
            ·
              have r1121 : R (0) (0) v1081 := ⟨by omega, by omega⟩
              have p1122 := q1087.1 (by omega)
              obtain ⟨q1123, e1124, h1125, h1126⟩ := p1122
              refine r_iconst S dX6_readAll_46 (by decide) (fun v1127 z1128 => ?_)
              have r1129 := R_eq z1128
              exact r_ret S hr hlk X1079 ⟨q1082, F1088, q1084, (R_of r1129 rfl), (fun h => by exfalso; omega), (QS_l (by omega) (Hlt_tr (Rch_1 hr1045 (stS_W (stW_a (Or.inl p1069)))) e1124) h1125 h1126)⟩ (nr_bool (R_of (lo := 0) (hi := 1) r1129 rfl)) dX6_readAll_47
    exact L1036 _ t7 _ _ _ v29 v19 X6 q9 F15 q11 (R_of r31 rfl) ((q10 16 5 (by decide)).trans z2) z20 ⟨by omega, by omega⟩ ⟨t22, k23, hR24, (by rw [show t7 16 4 = t7 16 4 from rfl]; exact h425), ⟨by omega, by omega⟩, trivial, hr28⟩ (lv_sub hl [1, 2, 0] rfl) (Nat.lt_succ_self _)
  ·
    have r1130 : R (0) (0) v8 := ⟨by omega, by omega⟩
    have p1131 := q14.1 (by omega)
    obtain ⟨q1132, e1133, h1134, h1135⟩ := p1131
    refine r_iconst S dX6_readAll_8 (by decide) (fun v1136 z1137 => ?_)
    have r1138 := R_eq z1137
    exact r_ret S hr hlk X6 ⟨q9, F15, q11, (R_of r1138 rfl), (fun h => by exfalso; omega), (QS_l (by omega) e1133 h1134 h1135)⟩ (nr_bool (R_of (lo := 0) (hi := 1) r1138 rfl)) dX6_readAll_9
def po_X6_readCond_q3 (τ : Tau)  (a0 : Int32)  (bb : Nat → Int) (nb : Nat) (an mn : List (List Int)) (t : Tk) (k : Nat) (sg : List Bool) (r : Int32) (u : Tau) : Prop := Inv u ∧ Fr [(16, 1), (16, 2), (17, 4), (1, 3), (1, 4), (1, 5), (1, 7), (1, 8), (16, 4)] [18, 19, 20, 201] τ u ∧ YT u ∧ R (0) (1) r ∧ (r.toInt = 1 → R (0) (0) (u 16 1)) ∧ QS bb nb 200 an mn t k sg sg r u (fun t => ¬ isW bb 14 t ∧ ¬ isW bb 13 t)
set_option maxHeartbeats 4000000 in
set_option maxRecDepth 100000 in
theorem c_X6_readCond_q3 (l : Launch) (G : Gx) (τ : Tau) (hI : Inv τ) (a0 : Int32) (h_a0 : R (3) (3) a0) (hf_0 : R (1) (1) (τ 16 5)) (hf_1 : R (0) (0) (τ 16 1)) (hYT : YT τ) (bb : Nat → Int) (nb : Nat) (an mn : List (List Int)) (t : Tk) (k : Nat) (sg : List Bool) (hR : RG bb nb 200 an mn τ t) (hon : (τ 16 4).toInt = k) (hs : sg.length + 1 = 3) (hd : dropN sg = sg) : Ci l G yX6_readCond cX6_readCond 3 (some .boolean) 23 501 [.ref (G.2.2.2.1 16), .int a0] τ (po_X6_readCond_q3 τ  a0  bb nb an mn t k sg) := by
  unfold Ci
  refine C_of (own := RX6) (by decide) rfl (Nat.le_of_ble_eq_true rfl) ?_
  intro p e s m below meth c ls S hr hlk X hl
  have hl : lv_has ls 3 [(0, .ref (G.2.2.2.1 16)), (1, .int a0)] := hl
  obtain ⟨v1, z2⟩ : ∃ x, τ 16 5 = x := ⟨_, rfl⟩
  rw [z2] at hf_0
  obtain ⟨v3, z4⟩ : ∃ x, τ 16 1 = x := ⟨_, rfl⟩
  rw [z4] at hf_1
  refine r_aload_n S dX6_readCond_0 rfl (lv_at hl 0 rfl) ?_
  refine r_iload_n S dX6_readCond_1 rfl (lv_at hl 1 rfl) ?_
  refine r_ki (q_V (As := [.int a0]) (rest := []) (K := 16) (ci := 6) S X (c_X6_readAll_q3 l G τ hI a0 h_a0 (by rw [z2]; exact R_of hf_0 rfl) (by rw [z4]; exact R_of hf_1 rfl) hYT bb nb an mn t k sg hR hon hs hd) ck6_51 (Nat.le_of_ble_eq_true rfl) rfl (fun _ => ⟨_, rfl⟩) ⟨_, _, rfl⟩ ⟨Nat.le_of_ble_eq_true rfl, Nat.le_of_ble_eq_true rfl⟩ rfl hl.1 rfl (Nat.le_of_ble_eq_true rfl) dX6_readCond_2 ⟨Nat.le_refl 0, Nat.le_refl 0⟩) X (fun v8 t7 H lc q5 X6 => ?_)
  unfold po_X6_readAll_q3 at q5
  obtain ⟨q9, q10, q11, q12, q13, q14⟩ := q5
  have F15 : Fr [(16, 1), (16, 2), (17, 4), (1, 3), (1, 4), (1, 5), (1, 7), (1, 8), (16, 4)] [18, 19, 20, 201] τ t7 := Fr_call Fr_rfl q10 (by decide)
  refine r_if_ne (tgt := 10) S dX6_readCond_5 (by decide) (fun c16 => ?_) (fun c16 => ?_)
  ·
    have r17 : R (1) (1) v8 := ⟨by omega, by omega⟩
    have p18 := q13 (by omega)
    obtain ⟨v19, z20⟩ : ∃ x, t7 16 1 = x := ⟨_, rfl⟩
    rw [z20] at p18
    have p21 := q14.2 (by omega)
    obtain ⟨t22, k23, hR24, h425, hk26, hP27, hr28⟩ := p21
    refine r_iconst S dX6_readCond_10 (by decide) (fun v29 z30 => ?_)
    have r31 := R_eq z30
    refine r_istore_n (lv' := [(2, .int v29), (0, .ref (G.2.2.2.1 16)), (1, .int a0)]) S dX6_readCond_11 rfl hl (by decide) rfl (fun ls hl => ?_)
    have L1036 : ∀ (n : Nat) (t1027 : Tau) (H : Heap) (lc : List Loc) (ls : Array Slot) (i1025 : Int32) (f1033 : Int32), Xd G s H lc t1027 → Inv t1027 → Fr [(16, 1), (16, 2), (17, 4), (1, 3), (1, 4), (1, 5), (1, 7), (1, 8), (16, 4)] [18, 19, 20, 201] τ t1027 → YT t1027 → R (0) (24) i1025 → t1027 16 5 = v1 → t1027 16 1 = f1033 → R (0) (0) f1033 → (∃ (tc : Tk) (kc : Nat), RG bb nb 200 an mn t1027 tc ∧ (t1027 16 4).toInt = kc ∧ ((i1025).toInt + 1 + k ≤ kc ∧ kc ≤ 20) ∧ ¬ isW bb 14 tc ∧ Rch bb nb 200 an mn (false, t, k, sg) (true, tc, kc, sg)) → lv_has ls 3 [(0, .ref (G.2.2.2.1 16)), (1, .int a0), (2, .int i1025)] → (24 - i1025.toInt).toNat < n → W p l e (Rm 23 501) s m ([.ref (G.2.2.2.1 16), .int a0] : List Value).toArray below meth c H lc 0 0 (MQ below (va_Qi (po_X6_readCond_q3 τ  a0  bb nb an mn t k sg) (Bs G) G.2.2.2.2) ([.ref (G.2.2.2.1 16), .int a0] : List Value).toArray s 0 0 G.2.2.2.2) (F0 m 12 ls []) := by
      intro n
      induction n with
      | zero => intros; omega
      | succ n ih1038 =>
        intro t1027 H lc ls i1025 f1033 X1031 I1028 F1029 hYT1030 r1026 z1032 z1035 r1034 x1037 hl hm
        obtain ⟨tc1039, kc1040, hR1041, h41042, hk1043, hP1044, hr1045⟩ := x1037
        refine r_iload_n S dX6_readCond_12 rfl (lv_at hl 2 rfl) ?_
        refine r_bipush S dX6_readCond_13 (by decide) (fun v1046 z1047 => ?_)
        have r1048 := R_eq z1047
        refine r_icmp_gt (tgt := 66) S dX6_readCond_15 (by decide) (fun c1049 => ?_) (fun c1049 => ?_)
        ·
          have r1050 : R (21) (24) i1025 := ⟨by omega, by omega⟩
          refine r_iconst S dX6_readCond_66 (by decide) (fun v1051 z1052 => ?_)
          have r1053 := R_eq z1052
          exact r_ret S hr hlk X1031 ⟨I1028, F1029, hYT1030, (R_of r1053 rfl), (fun h => (by rw [z1035]; exact R_of r1034 rfl)), (by exfalso; omega)⟩ (nr_bool (R_of (lo := 0) (hi := 1) r1053 rfl)) dX6_readCond_67
        ·
          have r1054 : R (0) (20) i1025 := ⟨by omega, by omega⟩
          refine r_aload_n S dX6_readCond_18 rfl (lv_at hl 0 rfl) ?_
          refine r_get (K := 16) (v := .ref (G.2.2.2.1 1)) S X1031 (Nat.le_of_ble_eq_true rfl) rfl lk6_39_6 (fun _ => ⟨_, rfl, rfl⟩) dX6_readCond_19 ?_
          refine r_wst (i := 13) S X1031 (by decide) kw82 dX6_readCond_22 ?_
          refine r_ki (q_V (As := [.ref (G.2.2.1 13)]) (rest := []) (K := 1) (ci := 7) S X1031 (c_X7_is_q l G t1027 I1028 13 (by decide) bb nb 200 tc1039 hR1041.1) ck6_60 (Nat.le_of_ble_eq_true rfl) rfl (fun _ => ⟨_, rfl⟩) ⟨_, _, rfl⟩ ⟨Nat.le_of_ble_eq_true rfl, Nat.le_of_ble_eq_true rfl⟩ rfl hl.1 rfl (Nat.le_of_ble_eq_true rfl) dX6_readCond_25 ⟨Nat.le_refl 0, Nat.le_refl 0⟩) X1031 (fun v1058 t1057 H lc q1055 X1056 => ?_)
          unfold po_X7_is_q at q1055
          obtain ⟨q1059, q1060, q1061⟩ := q1055
          rw [q1059] at X1056
          refine r_if_eq (tgt := 66) S dX6_readCond_28 (by decide) (fun c1062 => ?_) (fun c1062 => ?_)
          ·
            have r1063 : R (0) (0) v1058 := ⟨by omega, by omega⟩
            have p1064 := (iff_n q1061) (by omega)
            refine r_iconst S dX6_readCond_66 (by decide) (fun v1065 z1066 => ?_)
            have r1067 := R_eq z1066
            exact r_ret S hr hlk X1056 ⟨I1028, F1029, hYT1030, (R_of r1067 rfl), (fun h => (by rw [z1035]; exact R_of r1034 rfl)), (QS_r (by omega) hR1041 (by rw [show t1027 16 4 = t1027 16 4 from rfl]; exact h41042) ⟨by omega, by omega⟩ ⟨hP1044, p1064⟩ hr1045)⟩ (nr_bool (R_of (lo := 0) (hi := 1) r1067 rfl)) dX6_readCond_67
          ·
            have r1068 : R (1) (1) v1058 := ⟨by omega, by omega⟩
            have p1069 := (q1061).mp (by omega)
            refine r_aload_n S dX6_readCond_31 rfl (lv_at hl 0 rfl) ?_
            refine r_get (K := 16) (v := .ref (G.2.2.2.1 1)) S X1056 (Nat.le_of_ble_eq_true rfl) rfl lk6_39_6 (fun _ => ⟨_, rfl, rfl⟩) dX6_readCond_32 ?_
            refine r_kv (q_V (As := []) (rest := []) (K := 1) (ci := 7) S X1056 (c_X7_step_q l G t1027 I1028 bb nb 200 tc1039.2.2 (RT_st hR1041.1 (Or.inl p1069.1)).1 (RT_st hR1041.1 (Or.inl p1069.1)).2.1 (RT_st hR1041.1 (Or.inl p1069.1)).2.2) ck6_64 (Nat.le_of_ble_eq_true rfl) rfl (fun _ => ⟨_, rfl⟩) ⟨_, _, rfl⟩ ⟨Nat.le_of_ble_eq_true rfl, Nat.le_of_ble_eq_true rfl⟩ rfl hl.1 rfl (Nat.le_of_ble_eq_true rfl) dX6_readCond_35 ⟨Nat.le_refl 0, Nat.le_refl 0⟩) X1056 (fun t1072 H lc q1070 X1071 => ?_)
            unfold po_X7_step_q at q1070
            obtain ⟨q1073, q1074, q1075⟩ := q1070
            have F1076 : Fr [(16, 1), (16, 2), (17, 4), (1, 3), (1, 4), (1, 5), (1, 7), (1, 8), (16, 4)] [18, 19, 20, 201] τ t1072 := Fr_call F1029 q1074 (by decide)
            have hR1077 : RG bb nb 200 an mn t1072 (nx bb nb 200 tc1039) := ⟨q1075, NM2_fr hR1041.2 ((q1074 23 2 (by decide)).trans rfl) ((q1074 23 3 (by decide)).trans rfl) (fun j => ((q1074 228 j (by simp [fz])).trans rfl)) (fun j => ((q1074 229 j (by simp [fz])).trans rfl))⟩
            refine r_aload_n S dX6_readCond_38 rfl (lv_at hl 0 rfl) ?_
            refine r_iload_n S dX6_readCond_39 rfl (lv_at hl 1 rfl) ?_
            refine r_ki (q_V (As := [.int a0]) (rest := []) (K := 16) (ci := 6) S X1071 (c_X6_readAll_q3 l G t1072 q1073 a0 h_a0 (by rw [((q1074 16 5 (by decide)).trans z1032)]; exact R_of hf_0 rfl) (by rw [((q1074 16 1 (by decide)).trans z1035)]; exact R_of r1034 rfl) (YT_eq hYT1030 (fun j => ((q1074 18 j (by simp [fz])).trans rfl)) (fun j => ((q1074 19 j (by simp [fz])).trans rfl))) bb nb an mn (nx bb nb 200 tc1039) kc1040 sg hR1077 (by rw [show t1072 16 4 = t1027 16 4 from ((q1074 16 4 (by decide)).trans rfl)]; exact h41042) hs hd) ck6_51 (Nat.le_of_ble_eq_true rfl) rfl (fun _ => ⟨_, rfl⟩) ⟨_, _, rfl⟩ ⟨Nat.le_of_ble_eq_true rfl, Nat.le_of_ble_eq_true rfl⟩ rfl hl.1 rfl (Nat.le_of_ble_eq_true rfl) dX6_readCond_40 ⟨Nat.le_refl 0, Nat.le_refl 0⟩) X1071 (fun v1081 t1080 H lc q1078 X1079 => ?_)
            unfold po_X6_readAll_q3 at q1078
            obtain ⟨q1082, q1083, q1084, q1085, q1086, q1087⟩ := q1078
            have F1088 : Fr [(16, 1), (16, 2), (17, 4), (1, 3), (1, 4), (1, 5), (1, 7), (1, 8), (16, 4)] [18, 19, 20, 201] τ t1080 := Fr_call F1076 q1083 (by decide)
            refine r_if_ne (tgt := 48) S dX6_readCond_43 (by decide) (fun c1089 => ?_) (fun c1089 => ?_)
            ·
              have r1090 : R (1) (1) v1081 := ⟨by omega, by omega⟩
              have p1091 := q1086 (by omega)
              obtain ⟨v1092, z1093⟩ : ∃ x, t1080 16 1 = x := ⟨_, rfl⟩
              rw [z1093] at p1091
              have p1094 := q1087.2 (by omega)
              obtain ⟨t1095, k1096, hR1097, h41098, hk1099, hP1100, hr1101⟩ := p1094
              refine r_aload_n S dX6_readCond_48 rfl (lv_at hl 0 rfl) ?_
              refine r_get (K := 16) (v := .ref (G.2.2.2.1 17)) S X1079 (Nat.le_of_ble_eq_true rfl) rfl lk6_14_6 (fun _ => ⟨_, rfl, rfl⟩) dX6_readCond_49 ?_
              refine r_wst (i := 13) S X1079 (by decide) kw82 dX6_readCond_52 ?_
              refine r_iconst S dX6_readCond_55 (by decide) (fun v1102 z1103 => ?_)
              have r1104 := R_eq z1103
              refine r_iconst S dX6_readCond_56 (by decide) (fun v1105 z1106 => ?_)
              have r1107 := R_eq z1106
              refine r_kv (q_V (As := [.ref (G.2.2.1 13), .int v1102, .int v1105]) (rest := []) (K := 17) (ci := 5) S X1079 (c_X5_add l G t1080 q1082 13 (by decide) v1102 v1105 (R_of (lo := -2147483648) (hi := 2147483647) r1104 rfl) (R_of (lo := 0) (hi := 99) r1107 rfl) q1084 (by omega)) ck6_67 (Nat.le_of_ble_eq_true rfl) rfl (fun _ => ⟨_, rfl⟩) ⟨_, _, rfl⟩ ⟨Nat.le_of_ble_eq_true rfl, Nat.le_of_ble_eq_true rfl⟩ rfl hl.1 rfl (Nat.le_of_ble_eq_true rfl) dX6_readCond_57 ⟨Nat.le_refl 0, Nat.le_refl 0⟩) X1079 (fun t1110 H lc q1108 X1109 => ?_)
              unfold po_X5_add at q1108
              obtain ⟨q1111, q1112, q1113⟩ := q1108
              have F1114 : Fr [(16, 1), (16, 2), (17, 4), (1, 3), (1, 4), (1, 5), (1, 7), (1, 8), (16, 4)] [18, 19, 20, 201] τ t1110 := Fr_call F1088 q1112 (by decide)
              refine r_iinc (k := 2) S dX6_readCond_60 hl rfl (by decide) (by decide) (fun v1115 d1116 ls z1117 z1118 hl => ?_)
              obtain ⟨e1119, r1120⟩ := i_add (lo := 1) (hi := 21) z1117 r1054 (R_eq z1118) rfl
              have hl : lv_has ls 3 [(2, .int v1115), (0, .ref (G.2.2.2.1 16)), (1, .int a0)] := hl
              refine r_goto (tgt := 12) S dX6_readCond_63 (by decide) ?_
              exact ih1038 t1110 _ _ _ v1115 v1092 X1109 q1111 F1114 q1113 (R_of r1120 rfl) ((q1112 16 5 (by decide)).trans ((q1083 16 5 (by decide)).trans ((q1074 16 5 (by decide)).trans z1032))) ((q1112 16 1 (by decide)).trans z1093) ⟨by omega, by omega⟩ ⟨t1095, k1096, (RG_fr hR1097 (fun j => ((q1112 1 j (by simp [fz])).trans rfl)) (fun j => ((q1112 2 j (by simp [fz])).trans rfl)) (fun j => ((q1112 201 j (by simp [fz])).trans rfl)) ((q1112 23 2 (by decide)).trans rfl) ((q1112 23 3 (by decide)).trans rfl) (fun j => ((q1112 228 j (by simp [fz])).trans rfl)) (fun j => ((q1112 229 j (by simp [fz])).trans rfl))), (by rw [show t1110 16 4 = t1080 16 4 from ((q1112 16 4 (by decide)).trans rfl)]; exact h41098), ⟨by omega, by omega⟩, hP1100, (Rch_tr (Rch_1 hr1045 (stS_W (stW_a (Or.inr p1069)))) hr1101)⟩ (lv_sub hl [1, 2, 0] rfl) (by omega)
            ·
              have r1121 : R (0) (0) v1081 := ⟨by omega, by omega⟩
              have p1122 := q1087.1 (by omega)
              obtain ⟨q1123, e1124, h1125, h1126⟩ := p1122
              refine r_iconst S dX6_readCond_46 (by decide) (fun v1127 z1128 => ?_)
              have r1129 := R_eq z1128
              exact r_ret S hr hlk X1079 ⟨q1082, F1088, q1084, (R_of r1129 rfl), (fun h => by exfalso; omega), (QS_l (by omega) (Hlt_tr (Rch_1 hr1045 (stS_W (stW_a (Or.inr p1069)))) e1124) h1125 h1126)⟩ (nr_bool (R_of (lo := 0) (hi := 1) r1129 rfl)) dX6_readCond_47
    exact L1036 _ t7 _ _ _ v29 v19 X6 q9 F15 q11 (R_of r31 rfl) ((q10 16 5 (by decide)).trans z2) z20 ⟨by omega, by omega⟩ ⟨t22, k23, hR24, (by rw [show t7 16 4 = t7 16 4 from rfl]; exact h425), ⟨by omega, by omega⟩, hP27, hr28⟩ (lv_sub hl [1, 2, 0] rfl) (Nat.lt_succ_self _)
  ·
    have r1130 : R (0) (0) v8 := ⟨by omega, by omega⟩
    have p1131 := q14.1 (by omega)
    obtain ⟨q1132, e1133, h1134, h1135⟩ := p1131
    refine r_iconst S dX6_readCond_8 (by decide) (fun v1136 z1137 => ?_)
    have r1138 := R_eq z1137
    exact r_ret S hr hlk X6 ⟨q9, F15, q11, (R_of r1138 rfl), (fun h => by exfalso; omega), (QS_l (by omega) e1133 h1134 h1135)⟩ (nr_bool (R_of (lo := 0) (hi := 1) r1138 rfl)) dX6_readCond_9
def po_X6_readOne_q2 (τ : Tau)  (a0 : Int32)  (bb : Nat → Int) (nb : Nat) (an mn : List (List Int)) (t : Tk) (k : Nat) (sg : List Bool) (r : Int32) (u : Tau) : Prop := Inv u ∧ Fr [(16, 1), (16, 2), (17, 4), (1, 3), (1, 4), (1, 5), (1, 7), (1, 8), (16, 4)] [18, 19, 20, 201] τ u ∧ YT u ∧ R (0) (1) r ∧ (r.toInt = 1 → R (0) (0) (u 16 1)) ∧ QS bb nb 200 an mn t k sg (dropN sg) r u (fun t => True)
set_option maxHeartbeats 4000000 in
set_option maxRecDepth 100000 in
theorem c_X6_readOne_q2 (l : Launch) (G : Gx) (τ : Tau) (hI : Inv τ) (a0 : Int32) (h_a0 : R (2) (2) a0) (hf_0 : R (1) (1) (τ 16 5)) (hf_1 : R (0) (0) (τ 16 1)) (hYT : YT τ) (bb : Nat → Int) (nb : Nat) (an mn : List (List Int)) (t : Tk) (k : Nat) (sg : List Bool) (hR : RG bb nb 200 an mn τ t) (hon : (τ 16 4).toInt = k) (hs : sg.length + 1 = 2) : Ci l G yX6_readOne cX6_readOne 3 (some .boolean) 24 523 [.ref (G.2.2.2.1 16), .int a0] τ (po_X6_readOne_q2 τ  a0  bb nb an mn t k sg) := by
  unfold Ci
  refine C_of (own := RX6) (by decide) rfl (Nat.le_of_ble_eq_true rfl) ?_
  intro p e s m below meth c ls S hr hlk X hl
  have hl : lv_has ls 3 [(0, .ref (G.2.2.2.1 16)), (1, .int a0)] := hl
  obtain ⟨v1, z2⟩ : ∃ x, τ 16 5 = x := ⟨_, rfl⟩
  rw [z2] at hf_0
  obtain ⟨v3, z4⟩ : ∃ x, τ 16 1 = x := ⟨_, rfl⟩
  rw [z4] at hf_1
  refine r_aload_n S dX6_readOne_0 rfl (lv_at hl 0 rfl) ?_
  refine r_kw2 (q_V (As := []) (rest := []) (K := 16) (ci := 6) S X (c_X6_firstWord_q l G τ hI bb nb an mn t hR) ck6_77 (Nat.le_of_ble_eq_true rfl) rfl (fun _ => ⟨_, rfl⟩) ⟨_, _, rfl⟩ ⟨Nat.le_of_ble_eq_true rfl, Nat.le_of_ble_eq_true rfl⟩ rfl hl.1 rfl (Nat.le_of_ble_eq_true rfl) dX6_readOne_1 ⟨Nat.le_refl 0, Nat.le_refl 0⟩) X (fun _ _ h => h.2.1) (fun y8 t7 H lc q5 X6 h9 => ?_) (fun y8 t7 H lc w10 q5 X6 h_w10 e11 => ?_)
  ·
    unfold po_X6_firstWord_q at q5
    obtain ⟨q12, q13, q14⟩ := q5
    rw [q12] at X6
    refine lv_astore_nN (lv' := [(2, .null), (0, .ref (G.2.2.2.1 16)), (1, .int a0)]) S.1.1 S.1.2.1 dX6_readOne_4 rfl hl (by decide) rfl (fun ls hl => ?_)
    refine lv_aload_nN S.1.1 S.1.2.1 dX6_readOne_5 rfl (lv_at hl 0 rfl) ?_
    refine lv_ifnonnullN S.1.1 S.1.2.1 dX6_readOne_6 ?_
    refine r_aload_n S dX6_readOne_9 rfl (lv_at hl 1 rfl) ?_
    refine r_get (K := 16) (v := .ref (G.2.2.2.1 1)) S X6 (Nat.le_of_ble_eq_true rfl) rfl lk6_39_6 (fun _ => ⟨_, rfl, rfl⟩) dX6_readOne_10 ?_
    refine r_bipush S dX6_readOne_13 (by decide) (fun v15 z16 => ?_)
    have r17 := R_eq z16
    refine r_ki (q_V (As := [.int v15]) (rest := []) (K := 1) (ci := 7) S X6 (c_X7_isSigned_q l G τ hI v15 (R_of (lo := 0) (hi := 65535) r17 rfl) bb nb 200 t hR.1) ck6_81 (Nat.le_of_ble_eq_true rfl) rfl (fun _ => ⟨_, rfl⟩) ⟨_, _, rfl⟩ ⟨Nat.le_of_ble_eq_true rfl, Nat.le_of_ble_eq_true rfl⟩ rfl hl.1 rfl (Nat.le_of_ble_eq_true rfl) dX6_readOne_15 ⟨Nat.le_refl 0, Nat.le_refl 0⟩) X6 (fun v21 t20 H lc q18 X19 => ?_)
    unfold po_X7_isSigned_q at q18
    obtain ⟨q22, q23, q24⟩ := q18
    rw [q22] at X19
    refine r_if_ne (tgt := 27) S dX6_readOne_18 (by decide) (fun c25 => ?_) (fun c25 => ?_)
    ·
      have r26 : R (1) (1) v21 := ⟨by omega, by omega⟩
      have p27 := (q24).mp (by omega)
      refine r_aload_n S dX6_readOne_27 rfl (lv_at hl 1 rfl) ?_
      refine r_getn (K := 16) S X19 (Nat.le_of_ble_eq_true rfl) rfl lk6_28_6 (fun _ => ⟨_, rfl, rfl⟩) dX6_readOne_28 (fun v28 z29 => ?_)
      have r30 : R (0) (20) v28 := rd hI rfl z29
      have e31 : v28.toInt = (k : Int) := by rw [← z29]; exact hon
      refine r_bipush S dX6_readOne_31 (by decide) (fun v32 z33 => ?_)
      have r34 := R_eq z33
      refine r_icmp_ge (tgt := 42) S dX6_readOne_33 (by decide) (fun c35 => ?_) (fun c35 => ?_)
      ·
        have r36 : R (20) (20) v28 := ⟨by omega, by omega⟩
        refine r_aload_n S dX6_readOne_42 rfl (lv_at hl 1 rfl) ?_
        refine r_iconst S dX6_readOne_43 (by decide) (fun v37 z38 => ?_)
        have r39 := R_eq z38
        refine r_ki (q_U (As := [.int v37]) (rest := []) (K := 16) (ci := 6) S X19 (c_X8_fail_t16 l G τ hI v37 (R_of (lo := -2147483648) (hi := 2147483647) r39 rfl)) ck6_48_6 (Nat.le_of_ble_eq_true rfl) rfl (fun _ => ⟨_, rfl⟩) ⟨_, _, rfl⟩ ⟨Nat.le_of_ble_eq_true rfl, Nat.le_of_ble_eq_true rfl⟩ rfl hl.1 rfl (Nat.le_of_ble_eq_true rfl) dX6_readOne_44 ⟨Nat.le_refl 0, Nat.le_refl 0⟩) X19 (fun v43 t42 H lc q40 X41 => ?_)
        unfold po_X8_fail_t16 at q40
        obtain ⟨q44, q45, q46, q47⟩ := q40
        have F48 : Fr [(16, 1), (16, 2), (17, 4), (1, 3), (1, 4), (1, 5), (1, 7), (1, 8), (16, 4)] [18, 19, 20, 201] τ t42 := Fr_call Fr_rfl q45 (by decide)
        exact r_ret S hr hlk X41 ⟨q44, F48, (YT_eq hYT (fun j => ((q45 18 j (by simp [fz])).trans rfl)) (fun j => ((q45 19 j (by simp [fz])).trans rfl))), (R_of q46 rfl), (fun h => by exfalso; omega), (QS_l (by omega) (Hlt_1 Rch_0 (stS_O (stO_4 (Or.inr (Or.inl ⟨p27.1, by have q := p27.2; omega⟩)) (by omega)))) (by rw [q47]; show _ = ((4 : Nat) : Int); omega) (RG_at (RG_fr hR (fun j => ((q45 1 j (by simp [fz])).trans rfl)) (fun j => ((q45 2 j (by simp [fz])).trans rfl)) (fun j => ((q45 201 j (by simp [fz])).trans rfl)) ((q45 23 2 (by decide)).trans rfl) ((q45 23 3 (by decide)).trans rfl) (fun j => ((q45 228 j (by simp [fz])).trans rfl)) (fun j => ((q45 229 j (by simp [fz])).trans rfl)))))⟩ (nr_bool (R_of (lo := 0) (hi := 1) q46 rfl)) dX6_readOne_47
      ·
        have r49 : R (0) (19) v28 := ⟨by omega, by omega⟩
        refine r_iload_n S dX6_readOne_36 rfl (lv_at hl 2 rfl) ?_
        refine r_bipush S dX6_readOne_37 (by decide) (fun v50 z51 => ?_)
        have r52 := R_eq z51
        refine r_icmp_le (tgt := 48) S dX6_readOne_39 (by decide) (fun c53 => ?_) (fun c53 => ?_)
        ·
          refine r_aload_n S dX6_readOne_48 rfl (lv_at hl 1 rfl) ?_
          refine r_dup S dX6_readOne_49 rfl ?_
          refine r_geti (K := 16) S X19 (Nat.le_of_ble_eq_true rfl) rfl lk6_28_6 (fun _ => ⟨_, rfl, rfl⟩) z29 dX6_readOne_50 ?_
          refine r_iconst S dX6_readOne_53 (by decide) (fun v54 z55 => ?_)
          have r56 := R_eq z55
          refine r_iadd S dX6_readOne_54 (fun v57 z58 => ?_)
          obtain ⟨e59, r60⟩ := i_add (lo := 1) (hi := 20) z58 r49 r56 rfl
          refine r_put (K := 16) (ty := .int) S X19 (Nat.le_of_ble_eq_true rfl) rfl lk6_28_6 (fun _ => ⟨_, rfl, Nat.le_of_ble_eq_true rfl, rfl⟩) (fun _ _ _ h => by cases h; exact ⟨rfl, rfl⟩) rfl rfl dX6_readOne_55 (fun t61 H lc M62 X63 => ?_)
          have I64 := Inv_mu hI M62 (show Rg (kd 16) 4 v57 from (R_of (lo := 0) (hi := 20) r60 rfl))
          have F65 : Fr [(16, 1), (16, 2), (17, 4), (1, 3), (1, 4), (1, 5), (1, 7), (1, 8), (16, 4)] [18, 19, 20, 201] τ t61 := Fr_mu Fr_rfl M62 (by decide)
          refine r_aload_n S dX6_readOne_58 rfl (lv_at hl 1 rfl) ?_
          refine r_get (K := 16) (v := .ref (G.2.2.2.1 1)) S X63 (Nat.le_of_ble_eq_true rfl) rfl lk6_39_6 (fun _ => ⟨_, rfl, rfl⟩) dX6_readOne_59 ?_
          refine r_kv (q_V (As := []) (rest := []) (K := 1) (ci := 7) S X63 (c_X7_step_q l G t61 I64 bb nb 200 t.2.2 (RT_st (RG_fr hR (fun j => ((M62.2 1 j (Or.inl (by decide))).trans rfl)) (fun j => ((M62.2 2 j (Or.inl (by decide))).trans rfl)) (fun j => ((M62.2 201 j (Or.inl (by decide))).trans rfl)) ((M62.2 23 2 (Or.inl (by decide))).trans rfl) ((M62.2 23 3 (Or.inl (by decide))).trans rfl) (fun j => ((M62.2 228 j (Or.inl (by decide))).trans rfl)) (fun j => ((M62.2 229 j (Or.inl (by decide))).trans rfl))).1 (Or.inr (Or.inr p27.1))).1 (RT_st (RG_fr hR (fun j => ((M62.2 1 j (Or.inl (by decide))).trans rfl)) (fun j => ((M62.2 2 j (Or.inl (by decide))).trans rfl)) (fun j => ((M62.2 201 j (Or.inl (by decide))).trans rfl)) ((M62.2 23 2 (Or.inl (by decide))).trans rfl) ((M62.2 23 3 (Or.inl (by decide))).trans rfl) (fun j => ((M62.2 228 j (Or.inl (by decide))).trans rfl)) (fun j => ((M62.2 229 j (Or.inl (by decide))).trans rfl))).1 (Or.inr (Or.inr p27.1))).2.1 (RT_st (RG_fr hR (fun j => ((M62.2 1 j (Or.inl (by decide))).trans rfl)) (fun j => ((M62.2 2 j (Or.inl (by decide))).trans rfl)) (fun j => ((M62.2 201 j (Or.inl (by decide))).trans rfl)) ((M62.2 23 2 (Or.inl (by decide))).trans rfl) ((M62.2 23 3 (Or.inl (by decide))).trans rfl) (fun j => ((M62.2 228 j (Or.inl (by decide))).trans rfl)) (fun j => ((M62.2 229 j (Or.inl (by decide))).trans rfl))).1 (Or.inr (Or.inr p27.1))).2.2) ck6_64 (Nat.le_of_ble_eq_true rfl) rfl (fun _ => ⟨_, rfl⟩) ⟨_, _, rfl⟩ ⟨Nat.le_of_ble_eq_true rfl, Nat.le_of_ble_eq_true rfl⟩ rfl hl.1 rfl (Nat.le_of_ble_eq_true rfl) dX6_readOne_62 ⟨Nat.le_refl 0, Nat.le_refl 0⟩) X63 (fun t68 H lc q66 X67 => ?_)
          unfold po_X7_step_q at q66
          obtain ⟨q69, q70, q71⟩ := q66
          have F72 : Fr [(16, 1), (16, 2), (17, 4), (1, 3), (1, 4), (1, 5), (1, 7), (1, 8), (16, 4)] [18, 19, 20, 201] τ t68 := Fr_call F65 q70 (by decide)
          have hR73 : RG bb nb 200 an mn t68 (nx bb nb 200 t) := ⟨q71, NM2_fr hR.2 ((q70 23 2 (by decide)).trans ((M62.2 23 2 (Or.inl (by decide))).trans rfl)) ((q70 23 3 (by decide)).trans ((M62.2 23 3 (Or.inl (by decide))).trans rfl)) (fun j => ((q70 228 j (by simp [fz])).trans ((M62.2 228 j (Or.inl (by decide))).trans rfl))) (fun j => ((q70 229 j (by simp [fz])).trans ((M62.2 229 j (Or.inl (by decide))).trans rfl)))⟩
          refine lv_aload_nN S.1.1 S.1.2.1 dX6_readOne_65 rfl (lv_at hl 0 rfl) ?_
          refine lv_ifnonnullN S.1.1 S.1.2.1 dX6_readOne_66 ?_
          refine r_aload_n S dX6_readOne_69 rfl (lv_at hl 1 rfl) ?_
          refine r_iload_n S dX6_readOne_70 rfl (lv_at hl 2 rfl) ?_
          refine r_iconst S dX6_readOne_71 (by decide) (fun v74 z75 => ?_)
          have r76 := R_eq z75
          refine r_iadd S dX6_readOne_72 (fun v77 z78 => ?_)
          obtain ⟨e79, r80⟩ := i_add (lo := 3) (hi := 3) z78 h_a0 r76 rfl
          refine r_ki (q_V (As := [.int v77]) (rest := []) (K := 16) (ci := 6) S X67 (c_X6_readCond_q3 l G t68 q69 v77 r80 (by rw [((q70 16 5 (by decide)).trans ((M62.2 16 5 (Or.inr (by decide))).trans z2))]; exact R_of hf_0 rfl) (by rw [((q70 16 1 (by decide)).trans ((M62.2 16 1 (Or.inr (by decide))).trans z4))]; exact R_of hf_1 rfl) (YT_eq hYT (fun j => ((q70 18 j (by simp [fz])).trans ((M62.2 18 j (Or.inl (by decide))).trans rfl))) (fun j => ((q70 19 j (by simp [fz])).trans ((M62.2 19 j (Or.inl (by decide))).trans rfl)))) bb nb an mn (nx bb nb 200 t) (k + 1) (false :: sg) hR73 (by rw [((q70 16 4 (by decide)).trans M62.1)]; omega) (by rw [List.length_cons]; omega) rfl) ck6_35 (Nat.le_of_ble_eq_true rfl) rfl (fun _ => ⟨_, rfl⟩) ⟨_, _, rfl⟩ ⟨Nat.le_of_ble_eq_true rfl, Nat.le_of_ble_eq_true rfl⟩ rfl hl.1 rfl (Nat.le_of_ble_eq_true rfl) dX6_readOne_73 ⟨Nat.le_refl 0, Nat.le_refl 0⟩) X67 (fun v84 t83 H lc q81 X82 => ?_)
          unfold po_X6_readCond_q3 at q81
          obtain ⟨q85, q86, q87, q88, q89, q90⟩ := q81
          have F91 : Fr [(16, 1), (16, 2), (17, 4), (1, 3), (1, 4), (1, 5), (1, 7), (1, 8), (16, 4)] [18, 19, 20, 201] τ t83 := Fr_call F72 q86 (by decide)
          refine r_if_eq (tgt := 92) S dX6_readOne_76 (by decide) (fun c92 => ?_) (fun c92 => ?_)
          ·
            have r93 : R (0) (0) v84 := ⟨by omega, by omega⟩
            have p94 := q90.1 (by omega)
            obtain ⟨q95, e96, h97, h98⟩ := p94
            refine r_iconst S dX6_readOne_92 (by decide) (fun v99 z100 => ?_)
            have r101 := R_eq z100
            exact r_ret S hr hlk X82 ⟨q85, F91, q87, (R_of r101 rfl), (fun h => by exfalso; omega), (QS_l (by omega) (Hlt_tr (Rch_1 Rch_0 (stS_O (stO_o ⟨p27.1, by have q := p27.2; omega⟩ (fun h => by omega)))) e96) h97 h98)⟩ (nr_bool (R_of (lo := 0) (hi := 1) r101 rfl)) dX6_readOne_93
          ·
            have r102 : R (1) (1) v84 := ⟨by omega, by omega⟩
            have p103 := q89 (by omega)
            obtain ⟨v104, z105⟩ : ∃ x, t83 16 1 = x := ⟨_, rfl⟩
            rw [z105] at p103
            have p106 := q90.2 (by omega)
            obtain ⟨t107, k108, hR109, h4110, hk111, hP112, hr113⟩ := p106
            refine r_aload_n S dX6_readOne_79 rfl (lv_at hl 1 rfl) ?_
            refine r_bipush S dX6_readOne_80 (by decide) (fun v114 z115 => ?_)
            have r116 := R_eq z115
            refine r_ki (q_U (As := [.int v114]) (rest := []) (K := 16) (ci := 6) S X82 (c_X8_takeSign_t16 l G t83 q85 v114 r116 (by rw [z105]; exact R_of p103 rfl) bb nb an mn t107 hR109 ) ck6_85_6 (Nat.le_of_ble_eq_true rfl) rfl (fun _ => ⟨_, rfl⟩) ⟨_, _, rfl⟩ ⟨Nat.le_of_ble_eq_true rfl, Nat.le_of_ble_eq_true rfl⟩ rfl hl.1 rfl (Nat.le_of_ble_eq_true rfl) dX6_readOne_82 ⟨Nat.le_refl 0, Nat.le_refl 0⟩) X82 (fun v120 t119 H lc q117 X118 => ?_)
            unfold po_X8_takeSign_t16 at q117
            obtain ⟨q121, q122, q123, q124, q125⟩ := q117
            have F126 : Fr [(16, 1), (16, 2), (17, 4), (1, 3), (1, 4), (1, 5), (1, 7), (1, 8), (16, 4)] [18, 19, 20, 201] τ t119 := Fr_call F91 q122 (by decide)
            refine r_if_eq (tgt := 92) S dX6_readOne_85 (by decide) (fun c127 => ?_) (fun c127 => ?_)
            ·
              have r128 : R (0) (0) v120 := ⟨by omega, by omega⟩
              have p129 := (QY_0 q125) (by omega)
              obtain ⟨q130, e131, h132, h133⟩ := p129
              refine r_iconst S dX6_readOne_92 (by decide) (fun v134 z135 => ?_)
              have r136 := R_eq z135
              exact r_ret S hr hlk X118 ⟨q121, F126, (YT_eq q87 (fun j => ((q122 18 j (by simp [fz])).trans rfl)) (fun j => ((q122 19 j (by simp [fz])).trans rfl))), (R_of r136 rfl), (fun h => by exfalso; omega), (QS_l (by omega) (Hlt_1 (Rch_tr (Rch_1 Rch_0 (stS_O (stO_o ⟨p27.1, by have q := p27.2; omega⟩ (fun h => by omega)))) hr113) (stS_W (stW_fg hP112.1 hP112.2 e131))) h132 h133)⟩ (nr_bool (R_of (lo := 0) (hi := 1) r136 rfl)) dX6_readOne_93
            ·
              have r137 : R (1) (1) v120 := ⟨by omega, by omega⟩
              have p138 := q124 (by omega)
              obtain ⟨v139, z140⟩ : ∃ x, t119 16 1 = x := ⟨_, rfl⟩
              rw [z140] at p138
              have p141 := (QY_1 q125) (by omega)
              obtain ⟨g142, e143, hP144⟩ := p141
              refine r_iconst S dX6_readOne_88 (by decide) (fun v145 z146 => ?_)
              have r147 := R_eq z146
              refine r_goto (tgt := 93) S dX6_readOne_89 (by decide) ?_
              exact r_ret S hr hlk X118 ⟨q121, F126, (YT_eq q87 (fun j => ((q122 18 j (by simp [fz])).trans rfl)) (fun j => ((q122 19 j (by simp [fz])).trans rfl))), (R_of r147 rfl), (fun h => (by rw [z140]; exact R_of p138 rfl)), (QS_r (by omega) hP144 (by rw [show t119 16 4 = t83 16 4 from ((q122 16 4 (by decide)).trans rfl)]; exact h4110) ⟨by omega, by omega⟩ trivial (Rch_1 (Rch_tr (Rch_1 Rch_0 (stS_O (stO_o ⟨p27.1, by have q := p27.2; omega⟩ (fun h => by omega)))) hr113) (stS_W (stW_cg e143))))⟩ (nr_bool (R_of (lo := 0) (hi := 1) r147 rfl)) dX6_readOne_93
        ·
          exfalso; omega
    ·
      have r148 : R (0) (0) v21 := ⟨by omega, by omega⟩
      have p149 := (iff_n q24) (by omega)
      refine r_aload_n S dX6_readOne_21 rfl (lv_at hl 1 rfl) ?_
      refine r_iconst S dX6_readOne_22 (by decide) (fun v150 z151 => ?_)
      have r152 := R_eq z151
      refine r_ki (q_U (As := [.int v150]) (rest := []) (K := 16) (ci := 6) S X19 (c_X8_fail_t16 l G τ hI v150 (R_of (lo := -2147483648) (hi := 2147483647) r152 rfl)) ck6_48_6 (Nat.le_of_ble_eq_true rfl) rfl (fun _ => ⟨_, rfl⟩) ⟨_, _, rfl⟩ ⟨Nat.le_of_ble_eq_true rfl, Nat.le_of_ble_eq_true rfl⟩ rfl hl.1 rfl (Nat.le_of_ble_eq_true rfl) dX6_readOne_23 ⟨Nat.le_refl 0, Nat.le_refl 0⟩) X19 (fun v156 t155 H lc q153 X154 => ?_)
      unfold po_X8_fail_t16 at q153
      obtain ⟨q157, q158, q159, q160⟩ := q153
      have F161 : Fr [(16, 1), (16, 2), (17, 4), (1, 3), (1, 4), (1, 5), (1, 7), (1, 8), (16, 4)] [18, 19, 20, 201] τ t155 := Fr_call Fr_rfl q158 (by decide)
      exact r_ret S hr hlk X154 ⟨q157, F161, (YT_eq hYT (fun j => ((q158 18 j (by simp [fz])).trans rfl)) (fun j => ((q158 19 j (by simp [fz])).trans rfl))), (R_of q159 rfl), (fun h => by exfalso; omega), (QS_l (by omega) (Hlt_1 Rch_0 (stS_O (stO_1 (fs_no q14 (by omega) (fun h => p149 ⟨h.1, by have q := h.2; omega⟩))))) (by rw [q160]; show _ = ((1 : Nat) : Int); omega) (RG_at (RG_fr hR (fun j => ((q158 1 j (by simp [fz])).trans rfl)) (fun j => ((q158 2 j (by simp [fz])).trans rfl)) (fun j => ((q158 201 j (by simp [fz])).trans rfl)) ((q158 23 2 (by decide)).trans rfl) ((q158 23 3 (by decide)).trans rfl) (fun j => ((q158 228 j (by simp [fz])).trans rfl)) (fun j => ((q158 229 j (by simp [fz])).trans rfl)))))⟩ (nr_bool (R_of (lo := 0) (hi := 1) q159 rfl)) dX6_readOne_26
  ·
    unfold po_X6_firstWord_q at q5
    obtain ⟨q162, q163, q164⟩ := q5
    rw [q162] at X6
    refine r_astore_n (lv' := [(2, .ref (G.2.2.1 w10)), (0, .ref (G.2.2.2.1 16)), (1, .int a0)]) S dX6_readOne_4 rfl hl (by decide) rfl (fun ls hl => ?_)
    refine r_aload_n S dX6_readOne_5 rfl (lv_at hl 0 rfl) ?_
    refine lv_ifnonnull (tgt := 27) S.1.1 S.1.2.1 dX6_readOne_6 (by decide) ?_
    refine r_aload_n S dX6_readOne_27 rfl (lv_at hl 1 rfl) ?_
    refine r_getn (K := 16) S X6 (Nat.le_of_ble_eq_true rfl) rfl lk6_28_6 (fun _ => ⟨_, rfl, rfl⟩) dX6_readOne_28 (fun v165 z166 => ?_)
    have r167 : R (0) (20) v165 := rd hI rfl z166
    have e168 : v165.toInt = (k : Int) := by rw [← z166]; exact hon
    refine r_bipush S dX6_readOne_31 (by decide) (fun v169 z170 => ?_)
    have r171 := R_eq z170
    refine r_icmp_ge (tgt := 42) S dX6_readOne_33 (by decide) (fun c172 => ?_) (fun c172 => ?_)
    ·
      have r173 : R (20) (20) v165 := ⟨by omega, by omega⟩
      refine r_aload_n S dX6_readOne_42 rfl (lv_at hl 1 rfl) ?_
      refine r_iconst S dX6_readOne_43 (by decide) (fun v174 z175 => ?_)
      have r176 := R_eq z175
      refine r_ki (q_U (As := [.int v174]) (rest := []) (K := 16) (ci := 6) S X6 (c_X8_fail_t16 l G τ hI v174 (R_of (lo := -2147483648) (hi := 2147483647) r176 rfl)) ck6_48_6 (Nat.le_of_ble_eq_true rfl) rfl (fun _ => ⟨_, rfl⟩) ⟨_, _, rfl⟩ ⟨Nat.le_of_ble_eq_true rfl, Nat.le_of_ble_eq_true rfl⟩ rfl hl.1 rfl (Nat.le_of_ble_eq_true rfl) dX6_readOne_44 ⟨Nat.le_refl 0, Nat.le_refl 0⟩) X6 (fun v180 t179 H lc q177 X178 => ?_)
      unfold po_X8_fail_t16 at q177
      obtain ⟨q181, q182, q183, q184⟩ := q177
      have F185 : Fr [(16, 1), (16, 2), (17, 4), (1, 3), (1, 4), (1, 5), (1, 7), (1, 8), (16, 4)] [18, 19, 20, 201] τ t179 := Fr_call Fr_rfl q182 (by decide)
      exact r_ret S hr hlk X178 ⟨q181, F185, (YT_eq hYT (fun j => ((q182 18 j (by simp [fz])).trans rfl)) (fun j => ((q182 19 j (by simp [fz])).trans rfl))), (R_of q183 rfl), (fun h => by exfalso; omega), (QS_l (by omega) (Hlt_1 Rch_0 (stS_O (stO_4 (fs_w (i := w10) q164 (by omega)) (by omega)))) (by rw [q184]; show _ = ((4 : Nat) : Int); omega) (RG_at (RG_fr hR (fun j => ((q182 1 j (by simp [fz])).trans rfl)) (fun j => ((q182 2 j (by simp [fz])).trans rfl)) (fun j => ((q182 201 j (by simp [fz])).trans rfl)) ((q182 23 2 (by decide)).trans rfl) ((q182 23 3 (by decide)).trans rfl) (fun j => ((q182 228 j (by simp [fz])).trans rfl)) (fun j => ((q182 229 j (by simp [fz])).trans rfl)))))⟩ (nr_bool (R_of (lo := 0) (hi := 1) q183 rfl)) dX6_readOne_47
    ·
      have r186 : R (0) (19) v165 := ⟨by omega, by omega⟩
      refine r_iload_n S dX6_readOne_36 rfl (lv_at hl 2 rfl) ?_
      refine r_bipush S dX6_readOne_37 (by decide) (fun v187 z188 => ?_)
      have r189 := R_eq z188
      refine r_icmp_le (tgt := 48) S dX6_readOne_39 (by decide) (fun c190 => ?_) (fun c190 => ?_)
      ·
        refine r_aload_n S dX6_readOne_48 rfl (lv_at hl 1 rfl) ?_
        refine r_dup S dX6_readOne_49 rfl ?_
        refine r_geti (K := 16) S X6 (Nat.le_of_ble_eq_true rfl) rfl lk6_28_6 (fun _ => ⟨_, rfl, rfl⟩) z166 dX6_readOne_50 ?_
        refine r_iconst S dX6_readOne_53 (by decide) (fun v191 z192 => ?_)
        have r193 := R_eq z192
        refine r_iadd S dX6_readOne_54 (fun v194 z195 => ?_)
        obtain ⟨e196, r197⟩ := i_add (lo := 1) (hi := 20) z195 r186 r193 rfl
        refine r_put (K := 16) (ty := .int) S X6 (Nat.le_of_ble_eq_true rfl) rfl lk6_28_6 (fun _ => ⟨_, rfl, Nat.le_of_ble_eq_true rfl, rfl⟩) (fun _ _ _ h => by cases h; exact ⟨rfl, rfl⟩) rfl rfl dX6_readOne_55 (fun t198 H lc M199 X200 => ?_)
        have I201 := Inv_mu hI M199 (show Rg (kd 16) 4 v194 from (R_of (lo := 0) (hi := 20) r197 rfl))
        have F202 : Fr [(16, 1), (16, 2), (17, 4), (1, 3), (1, 4), (1, 5), (1, 7), (1, 8), (16, 4)] [18, 19, 20, 201] τ t198 := Fr_mu Fr_rfl M199 (by decide)
        refine r_aload_n S dX6_readOne_58 rfl (lv_at hl 1 rfl) ?_
        refine r_get (K := 16) (v := .ref (G.2.2.2.1 1)) S X200 (Nat.le_of_ble_eq_true rfl) rfl lk6_39_6 (fun _ => ⟨_, rfl, rfl⟩) dX6_readOne_59 ?_
        refine r_kv (q_V (As := []) (rest := []) (K := 1) (ci := 7) S X200 (c_X7_step_q l G t198 I201 bb nb 200 t.2.2 (RT_st (RG_fr hR (fun j => ((M199.2 1 j (Or.inl (by decide))).trans rfl)) (fun j => ((M199.2 2 j (Or.inl (by decide))).trans rfl)) (fun j => ((M199.2 201 j (Or.inl (by decide))).trans rfl)) ((M199.2 23 2 (Or.inl (by decide))).trans rfl) ((M199.2 23 3 (Or.inl (by decide))).trans rfl) (fun j => ((M199.2 228 j (Or.inl (by decide))).trans rfl)) (fun j => ((M199.2 229 j (Or.inl (by decide))).trans rfl))).1 (Or.inl (q164.2 w10 (by omega)).1.1)).1 (RT_st (RG_fr hR (fun j => ((M199.2 1 j (Or.inl (by decide))).trans rfl)) (fun j => ((M199.2 2 j (Or.inl (by decide))).trans rfl)) (fun j => ((M199.2 201 j (Or.inl (by decide))).trans rfl)) ((M199.2 23 2 (Or.inl (by decide))).trans rfl) ((M199.2 23 3 (Or.inl (by decide))).trans rfl) (fun j => ((M199.2 228 j (Or.inl (by decide))).trans rfl)) (fun j => ((M199.2 229 j (Or.inl (by decide))).trans rfl))).1 (Or.inl (q164.2 w10 (by omega)).1.1)).2.1 (RT_st (RG_fr hR (fun j => ((M199.2 1 j (Or.inl (by decide))).trans rfl)) (fun j => ((M199.2 2 j (Or.inl (by decide))).trans rfl)) (fun j => ((M199.2 201 j (Or.inl (by decide))).trans rfl)) ((M199.2 23 2 (Or.inl (by decide))).trans rfl) ((M199.2 23 3 (Or.inl (by decide))).trans rfl) (fun j => ((M199.2 228 j (Or.inl (by decide))).trans rfl)) (fun j => ((M199.2 229 j (Or.inl (by decide))).trans rfl))).1 (Or.inl (q164.2 w10 (by omega)).1.1)).2.2) ck6_64 (Nat.le_of_ble_eq_true rfl) rfl (fun _ => ⟨_, rfl⟩) ⟨_, _, rfl⟩ ⟨Nat.le_of_ble_eq_true rfl, Nat.le_of_ble_eq_true rfl⟩ rfl hl.1 rfl (Nat.le_of_ble_eq_true rfl) dX6_readOne_62 ⟨Nat.le_refl 0, Nat.le_refl 0⟩) X200 (fun t205 H lc q203 X204 => ?_)
        unfold po_X7_step_q at q203
        obtain ⟨q206, q207, q208⟩ := q203
        have F209 : Fr [(16, 1), (16, 2), (17, 4), (1, 3), (1, 4), (1, 5), (1, 7), (1, 8), (16, 4)] [18, 19, 20, 201] τ t205 := Fr_call F202 q207 (by decide)
        have hR210 : RG bb nb 200 an mn t205 (nx bb nb 200 t) := ⟨q208, NM2_fr hR.2 ((q207 23 2 (by decide)).trans ((M199.2 23 2 (Or.inl (by decide))).trans rfl)) ((q207 23 3 (by decide)).trans ((M199.2 23 3 (Or.inl (by decide))).trans rfl)) (fun j => ((q207 228 j (by simp [fz])).trans ((M199.2 228 j (Or.inl (by decide))).trans rfl))) (fun j => ((q207 229 j (by simp [fz])).trans ((M199.2 229 j (Or.inl (by decide))).trans rfl)))⟩
        refine r_aload_n S dX6_readOne_65 rfl (lv_at hl 0 rfl) ?_
        refine lv_ifnonnull (tgt := 94) S.1.1 S.1.2.1 dX6_readOne_66 (by decide) ?_
        refine r_aload_n S dX6_readOne_94 rfl (lv_at hl 0 rfl) ?_
        refine r_wst (i := 15) S X204 (by decide) kw74 dX6_readOne_95 ?_
        refine r_cacmp_ne (tgt := 127) S h_w10 (by decide) dX6_readOne_98 (by decide) (fun c211 => ?_) (fun c211 => ?_)
        ·
          refine r_aload_n S dX6_readOne_127 rfl (lv_at hl 1 rfl) ?_
          refine r_aload_n S dX6_readOne_128 rfl (lv_at hl 0 rfl) ?_
          refine r_ki (q_V (As := [.ref (G.2.2.1 w10)]) (rest := []) (K := 16) (ci := 6) S X204 (c_X6_readPlainOne_q l G t205 q206 w10 h_w10 (by rw [((q207 16 5 (by decide)).trans ((M199.2 16 5 (Or.inr (by decide))).trans z2))]; exact R_of hf_0 rfl) (by rw [((q207 16 1 (by decide)).trans ((M199.2 16 1 (Or.inr (by decide))).trans z4))]; exact R_of hf_1 rfl) (YT_eq hYT (fun j => ((q207 18 j (by simp [fz])).trans ((M199.2 18 j (Or.inl (by decide))).trans rfl))) (fun j => ((q207 19 j (by simp [fz])).trans ((M199.2 19 j (Or.inl (by decide))).trans rfl)))) bb nb an mn t hR210 (q164.2 w10 (by omega)).1 ⟨(q164.2 w10 (by omega)).2, by omega⟩) ck6_91 (Nat.le_of_ble_eq_true rfl) rfl (fun _ => ⟨_, rfl⟩) ⟨_, _, rfl⟩ ⟨Nat.le_of_ble_eq_true rfl, Nat.le_of_ble_eq_true rfl⟩ rfl hl.1 rfl (Nat.le_of_ble_eq_true rfl) dX6_readOne_129 ⟨Nat.le_refl 0, Nat.le_refl 0⟩) X204 (fun v215 t214 H lc q212 X213 => ?_)
          unfold po_X6_readPlainOne_q at q212
          obtain ⟨q216, q217, q218, q219, q220, q221⟩ := q212
          have F222 : Fr [(16, 1), (16, 2), (17, 4), (1, 3), (1, 4), (1, 5), (1, 7), (1, 8), (16, 4)] [18, 19, 20, 201] τ t214 := Fr_call F209 q217 (by decide)
          exact r_ret S hr hlk X213 ⟨q216, F222, q218, q219, (fun h => q220 h), (QS_y q221 (by omega) (lf_i (q164.2 w10 (by omega)).1 (q164.2 w10 (by omega)).2 (by omega)) (fun h => by omega) (by rw [show t214 16 4 = t205 16 4 from ((q217 16 4 (by decide)).trans rfl), ((q207 16 4 (by decide)).trans M199.1)]; omega))⟩ (nr_bool (R_of (lo := 0) (hi := 1) q219 rfl)) dX6_readOne_132
        ·
          refine r_aload_n S dX6_readOne_101 rfl (lv_at hl 1 rfl) ?_
          refine r_iload_n S dX6_readOne_102 rfl (lv_at hl 2 rfl) ?_
          refine r_iconst S dX6_readOne_103 (by decide) (fun v223 z224 => ?_)
          have r225 := R_eq z224
          refine r_iadd S dX6_readOne_104 (fun v226 z227 => ?_)
          obtain ⟨e228, r229⟩ := i_add (lo := 3) (hi := 3) z227 h_a0 r225 rfl
          refine r_ki (q_V (As := [.int v226]) (rest := []) (K := 16) (ci := 6) S X204 (c_X6_readOne_q3 l G t205 q206 v226 r229 (by rw [((q207 16 5 (by decide)).trans ((M199.2 16 5 (Or.inr (by decide))).trans z2))]; exact R_of hf_0 rfl) (by rw [((q207 16 1 (by decide)).trans ((M199.2 16 1 (Or.inr (by decide))).trans z4))]; exact R_of hf_1 rfl) (YT_eq hYT (fun j => ((q207 18 j (by simp [fz])).trans ((M199.2 18 j (Or.inl (by decide))).trans rfl))) (fun j => ((q207 19 j (by simp [fz])).trans ((M199.2 19 j (Or.inl (by decide))).trans rfl)))) bb nb an mn (nx bb nb 200 t) (k + 1) (true :: sg) hR210 (by rw [((q207 16 4 (by decide)).trans M199.1)]; omega) (by rw [List.length_cons]; omega)) ck6_71 (Nat.le_of_ble_eq_true rfl) rfl (fun _ => ⟨_, rfl⟩) ⟨_, _, rfl⟩ ⟨Nat.le_of_ble_eq_true rfl, Nat.le_of_ble_eq_true rfl⟩ rfl hl.1 rfl (Nat.le_of_ble_eq_true rfl) dX6_readOne_105 ⟨Nat.le_refl 0, Nat.le_refl 0⟩) X204 (fun v233 t232 H lc q230 X231 => ?_)
          unfold po_X6_readOne_q3 at q230
          obtain ⟨q234, q235, q236, q237, q238, q239⟩ := q230
          have F240 : Fr [(16, 1), (16, 2), (17, 4), (1, 3), (1, 4), (1, 5), (1, 7), (1, 8), (16, 4)] [18, 19, 20, 201] τ t232 := Fr_call F209 q235 (by decide)
          refine r_if_ne (tgt := 113) S dX6_readOne_108 (by decide) (fun c241 => ?_) (fun c241 => ?_)
          ·
            have r242 : R (1) (1) v233 := ⟨by omega, by omega⟩
            have p243 := q238 (by omega)
            obtain ⟨v244, z245⟩ : ∃ x, t232 16 1 = x := ⟨_, rfl⟩
            rw [z245] at p243
            have p246 := q239.2 (by omega)
            obtain ⟨t247, k248, hR249, h4250, hk251, hP252, hr253⟩ := p246
            refine r_aload_n S dX6_readOne_113 rfl (lv_at hl 1 rfl) ?_
            refine r_get (K := 16) (v := .ref (G.2.2.2.1 17)) S X231 (Nat.le_of_ble_eq_true rfl) rfl lk6_14_6 (fun _ => ⟨_, rfl, rfl⟩) dX6_readOne_114 ?_
            refine r_wst (i := 15) S X231 (by decide) kw74 dX6_readOne_117 ?_
            refine r_iconst S dX6_readOne_120 (by decide) (fun v254 z255 => ?_)
            have r256 := R_eq z255
            refine r_iconst S dX6_readOne_121 (by decide) (fun v257 z258 => ?_)
            have r259 := R_eq z258
            refine r_kv (q_V (As := [.ref (G.2.2.1 15), .int v254, .int v257]) (rest := []) (K := 17) (ci := 5) S X231 (c_X5_add l G t232 q234 15 (by decide) v254 v257 (R_of (lo := -2147483648) (hi := 2147483647) r256 rfl) (R_of (lo := 0) (hi := 99) r259 rfl) q236 (by omega)) ck6_67 (Nat.le_of_ble_eq_true rfl) rfl (fun _ => ⟨_, rfl⟩) ⟨_, _, rfl⟩ ⟨Nat.le_of_ble_eq_true rfl, Nat.le_of_ble_eq_true rfl⟩ rfl hl.1 rfl (Nat.le_of_ble_eq_true rfl) dX6_readOne_122 ⟨Nat.le_refl 0, Nat.le_refl 0⟩) X231 (fun t262 H lc q260 X261 => ?_)
            unfold po_X5_add at q260
            obtain ⟨q263, q264, q265⟩ := q260
            have F266 : Fr [(16, 1), (16, 2), (17, 4), (1, 3), (1, 4), (1, 5), (1, 7), (1, 8), (16, 4)] [18, 19, 20, 201] τ t262 := Fr_call F240 q264 (by decide)
            refine r_iconst S dX6_readOne_125 (by decide) (fun v267 z268 => ?_)
            have r269 := R_eq z268
            exact r_ret S hr hlk X261 ⟨q263, F266, q265, (R_of r269 rfl), (fun h => (by rw [((q264 16 1 (by decide)).trans z245)]; exact R_of p243 rfl)), (QS_r (by omega) (RG_fr hR249 (fun j => ((q264 1 j (by simp [fz])).trans rfl)) (fun j => ((q264 2 j (by simp [fz])).trans rfl)) (fun j => ((q264 201 j (by simp [fz])).trans rfl)) ((q264 23 2 (by decide)).trans rfl) ((q264 23 3 (by decide)).trans rfl) (fun j => ((q264 228 j (by simp [fz])).trans rfl)) (fun j => ((q264 229 j (by simp [fz])).trans rfl))) (by rw [show t262 16 4 = t232 16 4 from ((q264 16 4 (by decide)).trans rfl)]; exact h4250) ⟨by omega, by omega⟩ trivial (Rch_tr (Rch_1 Rch_0 (stS_O (stO_n (w15 (q164.2 w10 (by omega)).1 (by omega)) (fun h => by omega)))) hr253))⟩ (nr_bool (R_of (lo := 0) (hi := 1) r269 rfl)) dX6_readOne_126
          ·
            have r270 : R (0) (0) v233 := ⟨by omega, by omega⟩
            have p271 := q239.1 (by omega)
            obtain ⟨q272, e273, h274, h275⟩ := p271
            refine r_iconst S dX6_readOne_111 (by decide) (fun v276 z277 => ?_)
            have r278 := R_eq z277
            exact r_ret S hr hlk X231 ⟨q234, F240, q236, (R_of r278 rfl), (fun h => by exfalso; omega), (QS_l (by omega) (Hlt_tr (Rch_1 Rch_0 (stS_O (stO_n (w15 (q164.2 w10 (by omega)).1 (by omega)) (fun h => by omega)))) e273) h274 h275)⟩ (nr_bool (R_of (lo := 0) (hi := 1) r278 rfl)) dX6_readOne_112
      ·
        exfalso; omega
def po_X6_readAll_q2 (τ : Tau)  (a0 : Int32)  (bb : Nat → Int) (nb : Nat) (an mn : List (List Int)) (t : Tk) (k : Nat) (sg : List Bool) (r : Int32) (u : Tau) : Prop := Inv u ∧ Fr [(16, 1), (16, 2), (17, 4), (1, 3), (1, 4), (1, 5), (1, 7), (1, 8), (16, 4)] [18, 19, 20, 201] τ u ∧ YT u ∧ R (0) (1) r ∧ (r.toInt = 1 → R (0) (0) (u 16 1)) ∧ QS bb nb 200 an mn t k sg sg r u (fun t => ¬ isW bb 14 t)
set_option maxHeartbeats 4000000 in
set_option maxRecDepth 100000 in
theorem c_X6_readAll_q2 (l : Launch) (G : Gx) (τ : Tau) (hI : Inv τ) (a0 : Int32) (h_a0 : R (2) (2) a0) (hf_0 : R (1) (1) (τ 16 5)) (hf_1 : R (0) (0) (τ 16 1)) (hYT : YT τ) (bb : Nat → Int) (nb : Nat) (an mn : List (List Int)) (t : Tk) (k : Nat) (sg : List Bool) (hR : RG bb nb 200 an mn τ t) (hon : (τ 16 4).toInt = k) (hs : sg.length + 1 = 2) (hd : dropN sg = sg) : Ci l G yX6_readAll cX6_readAll 3 (some .boolean) 25 545 [.ref (G.2.2.2.1 16), .int a0] τ (po_X6_readAll_q2 τ  a0  bb nb an mn t k sg) := by
  unfold Ci
  refine C_of (own := RX6) (by decide) rfl (Nat.le_of_ble_eq_true rfl) ?_
  intro p e s m below meth c ls S hr hlk X hl
  have hl : lv_has ls 3 [(0, .ref (G.2.2.2.1 16)), (1, .int a0)] := hl
  obtain ⟨v1, z2⟩ : ∃ x, τ 16 5 = x := ⟨_, rfl⟩
  rw [z2] at hf_0
  obtain ⟨v3, z4⟩ : ∃ x, τ 16 1 = x := ⟨_, rfl⟩
  rw [z4] at hf_1
  refine r_aload_n S dX6_readAll_0 rfl (lv_at hl 0 rfl) ?_
  refine r_iload_n S dX6_readAll_1 rfl (lv_at hl 1 rfl) ?_
  refine r_ki (q_V (As := [.int a0]) (rest := []) (K := 16) (ci := 6) S X (c_X6_readOne_q2 l G τ hI a0 h_a0 (by rw [z2]; exact R_of hf_0 rfl) (by rw [z4]; exact R_of hf_1 rfl) hYT bb nb an mn t k sg hR hon hs) ck6_71 (Nat.le_of_ble_eq_true rfl) rfl (fun _ => ⟨_, rfl⟩) ⟨_, _, rfl⟩ ⟨Nat.le_of_ble_eq_true rfl, Nat.le_of_ble_eq_true rfl⟩ rfl hl.1 rfl (Nat.le_of_ble_eq_true rfl) dX6_readAll_2 ⟨Nat.le_refl 0, Nat.le_refl 0⟩) X (fun v8 t7 H lc q5 X6 => ?_)
  unfold po_X6_readOne_q2 at q5
  obtain ⟨q9, q10, q11, q12, q13, q14⟩ := q5
  have F15 : Fr [(16, 1), (16, 2), (17, 4), (1, 3), (1, 4), (1, 5), (1, 7), (1, 8), (16, 4)] [18, 19, 20, 201] τ t7 := Fr_call Fr_rfl q10 (by decide)
  refine r_if_ne (tgt := 10) S dX6_readAll_5 (by decide) (fun c16 => ?_) (fun c16 => ?_)
  ·
    have r17 : R (1) (1) v8 := ⟨by omega, by omega⟩
    have p18 := q13 (by omega)
    obtain ⟨v19, z20⟩ : ∃ x, t7 16 1 = x := ⟨_, rfl⟩
    rw [z20] at p18
    have p21 := q14.2 (by omega)
    obtain ⟨t22, k23, hR24, h425, hk26, hP27, hr28⟩ := p21
    rw [hd] at hr28
    refine r_iconst S dX6_readAll_10 (by decide) (fun v29 z30 => ?_)
    have r31 := R_eq z30
    refine r_istore_n (lv' := [(2, .int v29), (0, .ref (G.2.2.2.1 16)), (1, .int a0)]) S dX6_readAll_11 rfl hl (by decide) rfl (fun ls hl => ?_)
    have L1036 : ∀ (n : Nat) (t1027 : Tau) (H : Heap) (lc : List Loc) (ls : Array Slot) (i1025 : Int32) (f1033 : Int32), Xd G s H lc t1027 → Inv t1027 → Fr [(16, 1), (16, 2), (17, 4), (1, 3), (1, 4), (1, 5), (1, 7), (1, 8), (16, 4)] [18, 19, 20, 201] τ t1027 → YT t1027 → R (0) (24) i1025 → t1027 16 5 = v1 → t1027 16 1 = f1033 → R (0) (0) f1033 → (∃ (tc : Tk) (kc : Nat), RG bb nb 200 an mn t1027 tc ∧ (t1027 16 4).toInt = kc ∧ ((i1025).toInt + 1 + k ≤ kc ∧ kc ≤ 20) ∧ True ∧ Rch bb nb 200 an mn (false, t, k, sg) (true, tc, kc, sg)) → lv_has ls 3 [(0, .ref (G.2.2.2.1 16)), (1, .int a0), (2, .int i1025)] → (24 - i1025.toInt).toNat < n → W p l e (Rm 25 545) s m ([.ref (G.2.2.2.1 16), .int a0] : List Value).toArray below meth c H lc 0 0 (MQ below (va_Qi (po_X6_readAll_q2 τ  a0  bb nb an mn t k sg) (Bs G) G.2.2.2.2) ([.ref (G.2.2.2.1 16), .int a0] : List Value).toArray s 0 0 G.2.2.2.2) (F0 m 12 ls []) := by
      intro n
      induction n with
      | zero => intros; omega
      | succ n ih1038 =>
        intro t1027 H lc ls i1025 f1033 X1031 I1028 F1029 hYT1030 r1026 z1032 z1035 r1034 x1037 hl hm
        obtain ⟨tc1039, kc1040, hR1041, h41042, hk1043, hP1044, hr1045⟩ := x1037
        refine r_iload_n S dX6_readAll_12 rfl (lv_at hl 2 rfl) ?_
        refine r_bipush S dX6_readAll_13 (by decide) (fun v1046 z1047 => ?_)
        have r1048 := R_eq z1047
        refine r_icmp_gt (tgt := 66) S dX6_readAll_15 (by decide) (fun c1049 => ?_) (fun c1049 => ?_)
        ·
          have r1050 : R (21) (24) i1025 := ⟨by omega, by omega⟩
          refine r_iconst S dX6_readAll_66 (by decide) (fun v1051 z1052 => ?_)
          have r1053 := R_eq z1052
          exact r_ret S hr hlk X1031 ⟨I1028, F1029, hYT1030, (R_of r1053 rfl), (fun h => (by rw [z1035]; exact R_of r1034 rfl)), (by exfalso; omega)⟩ (nr_bool (R_of (lo := 0) (hi := 1) r1053 rfl)) dX6_readAll_67
        ·
          have r1054 : R (0) (20) i1025 := ⟨by omega, by omega⟩
          refine r_aload_n S dX6_readAll_18 rfl (lv_at hl 0 rfl) ?_
          refine r_get (K := 16) (v := .ref (G.2.2.2.1 1)) S X1031 (Nat.le_of_ble_eq_true rfl) rfl lk6_39_6 (fun _ => ⟨_, rfl, rfl⟩) dX6_readAll_19 ?_
          refine r_wst (i := 14) S X1031 (by decide) kw81 dX6_readAll_22 ?_
          refine r_ki (q_V (As := [.ref (G.2.2.1 14)]) (rest := []) (K := 1) (ci := 7) S X1031 (c_X7_is_q l G t1027 I1028 14 (by decide) bb nb 200 tc1039 hR1041.1) ck6_60 (Nat.le_of_ble_eq_true rfl) rfl (fun _ => ⟨_, rfl⟩) ⟨_, _, rfl⟩ ⟨Nat.le_of_ble_eq_true rfl, Nat.le_of_ble_eq_true rfl⟩ rfl hl.1 rfl (Nat.le_of_ble_eq_true rfl) dX6_readAll_25 ⟨Nat.le_refl 0, Nat.le_refl 0⟩) X1031 (fun v1058 t1057 H lc q1055 X1056 => ?_)
          unfold po_X7_is_q at q1055
          obtain ⟨q1059, q1060, q1061⟩ := q1055
          rw [q1059] at X1056
          refine r_if_eq (tgt := 66) S dX6_readAll_28 (by decide) (fun c1062 => ?_) (fun c1062 => ?_)
          ·
            have r1063 : R (0) (0) v1058 := ⟨by omega, by omega⟩
            have p1064 := (iff_n q1061) (by omega)
            refine r_iconst S dX6_readAll_66 (by decide) (fun v1065 z1066 => ?_)
            have r1067 := R_eq z1066
            exact r_ret S hr hlk X1056 ⟨I1028, F1029, hYT1030, (R_of r1067 rfl), (fun h => (by rw [z1035]; exact R_of r1034 rfl)), (QS_r (by omega) hR1041 (by rw [show t1027 16 4 = t1027 16 4 from rfl]; exact h41042) ⟨by omega, by omega⟩ p1064 hr1045)⟩ (nr_bool (R_of (lo := 0) (hi := 1) r1067 rfl)) dX6_readAll_67
          ·
            have r1068 : R (1) (1) v1058 := ⟨by omega, by omega⟩
            have p1069 := (q1061).mp (by omega)
            refine r_aload_n S dX6_readAll_31 rfl (lv_at hl 0 rfl) ?_
            refine r_get (K := 16) (v := .ref (G.2.2.2.1 1)) S X1056 (Nat.le_of_ble_eq_true rfl) rfl lk6_39_6 (fun _ => ⟨_, rfl, rfl⟩) dX6_readAll_32 ?_
            refine r_kv (q_V (As := []) (rest := []) (K := 1) (ci := 7) S X1056 (c_X7_step_q l G t1027 I1028 bb nb 200 tc1039.2.2 (RT_st hR1041.1 (Or.inl p1069.1)).1 (RT_st hR1041.1 (Or.inl p1069.1)).2.1 (RT_st hR1041.1 (Or.inl p1069.1)).2.2) ck6_64 (Nat.le_of_ble_eq_true rfl) rfl (fun _ => ⟨_, rfl⟩) ⟨_, _, rfl⟩ ⟨Nat.le_of_ble_eq_true rfl, Nat.le_of_ble_eq_true rfl⟩ rfl hl.1 rfl (Nat.le_of_ble_eq_true rfl) dX6_readAll_35 ⟨Nat.le_refl 0, Nat.le_refl 0⟩) X1056 (fun t1072 H lc q1070 X1071 => ?_)
            unfold po_X7_step_q at q1070
            obtain ⟨q1073, q1074, q1075⟩ := q1070
            have F1076 : Fr [(16, 1), (16, 2), (17, 4), (1, 3), (1, 4), (1, 5), (1, 7), (1, 8), (16, 4)] [18, 19, 20, 201] τ t1072 := Fr_call F1029 q1074 (by decide)
            have hR1077 : RG bb nb 200 an mn t1072 (nx bb nb 200 tc1039) := ⟨q1075, NM2_fr hR1041.2 ((q1074 23 2 (by decide)).trans rfl) ((q1074 23 3 (by decide)).trans rfl) (fun j => ((q1074 228 j (by simp [fz])).trans rfl)) (fun j => ((q1074 229 j (by simp [fz])).trans rfl))⟩
            refine r_aload_n S dX6_readAll_38 rfl (lv_at hl 0 rfl) ?_
            refine r_iload_n S dX6_readAll_39 rfl (lv_at hl 1 rfl) ?_
            refine r_ki (q_V (As := [.int a0]) (rest := []) (K := 16) (ci := 6) S X1071 (c_X6_readOne_q2 l G t1072 q1073 a0 h_a0 (by rw [((q1074 16 5 (by decide)).trans z1032)]; exact R_of hf_0 rfl) (by rw [((q1074 16 1 (by decide)).trans z1035)]; exact R_of r1034 rfl) (YT_eq hYT1030 (fun j => ((q1074 18 j (by simp [fz])).trans rfl)) (fun j => ((q1074 19 j (by simp [fz])).trans rfl))) bb nb an mn (nx bb nb 200 tc1039) kc1040 sg hR1077 (by rw [show t1072 16 4 = t1027 16 4 from ((q1074 16 4 (by decide)).trans rfl)]; exact h41042) hs) ck6_71 (Nat.le_of_ble_eq_true rfl) rfl (fun _ => ⟨_, rfl⟩) ⟨_, _, rfl⟩ ⟨Nat.le_of_ble_eq_true rfl, Nat.le_of_ble_eq_true rfl⟩ rfl hl.1 rfl (Nat.le_of_ble_eq_true rfl) dX6_readAll_40 ⟨Nat.le_refl 0, Nat.le_refl 0⟩) X1071 (fun v1081 t1080 H lc q1078 X1079 => ?_)
            unfold po_X6_readOne_q2 at q1078
            obtain ⟨q1082, q1083, q1084, q1085, q1086, q1087⟩ := q1078
            have F1088 : Fr [(16, 1), (16, 2), (17, 4), (1, 3), (1, 4), (1, 5), (1, 7), (1, 8), (16, 4)] [18, 19, 20, 201] τ t1080 := Fr_call F1076 q1083 (by decide)
            refine r_if_ne (tgt := 48) S dX6_readAll_43 (by decide) (fun c1089 => ?_) (fun c1089 => ?_)
            ·
              have r1090 : R (1) (1) v1081 := ⟨by omega, by omega⟩
              have p1091 := q1086 (by omega)
              obtain ⟨v1092, z1093⟩ : ∃ x, t1080 16 1 = x := ⟨_, rfl⟩
              rw [z1093] at p1091
              have p1094 := q1087.2 (by omega)
              obtain ⟨t1095, k1096, hR1097, h41098, hk1099, hP1100, hr1101⟩ := p1094
              rw [hd] at hr1101
              refine r_aload_n S dX6_readAll_48 rfl (lv_at hl 0 rfl) ?_
              refine r_get (K := 16) (v := .ref (G.2.2.2.1 17)) S X1079 (Nat.le_of_ble_eq_true rfl) rfl lk6_14_6 (fun _ => ⟨_, rfl, rfl⟩) dX6_readAll_49 ?_
              refine r_wst (i := 14) S X1079 (by decide) kw81 dX6_readAll_52 ?_
              refine r_iconst S dX6_readAll_55 (by decide) (fun v1102 z1103 => ?_)
              have r1104 := R_eq z1103
              refine r_iconst S dX6_readAll_56 (by decide) (fun v1105 z1106 => ?_)
              have r1107 := R_eq z1106
              refine r_kv (q_V (As := [.ref (G.2.2.1 14), .int v1102, .int v1105]) (rest := []) (K := 17) (ci := 5) S X1079 (c_X5_add l G t1080 q1082 14 (by decide) v1102 v1105 (R_of (lo := -2147483648) (hi := 2147483647) r1104 rfl) (R_of (lo := 0) (hi := 99) r1107 rfl) q1084 (by omega)) ck6_67 (Nat.le_of_ble_eq_true rfl) rfl (fun _ => ⟨_, rfl⟩) ⟨_, _, rfl⟩ ⟨Nat.le_of_ble_eq_true rfl, Nat.le_of_ble_eq_true rfl⟩ rfl hl.1 rfl (Nat.le_of_ble_eq_true rfl) dX6_readAll_57 ⟨Nat.le_refl 0, Nat.le_refl 0⟩) X1079 (fun t1110 H lc q1108 X1109 => ?_)
              unfold po_X5_add at q1108
              obtain ⟨q1111, q1112, q1113⟩ := q1108
              have F1114 : Fr [(16, 1), (16, 2), (17, 4), (1, 3), (1, 4), (1, 5), (1, 7), (1, 8), (16, 4)] [18, 19, 20, 201] τ t1110 := Fr_call F1088 q1112 (by decide)
              refine r_iinc (k := 2) S dX6_readAll_60 hl rfl (by decide) (by decide) (fun v1115 d1116 ls z1117 z1118 hl => ?_)
              obtain ⟨e1119, r1120⟩ := i_add (lo := 1) (hi := 21) z1117 r1054 (R_eq z1118) rfl
              have hl : lv_has ls 3 [(2, .int v1115), (0, .ref (G.2.2.2.1 16)), (1, .int a0)] := hl
              refine r_goto (tgt := 12) S dX6_readAll_63 (by decide) ?_
              exact ih1038 t1110 _ _ _ v1115 v1092 X1109 q1111 F1114 q1113 (R_of r1120 rfl) ((q1112 16 5 (by decide)).trans ((q1083 16 5 (by decide)).trans ((q1074 16 5 (by decide)).trans z1032))) ((q1112 16 1 (by decide)).trans z1093) ⟨by omega, by omega⟩ ⟨t1095, k1096, (RG_fr hR1097 (fun j => ((q1112 1 j (by simp [fz])).trans rfl)) (fun j => ((q1112 2 j (by simp [fz])).trans rfl)) (fun j => ((q1112 201 j (by simp [fz])).trans rfl)) ((q1112 23 2 (by decide)).trans rfl) ((q1112 23 3 (by decide)).trans rfl) (fun j => ((q1112 228 j (by simp [fz])).trans rfl)) (fun j => ((q1112 229 j (by simp [fz])).trans rfl))), (by rw [show t1110 16 4 = t1080 16 4 from ((q1112 16 4 (by decide)).trans rfl)]; exact h41098), ⟨by omega, by omega⟩, trivial, (Rch_tr (Rch_1 hr1045 (stS_W (stW_a (Or.inl p1069)))) hr1101)⟩ (lv_sub hl [1, 2, 0] rfl) (by omega)
            ·
              have r1121 : R (0) (0) v1081 := ⟨by omega, by omega⟩
              have p1122 := q1087.1 (by omega)
              obtain ⟨q1123, e1124, h1125, h1126⟩ := p1122
              refine r_iconst S dX6_readAll_46 (by decide) (fun v1127 z1128 => ?_)
              have r1129 := R_eq z1128
              exact r_ret S hr hlk X1079 ⟨q1082, F1088, q1084, (R_of r1129 rfl), (fun h => by exfalso; omega), (QS_l (by omega) (Hlt_tr (Rch_1 hr1045 (stS_W (stW_a (Or.inl p1069)))) e1124) h1125 h1126)⟩ (nr_bool (R_of (lo := 0) (hi := 1) r1129 rfl)) dX6_readAll_47
    exact L1036 _ t7 _ _ _ v29 v19 X6 q9 F15 q11 (R_of r31 rfl) ((q10 16 5 (by decide)).trans z2) z20 ⟨by omega, by omega⟩ ⟨t22, k23, hR24, (by rw [show t7 16 4 = t7 16 4 from rfl]; exact h425), ⟨by omega, by omega⟩, trivial, hr28⟩ (lv_sub hl [1, 2, 0] rfl) (Nat.lt_succ_self _)
  ·
    have r1130 : R (0) (0) v8 := ⟨by omega, by omega⟩
    have p1131 := q14.1 (by omega)
    obtain ⟨q1132, e1133, h1134, h1135⟩ := p1131
    refine r_iconst S dX6_readAll_8 (by decide) (fun v1136 z1137 => ?_)
    have r1138 := R_eq z1137
    exact r_ret S hr hlk X6 ⟨q9, F15, q11, (R_of r1138 rfl), (fun h => by exfalso; omega), (QS_l (by omega) e1133 h1134 h1135)⟩ (nr_bool (R_of (lo := 0) (hi := 1) r1138 rfl)) dX6_readAll_9
def po_X6_readCond_q2 (τ : Tau)  (a0 : Int32)  (bb : Nat → Int) (nb : Nat) (an mn : List (List Int)) (t : Tk) (k : Nat) (sg : List Bool) (r : Int32) (u : Tau) : Prop := Inv u ∧ Fr [(16, 1), (16, 2), (17, 4), (1, 3), (1, 4), (1, 5), (1, 7), (1, 8), (16, 4)] [18, 19, 20, 201] τ u ∧ YT u ∧ R (0) (1) r ∧ (r.toInt = 1 → R (0) (0) (u 16 1)) ∧ QS bb nb 200 an mn t k sg sg r u (fun t => ¬ isW bb 14 t ∧ ¬ isW bb 13 t)
set_option maxHeartbeats 4000000 in
set_option maxRecDepth 100000 in
theorem c_X6_readCond_q2 (l : Launch) (G : Gx) (τ : Tau) (hI : Inv τ) (a0 : Int32) (h_a0 : R (2) (2) a0) (hf_0 : R (1) (1) (τ 16 5)) (hf_1 : R (0) (0) (τ 16 1)) (hYT : YT τ) (bb : Nat → Int) (nb : Nat) (an mn : List (List Int)) (t : Tk) (k : Nat) (sg : List Bool) (hR : RG bb nb 200 an mn τ t) (hon : (τ 16 4).toInt = k) (hs : sg.length + 1 = 2) (hd : dropN sg = sg) : Ci l G yX6_readCond cX6_readCond 3 (some .boolean) 26 567 [.ref (G.2.2.2.1 16), .int a0] τ (po_X6_readCond_q2 τ  a0  bb nb an mn t k sg) := by
  unfold Ci
  refine C_of (own := RX6) (by decide) rfl (Nat.le_of_ble_eq_true rfl) ?_
  intro p e s m below meth c ls S hr hlk X hl
  have hl : lv_has ls 3 [(0, .ref (G.2.2.2.1 16)), (1, .int a0)] := hl
  obtain ⟨v1, z2⟩ : ∃ x, τ 16 5 = x := ⟨_, rfl⟩
  rw [z2] at hf_0
  obtain ⟨v3, z4⟩ : ∃ x, τ 16 1 = x := ⟨_, rfl⟩
  rw [z4] at hf_1
  refine r_aload_n S dX6_readCond_0 rfl (lv_at hl 0 rfl) ?_
  refine r_iload_n S dX6_readCond_1 rfl (lv_at hl 1 rfl) ?_
  refine r_ki (q_V (As := [.int a0]) (rest := []) (K := 16) (ci := 6) S X (c_X6_readAll_q2 l G τ hI a0 h_a0 (by rw [z2]; exact R_of hf_0 rfl) (by rw [z4]; exact R_of hf_1 rfl) hYT bb nb an mn t k sg hR hon hs hd) ck6_51 (Nat.le_of_ble_eq_true rfl) rfl (fun _ => ⟨_, rfl⟩) ⟨_, _, rfl⟩ ⟨Nat.le_of_ble_eq_true rfl, Nat.le_of_ble_eq_true rfl⟩ rfl hl.1 rfl (Nat.le_of_ble_eq_true rfl) dX6_readCond_2 ⟨Nat.le_refl 0, Nat.le_refl 0⟩) X (fun v8 t7 H lc q5 X6 => ?_)
  unfold po_X6_readAll_q2 at q5
  obtain ⟨q9, q10, q11, q12, q13, q14⟩ := q5
  have F15 : Fr [(16, 1), (16, 2), (17, 4), (1, 3), (1, 4), (1, 5), (1, 7), (1, 8), (16, 4)] [18, 19, 20, 201] τ t7 := Fr_call Fr_rfl q10 (by decide)
  refine r_if_ne (tgt := 10) S dX6_readCond_5 (by decide) (fun c16 => ?_) (fun c16 => ?_)
  ·
    have r17 : R (1) (1) v8 := ⟨by omega, by omega⟩
    have p18 := q13 (by omega)
    obtain ⟨v19, z20⟩ : ∃ x, t7 16 1 = x := ⟨_, rfl⟩
    rw [z20] at p18
    have p21 := q14.2 (by omega)
    obtain ⟨t22, k23, hR24, h425, hk26, hP27, hr28⟩ := p21
    refine r_iconst S dX6_readCond_10 (by decide) (fun v29 z30 => ?_)
    have r31 := R_eq z30
    refine r_istore_n (lv' := [(2, .int v29), (0, .ref (G.2.2.2.1 16)), (1, .int a0)]) S dX6_readCond_11 rfl hl (by decide) rfl (fun ls hl => ?_)
    have L1036 : ∀ (n : Nat) (t1027 : Tau) (H : Heap) (lc : List Loc) (ls : Array Slot) (i1025 : Int32) (f1033 : Int32), Xd G s H lc t1027 → Inv t1027 → Fr [(16, 1), (16, 2), (17, 4), (1, 3), (1, 4), (1, 5), (1, 7), (1, 8), (16, 4)] [18, 19, 20, 201] τ t1027 → YT t1027 → R (0) (24) i1025 → t1027 16 5 = v1 → t1027 16 1 = f1033 → R (0) (0) f1033 → (∃ (tc : Tk) (kc : Nat), RG bb nb 200 an mn t1027 tc ∧ (t1027 16 4).toInt = kc ∧ ((i1025).toInt + 1 + k ≤ kc ∧ kc ≤ 20) ∧ ¬ isW bb 14 tc ∧ Rch bb nb 200 an mn (false, t, k, sg) (true, tc, kc, sg)) → lv_has ls 3 [(0, .ref (G.2.2.2.1 16)), (1, .int a0), (2, .int i1025)] → (24 - i1025.toInt).toNat < n → W p l e (Rm 26 567) s m ([.ref (G.2.2.2.1 16), .int a0] : List Value).toArray below meth c H lc 0 0 (MQ below (va_Qi (po_X6_readCond_q2 τ  a0  bb nb an mn t k sg) (Bs G) G.2.2.2.2) ([.ref (G.2.2.2.1 16), .int a0] : List Value).toArray s 0 0 G.2.2.2.2) (F0 m 12 ls []) := by
      intro n
      induction n with
      | zero => intros; omega
      | succ n ih1038 =>
        intro t1027 H lc ls i1025 f1033 X1031 I1028 F1029 hYT1030 r1026 z1032 z1035 r1034 x1037 hl hm
        obtain ⟨tc1039, kc1040, hR1041, h41042, hk1043, hP1044, hr1045⟩ := x1037
        refine r_iload_n S dX6_readCond_12 rfl (lv_at hl 2 rfl) ?_
        refine r_bipush S dX6_readCond_13 (by decide) (fun v1046 z1047 => ?_)
        have r1048 := R_eq z1047
        refine r_icmp_gt (tgt := 66) S dX6_readCond_15 (by decide) (fun c1049 => ?_) (fun c1049 => ?_)
        ·
          have r1050 : R (21) (24) i1025 := ⟨by omega, by omega⟩
          refine r_iconst S dX6_readCond_66 (by decide) (fun v1051 z1052 => ?_)
          have r1053 := R_eq z1052
          exact r_ret S hr hlk X1031 ⟨I1028, F1029, hYT1030, (R_of r1053 rfl), (fun h => (by rw [z1035]; exact R_of r1034 rfl)), (by exfalso; omega)⟩ (nr_bool (R_of (lo := 0) (hi := 1) r1053 rfl)) dX6_readCond_67
        ·
          have r1054 : R (0) (20) i1025 := ⟨by omega, by omega⟩
          refine r_aload_n S dX6_readCond_18 rfl (lv_at hl 0 rfl) ?_
          refine r_get (K := 16) (v := .ref (G.2.2.2.1 1)) S X1031 (Nat.le_of_ble_eq_true rfl) rfl lk6_39_6 (fun _ => ⟨_, rfl, rfl⟩) dX6_readCond_19 ?_
          refine r_wst (i := 13) S X1031 (by decide) kw82 dX6_readCond_22 ?_
          refine r_ki (q_V (As := [.ref (G.2.2.1 13)]) (rest := []) (K := 1) (ci := 7) S X1031 (c_X7_is_q l G t1027 I1028 13 (by decide) bb nb 200 tc1039 hR1041.1) ck6_60 (Nat.le_of_ble_eq_true rfl) rfl (fun _ => ⟨_, rfl⟩) ⟨_, _, rfl⟩ ⟨Nat.le_of_ble_eq_true rfl, Nat.le_of_ble_eq_true rfl⟩ rfl hl.1 rfl (Nat.le_of_ble_eq_true rfl) dX6_readCond_25 ⟨Nat.le_refl 0, Nat.le_refl 0⟩) X1031 (fun v1058 t1057 H lc q1055 X1056 => ?_)
          unfold po_X7_is_q at q1055
          obtain ⟨q1059, q1060, q1061⟩ := q1055
          rw [q1059] at X1056
          refine r_if_eq (tgt := 66) S dX6_readCond_28 (by decide) (fun c1062 => ?_) (fun c1062 => ?_)
          ·
            have r1063 : R (0) (0) v1058 := ⟨by omega, by omega⟩
            have p1064 := (iff_n q1061) (by omega)
            refine r_iconst S dX6_readCond_66 (by decide) (fun v1065 z1066 => ?_)
            have r1067 := R_eq z1066
            exact r_ret S hr hlk X1056 ⟨I1028, F1029, hYT1030, (R_of r1067 rfl), (fun h => (by rw [z1035]; exact R_of r1034 rfl)), (QS_r (by omega) hR1041 (by rw [show t1027 16 4 = t1027 16 4 from rfl]; exact h41042) ⟨by omega, by omega⟩ ⟨hP1044, p1064⟩ hr1045)⟩ (nr_bool (R_of (lo := 0) (hi := 1) r1067 rfl)) dX6_readCond_67
          ·
            have r1068 : R (1) (1) v1058 := ⟨by omega, by omega⟩
            have p1069 := (q1061).mp (by omega)
            refine r_aload_n S dX6_readCond_31 rfl (lv_at hl 0 rfl) ?_
            refine r_get (K := 16) (v := .ref (G.2.2.2.1 1)) S X1056 (Nat.le_of_ble_eq_true rfl) rfl lk6_39_6 (fun _ => ⟨_, rfl, rfl⟩) dX6_readCond_32 ?_
            refine r_kv (q_V (As := []) (rest := []) (K := 1) (ci := 7) S X1056 (c_X7_step_q l G t1027 I1028 bb nb 200 tc1039.2.2 (RT_st hR1041.1 (Or.inl p1069.1)).1 (RT_st hR1041.1 (Or.inl p1069.1)).2.1 (RT_st hR1041.1 (Or.inl p1069.1)).2.2) ck6_64 (Nat.le_of_ble_eq_true rfl) rfl (fun _ => ⟨_, rfl⟩) ⟨_, _, rfl⟩ ⟨Nat.le_of_ble_eq_true rfl, Nat.le_of_ble_eq_true rfl⟩ rfl hl.1 rfl (Nat.le_of_ble_eq_true rfl) dX6_readCond_35 ⟨Nat.le_refl 0, Nat.le_refl 0⟩) X1056 (fun t1072 H lc q1070 X1071 => ?_)
            unfold po_X7_step_q at q1070
            obtain ⟨q1073, q1074, q1075⟩ := q1070
            have F1076 : Fr [(16, 1), (16, 2), (17, 4), (1, 3), (1, 4), (1, 5), (1, 7), (1, 8), (16, 4)] [18, 19, 20, 201] τ t1072 := Fr_call F1029 q1074 (by decide)
            have hR1077 : RG bb nb 200 an mn t1072 (nx bb nb 200 tc1039) := ⟨q1075, NM2_fr hR1041.2 ((q1074 23 2 (by decide)).trans rfl) ((q1074 23 3 (by decide)).trans rfl) (fun j => ((q1074 228 j (by simp [fz])).trans rfl)) (fun j => ((q1074 229 j (by simp [fz])).trans rfl))⟩
            refine r_aload_n S dX6_readCond_38 rfl (lv_at hl 0 rfl) ?_
            refine r_iload_n S dX6_readCond_39 rfl (lv_at hl 1 rfl) ?_
            refine r_ki (q_V (As := [.int a0]) (rest := []) (K := 16) (ci := 6) S X1071 (c_X6_readAll_q2 l G t1072 q1073 a0 h_a0 (by rw [((q1074 16 5 (by decide)).trans z1032)]; exact R_of hf_0 rfl) (by rw [((q1074 16 1 (by decide)).trans z1035)]; exact R_of r1034 rfl) (YT_eq hYT1030 (fun j => ((q1074 18 j (by simp [fz])).trans rfl)) (fun j => ((q1074 19 j (by simp [fz])).trans rfl))) bb nb an mn (nx bb nb 200 tc1039) kc1040 sg hR1077 (by rw [show t1072 16 4 = t1027 16 4 from ((q1074 16 4 (by decide)).trans rfl)]; exact h41042) hs hd) ck6_51 (Nat.le_of_ble_eq_true rfl) rfl (fun _ => ⟨_, rfl⟩) ⟨_, _, rfl⟩ ⟨Nat.le_of_ble_eq_true rfl, Nat.le_of_ble_eq_true rfl⟩ rfl hl.1 rfl (Nat.le_of_ble_eq_true rfl) dX6_readCond_40 ⟨Nat.le_refl 0, Nat.le_refl 0⟩) X1071 (fun v1081 t1080 H lc q1078 X1079 => ?_)
            unfold po_X6_readAll_q2 at q1078
            obtain ⟨q1082, q1083, q1084, q1085, q1086, q1087⟩ := q1078
            have F1088 : Fr [(16, 1), (16, 2), (17, 4), (1, 3), (1, 4), (1, 5), (1, 7), (1, 8), (16, 4)] [18, 19, 20, 201] τ t1080 := Fr_call F1076 q1083 (by decide)
            refine r_if_ne (tgt := 48) S dX6_readCond_43 (by decide) (fun c1089 => ?_) (fun c1089 => ?_)
            ·
              have r1090 : R (1) (1) v1081 := ⟨by omega, by omega⟩
              have p1091 := q1086 (by omega)
              obtain ⟨v1092, z1093⟩ : ∃ x, t1080 16 1 = x := ⟨_, rfl⟩
              rw [z1093] at p1091
              have p1094 := q1087.2 (by omega)
              obtain ⟨t1095, k1096, hR1097, h41098, hk1099, hP1100, hr1101⟩ := p1094
              refine r_aload_n S dX6_readCond_48 rfl (lv_at hl 0 rfl) ?_
              refine r_get (K := 16) (v := .ref (G.2.2.2.1 17)) S X1079 (Nat.le_of_ble_eq_true rfl) rfl lk6_14_6 (fun _ => ⟨_, rfl, rfl⟩) dX6_readCond_49 ?_
              refine r_wst (i := 13) S X1079 (by decide) kw82 dX6_readCond_52 ?_
              refine r_iconst S dX6_readCond_55 (by decide) (fun v1102 z1103 => ?_)
              have r1104 := R_eq z1103
              refine r_iconst S dX6_readCond_56 (by decide) (fun v1105 z1106 => ?_)
              have r1107 := R_eq z1106
              refine r_kv (q_V (As := [.ref (G.2.2.1 13), .int v1102, .int v1105]) (rest := []) (K := 17) (ci := 5) S X1079 (c_X5_add l G t1080 q1082 13 (by decide) v1102 v1105 (R_of (lo := -2147483648) (hi := 2147483647) r1104 rfl) (R_of (lo := 0) (hi := 99) r1107 rfl) q1084 (by omega)) ck6_67 (Nat.le_of_ble_eq_true rfl) rfl (fun _ => ⟨_, rfl⟩) ⟨_, _, rfl⟩ ⟨Nat.le_of_ble_eq_true rfl, Nat.le_of_ble_eq_true rfl⟩ rfl hl.1 rfl (Nat.le_of_ble_eq_true rfl) dX6_readCond_57 ⟨Nat.le_refl 0, Nat.le_refl 0⟩) X1079 (fun t1110 H lc q1108 X1109 => ?_)
              unfold po_X5_add at q1108
              obtain ⟨q1111, q1112, q1113⟩ := q1108
              have F1114 : Fr [(16, 1), (16, 2), (17, 4), (1, 3), (1, 4), (1, 5), (1, 7), (1, 8), (16, 4)] [18, 19, 20, 201] τ t1110 := Fr_call F1088 q1112 (by decide)
              refine r_iinc (k := 2) S dX6_readCond_60 hl rfl (by decide) (by decide) (fun v1115 d1116 ls z1117 z1118 hl => ?_)
              obtain ⟨e1119, r1120⟩ := i_add (lo := 1) (hi := 21) z1117 r1054 (R_eq z1118) rfl
              have hl : lv_has ls 3 [(2, .int v1115), (0, .ref (G.2.2.2.1 16)), (1, .int a0)] := hl
              refine r_goto (tgt := 12) S dX6_readCond_63 (by decide) ?_
              exact ih1038 t1110 _ _ _ v1115 v1092 X1109 q1111 F1114 q1113 (R_of r1120 rfl) ((q1112 16 5 (by decide)).trans ((q1083 16 5 (by decide)).trans ((q1074 16 5 (by decide)).trans z1032))) ((q1112 16 1 (by decide)).trans z1093) ⟨by omega, by omega⟩ ⟨t1095, k1096, (RG_fr hR1097 (fun j => ((q1112 1 j (by simp [fz])).trans rfl)) (fun j => ((q1112 2 j (by simp [fz])).trans rfl)) (fun j => ((q1112 201 j (by simp [fz])).trans rfl)) ((q1112 23 2 (by decide)).trans rfl) ((q1112 23 3 (by decide)).trans rfl) (fun j => ((q1112 228 j (by simp [fz])).trans rfl)) (fun j => ((q1112 229 j (by simp [fz])).trans rfl))), (by rw [show t1110 16 4 = t1080 16 4 from ((q1112 16 4 (by decide)).trans rfl)]; exact h41098), ⟨by omega, by omega⟩, hP1100, (Rch_tr (Rch_1 hr1045 (stS_W (stW_a (Or.inr p1069)))) hr1101)⟩ (lv_sub hl [1, 2, 0] rfl) (by omega)
            ·
              have r1121 : R (0) (0) v1081 := ⟨by omega, by omega⟩
              have p1122 := q1087.1 (by omega)
              obtain ⟨q1123, e1124, h1125, h1126⟩ := p1122
              refine r_iconst S dX6_readCond_46 (by decide) (fun v1127 z1128 => ?_)
              have r1129 := R_eq z1128
              exact r_ret S hr hlk X1079 ⟨q1082, F1088, q1084, (R_of r1129 rfl), (fun h => by exfalso; omega), (QS_l (by omega) (Hlt_tr (Rch_1 hr1045 (stS_W (stW_a (Or.inr p1069)))) e1124) h1125 h1126)⟩ (nr_bool (R_of (lo := 0) (hi := 1) r1129 rfl)) dX6_readCond_47
    exact L1036 _ t7 _ _ _ v29 v19 X6 q9 F15 q11 (R_of r31 rfl) ((q10 16 5 (by decide)).trans z2) z20 ⟨by omega, by omega⟩ ⟨t22, k23, hR24, (by rw [show t7 16 4 = t7 16 4 from rfl]; exact h425), ⟨by omega, by omega⟩, hP27, hr28⟩ (lv_sub hl [1, 2, 0] rfl) (Nat.lt_succ_self _)
  ·
    have r1130 : R (0) (0) v8 := ⟨by omega, by omega⟩
    have p1131 := q14.1 (by omega)
    obtain ⟨q1132, e1133, h1134, h1135⟩ := p1131
    refine r_iconst S dX6_readCond_8 (by decide) (fun v1136 z1137 => ?_)
    have r1138 := R_eq z1137
    exact r_ret S hr hlk X6 ⟨q9, F15, q11, (R_of r1138 rfl), (fun h => by exfalso; omega), (QS_l (by omega) e1133 h1134 h1135)⟩ (nr_bool (R_of (lo := 0) (hi := 1) r1138 rfl)) dX6_readCond_9
def po_X6_readOne_q1 (τ : Tau)  (a0 : Int32)  (bb : Nat → Int) (nb : Nat) (an mn : List (List Int)) (t : Tk) (k : Nat) (sg : List Bool) (r : Int32) (u : Tau) : Prop := Inv u ∧ Fr [(16, 1), (16, 2), (17, 4), (1, 3), (1, 4), (1, 5), (1, 7), (1, 8), (16, 4)] [18, 19, 20, 201] τ u ∧ YT u ∧ R (0) (1) r ∧ (r.toInt = 1 → R (0) (0) (u 16 1)) ∧ QS bb nb 200 an mn t k sg (dropN sg) r u (fun t => True)
set_option maxHeartbeats 4000000 in
set_option maxRecDepth 100000 in
theorem c_X6_readOne_q1 (l : Launch) (G : Gx) (τ : Tau) (hI : Inv τ) (a0 : Int32) (h_a0 : R (1) (1) a0) (hf_0 : R (1) (1) (τ 16 5)) (hf_1 : R (0) (0) (τ 16 1)) (hYT : YT τ) (bb : Nat → Int) (nb : Nat) (an mn : List (List Int)) (t : Tk) (k : Nat) (sg : List Bool) (hR : RG bb nb 200 an mn τ t) (hon : (τ 16 4).toInt = k) (hs : sg.length + 1 = 1) : Ci l G yX6_readOne cX6_readOne 3 (some .boolean) 27 589 [.ref (G.2.2.2.1 16), .int a0] τ (po_X6_readOne_q1 τ  a0  bb nb an mn t k sg) := by
  unfold Ci
  refine C_of (own := RX6) (by decide) rfl (Nat.le_of_ble_eq_true rfl) ?_
  intro p e s m below meth c ls S hr hlk X hl
  have hl : lv_has ls 3 [(0, .ref (G.2.2.2.1 16)), (1, .int a0)] := hl
  obtain ⟨v1, z2⟩ : ∃ x, τ 16 5 = x := ⟨_, rfl⟩
  rw [z2] at hf_0
  obtain ⟨v3, z4⟩ : ∃ x, τ 16 1 = x := ⟨_, rfl⟩
  rw [z4] at hf_1
  refine r_aload_n S dX6_readOne_0 rfl (lv_at hl 0 rfl) ?_
  refine r_kw2 (q_V (As := []) (rest := []) (K := 16) (ci := 6) S X (c_X6_firstWord_q l G τ hI bb nb an mn t hR) ck6_77 (Nat.le_of_ble_eq_true rfl) rfl (fun _ => ⟨_, rfl⟩) ⟨_, _, rfl⟩ ⟨Nat.le_of_ble_eq_true rfl, Nat.le_of_ble_eq_true rfl⟩ rfl hl.1 rfl (Nat.le_of_ble_eq_true rfl) dX6_readOne_1 ⟨Nat.le_refl 0, Nat.le_refl 0⟩) X (fun _ _ h => h.2.1) (fun y8 t7 H lc q5 X6 h9 => ?_) (fun y8 t7 H lc w10 q5 X6 h_w10 e11 => ?_)
  ·
    unfold po_X6_firstWord_q at q5
    obtain ⟨q12, q13, q14⟩ := q5
    rw [q12] at X6
    refine lv_astore_nN (lv' := [(2, .null), (0, .ref (G.2.2.2.1 16)), (1, .int a0)]) S.1.1 S.1.2.1 dX6_readOne_4 rfl hl (by decide) rfl (fun ls hl => ?_)
    refine lv_aload_nN S.1.1 S.1.2.1 dX6_readOne_5 rfl (lv_at hl 0 rfl) ?_
    refine lv_ifnonnullN S.1.1 S.1.2.1 dX6_readOne_6 ?_
    refine r_aload_n S dX6_readOne_9 rfl (lv_at hl 1 rfl) ?_
    refine r_get (K := 16) (v := .ref (G.2.2.2.1 1)) S X6 (Nat.le_of_ble_eq_true rfl) rfl lk6_39_6 (fun _ => ⟨_, rfl, rfl⟩) dX6_readOne_10 ?_
    refine r_bipush S dX6_readOne_13 (by decide) (fun v15 z16 => ?_)
    have r17 := R_eq z16
    refine r_ki (q_V (As := [.int v15]) (rest := []) (K := 1) (ci := 7) S X6 (c_X7_isSigned_q l G τ hI v15 (R_of (lo := 0) (hi := 65535) r17 rfl) bb nb 200 t hR.1) ck6_81 (Nat.le_of_ble_eq_true rfl) rfl (fun _ => ⟨_, rfl⟩) ⟨_, _, rfl⟩ ⟨Nat.le_of_ble_eq_true rfl, Nat.le_of_ble_eq_true rfl⟩ rfl hl.1 rfl (Nat.le_of_ble_eq_true rfl) dX6_readOne_15 ⟨Nat.le_refl 0, Nat.le_refl 0⟩) X6 (fun v21 t20 H lc q18 X19 => ?_)
    unfold po_X7_isSigned_q at q18
    obtain ⟨q22, q23, q24⟩ := q18
    rw [q22] at X19
    refine r_if_ne (tgt := 27) S dX6_readOne_18 (by decide) (fun c25 => ?_) (fun c25 => ?_)
    ·
      have r26 : R (1) (1) v21 := ⟨by omega, by omega⟩
      have p27 := (q24).mp (by omega)
      refine r_aload_n S dX6_readOne_27 rfl (lv_at hl 1 rfl) ?_
      refine r_getn (K := 16) S X19 (Nat.le_of_ble_eq_true rfl) rfl lk6_28_6 (fun _ => ⟨_, rfl, rfl⟩) dX6_readOne_28 (fun v28 z29 => ?_)
      have r30 : R (0) (20) v28 := rd hI rfl z29
      have e31 : v28.toInt = (k : Int) := by rw [← z29]; exact hon
      refine r_bipush S dX6_readOne_31 (by decide) (fun v32 z33 => ?_)
      have r34 := R_eq z33
      refine r_icmp_ge (tgt := 42) S dX6_readOne_33 (by decide) (fun c35 => ?_) (fun c35 => ?_)
      ·
        have r36 : R (20) (20) v28 := ⟨by omega, by omega⟩
        refine r_aload_n S dX6_readOne_42 rfl (lv_at hl 1 rfl) ?_
        refine r_iconst S dX6_readOne_43 (by decide) (fun v37 z38 => ?_)
        have r39 := R_eq z38
        refine r_ki (q_U (As := [.int v37]) (rest := []) (K := 16) (ci := 6) S X19 (c_X8_fail_t16 l G τ hI v37 (R_of (lo := -2147483648) (hi := 2147483647) r39 rfl)) ck6_48_6 (Nat.le_of_ble_eq_true rfl) rfl (fun _ => ⟨_, rfl⟩) ⟨_, _, rfl⟩ ⟨Nat.le_of_ble_eq_true rfl, Nat.le_of_ble_eq_true rfl⟩ rfl hl.1 rfl (Nat.le_of_ble_eq_true rfl) dX6_readOne_44 ⟨Nat.le_refl 0, Nat.le_refl 0⟩) X19 (fun v43 t42 H lc q40 X41 => ?_)
        unfold po_X8_fail_t16 at q40
        obtain ⟨q44, q45, q46, q47⟩ := q40
        have F48 : Fr [(16, 1), (16, 2), (17, 4), (1, 3), (1, 4), (1, 5), (1, 7), (1, 8), (16, 4)] [18, 19, 20, 201] τ t42 := Fr_call Fr_rfl q45 (by decide)
        exact r_ret S hr hlk X41 ⟨q44, F48, (YT_eq hYT (fun j => ((q45 18 j (by simp [fz])).trans rfl)) (fun j => ((q45 19 j (by simp [fz])).trans rfl))), (R_of q46 rfl), (fun h => by exfalso; omega), (QS_l (by omega) (Hlt_1 Rch_0 (stS_O (stO_4 (Or.inr (Or.inl ⟨p27.1, by have q := p27.2; omega⟩)) (by omega)))) (by rw [q47]; show _ = ((4 : Nat) : Int); omega) (RG_at (RG_fr hR (fun j => ((q45 1 j (by simp [fz])).trans rfl)) (fun j => ((q45 2 j (by simp [fz])).trans rfl)) (fun j => ((q45 201 j (by simp [fz])).trans rfl)) ((q45 23 2 (by decide)).trans rfl) ((q45 23 3 (by decide)).trans rfl) (fun j => ((q45 228 j (by simp [fz])).trans rfl)) (fun j => ((q45 229 j (by simp [fz])).trans rfl)))))⟩ (nr_bool (R_of (lo := 0) (hi := 1) q46 rfl)) dX6_readOne_47
      ·
        have r49 : R (0) (19) v28 := ⟨by omega, by omega⟩
        refine r_iload_n S dX6_readOne_36 rfl (lv_at hl 2 rfl) ?_
        refine r_bipush S dX6_readOne_37 (by decide) (fun v50 z51 => ?_)
        have r52 := R_eq z51
        refine r_icmp_le (tgt := 48) S dX6_readOne_39 (by decide) (fun c53 => ?_) (fun c53 => ?_)
        ·
          refine r_aload_n S dX6_readOne_48 rfl (lv_at hl 1 rfl) ?_
          refine r_dup S dX6_readOne_49 rfl ?_
          refine r_geti (K := 16) S X19 (Nat.le_of_ble_eq_true rfl) rfl lk6_28_6 (fun _ => ⟨_, rfl, rfl⟩) z29 dX6_readOne_50 ?_
          refine r_iconst S dX6_readOne_53 (by decide) (fun v54 z55 => ?_)
          have r56 := R_eq z55
          refine r_iadd S dX6_readOne_54 (fun v57 z58 => ?_)
          obtain ⟨e59, r60⟩ := i_add (lo := 1) (hi := 20) z58 r49 r56 rfl
          refine r_put (K := 16) (ty := .int) S X19 (Nat.le_of_ble_eq_true rfl) rfl lk6_28_6 (fun _ => ⟨_, rfl, Nat.le_of_ble_eq_true rfl, rfl⟩) (fun _ _ _ h => by cases h; exact ⟨rfl, rfl⟩) rfl rfl dX6_readOne_55 (fun t61 H lc M62 X63 => ?_)
          have I64 := Inv_mu hI M62 (show Rg (kd 16) 4 v57 from (R_of (lo := 0) (hi := 20) r60 rfl))
          have F65 : Fr [(16, 1), (16, 2), (17, 4), (1, 3), (1, 4), (1, 5), (1, 7), (1, 8), (16, 4)] [18, 19, 20, 201] τ t61 := Fr_mu Fr_rfl M62 (by decide)
          refine r_aload_n S dX6_readOne_58 rfl (lv_at hl 1 rfl) ?_
          refine r_get (K := 16) (v := .ref (G.2.2.2.1 1)) S X63 (Nat.le_of_ble_eq_true rfl) rfl lk6_39_6 (fun _ => ⟨_, rfl, rfl⟩) dX6_readOne_59 ?_
          refine r_kv (q_V (As := []) (rest := []) (K := 1) (ci := 7) S X63 (c_X7_step_q l G t61 I64 bb nb 200 t.2.2 (RT_st (RG_fr hR (fun j => ((M62.2 1 j (Or.inl (by decide))).trans rfl)) (fun j => ((M62.2 2 j (Or.inl (by decide))).trans rfl)) (fun j => ((M62.2 201 j (Or.inl (by decide))).trans rfl)) ((M62.2 23 2 (Or.inl (by decide))).trans rfl) ((M62.2 23 3 (Or.inl (by decide))).trans rfl) (fun j => ((M62.2 228 j (Or.inl (by decide))).trans rfl)) (fun j => ((M62.2 229 j (Or.inl (by decide))).trans rfl))).1 (Or.inr (Or.inr p27.1))).1 (RT_st (RG_fr hR (fun j => ((M62.2 1 j (Or.inl (by decide))).trans rfl)) (fun j => ((M62.2 2 j (Or.inl (by decide))).trans rfl)) (fun j => ((M62.2 201 j (Or.inl (by decide))).trans rfl)) ((M62.2 23 2 (Or.inl (by decide))).trans rfl) ((M62.2 23 3 (Or.inl (by decide))).trans rfl) (fun j => ((M62.2 228 j (Or.inl (by decide))).trans rfl)) (fun j => ((M62.2 229 j (Or.inl (by decide))).trans rfl))).1 (Or.inr (Or.inr p27.1))).2.1 (RT_st (RG_fr hR (fun j => ((M62.2 1 j (Or.inl (by decide))).trans rfl)) (fun j => ((M62.2 2 j (Or.inl (by decide))).trans rfl)) (fun j => ((M62.2 201 j (Or.inl (by decide))).trans rfl)) ((M62.2 23 2 (Or.inl (by decide))).trans rfl) ((M62.2 23 3 (Or.inl (by decide))).trans rfl) (fun j => ((M62.2 228 j (Or.inl (by decide))).trans rfl)) (fun j => ((M62.2 229 j (Or.inl (by decide))).trans rfl))).1 (Or.inr (Or.inr p27.1))).2.2) ck6_64 (Nat.le_of_ble_eq_true rfl) rfl (fun _ => ⟨_, rfl⟩) ⟨_, _, rfl⟩ ⟨Nat.le_of_ble_eq_true rfl, Nat.le_of_ble_eq_true rfl⟩ rfl hl.1 rfl (Nat.le_of_ble_eq_true rfl) dX6_readOne_62 ⟨Nat.le_refl 0, Nat.le_refl 0⟩) X63 (fun t68 H lc q66 X67 => ?_)
          unfold po_X7_step_q at q66
          obtain ⟨q69, q70, q71⟩ := q66
          have F72 : Fr [(16, 1), (16, 2), (17, 4), (1, 3), (1, 4), (1, 5), (1, 7), (1, 8), (16, 4)] [18, 19, 20, 201] τ t68 := Fr_call F65 q70 (by decide)
          have hR73 : RG bb nb 200 an mn t68 (nx bb nb 200 t) := ⟨q71, NM2_fr hR.2 ((q70 23 2 (by decide)).trans ((M62.2 23 2 (Or.inl (by decide))).trans rfl)) ((q70 23 3 (by decide)).trans ((M62.2 23 3 (Or.inl (by decide))).trans rfl)) (fun j => ((q70 228 j (by simp [fz])).trans ((M62.2 228 j (Or.inl (by decide))).trans rfl))) (fun j => ((q70 229 j (by simp [fz])).trans ((M62.2 229 j (Or.inl (by decide))).trans rfl)))⟩
          refine lv_aload_nN S.1.1 S.1.2.1 dX6_readOne_65 rfl (lv_at hl 0 rfl) ?_
          refine lv_ifnonnullN S.1.1 S.1.2.1 dX6_readOne_66 ?_
          refine r_aload_n S dX6_readOne_69 rfl (lv_at hl 1 rfl) ?_
          refine r_iload_n S dX6_readOne_70 rfl (lv_at hl 2 rfl) ?_
          refine r_iconst S dX6_readOne_71 (by decide) (fun v74 z75 => ?_)
          have r76 := R_eq z75
          refine r_iadd S dX6_readOne_72 (fun v77 z78 => ?_)
          obtain ⟨e79, r80⟩ := i_add (lo := 2) (hi := 2) z78 h_a0 r76 rfl
          refine r_ki (q_V (As := [.int v77]) (rest := []) (K := 16) (ci := 6) S X67 (c_X6_readCond_q2 l G t68 q69 v77 r80 (by rw [((q70 16 5 (by decide)).trans ((M62.2 16 5 (Or.inr (by decide))).trans z2))]; exact R_of hf_0 rfl) (by rw [((q70 16 1 (by decide)).trans ((M62.2 16 1 (Or.inr (by decide))).trans z4))]; exact R_of hf_1 rfl) (YT_eq hYT (fun j => ((q70 18 j (by simp [fz])).trans ((M62.2 18 j (Or.inl (by decide))).trans rfl))) (fun j => ((q70 19 j (by simp [fz])).trans ((M62.2 19 j (Or.inl (by decide))).trans rfl)))) bb nb an mn (nx bb nb 200 t) (k + 1) (false :: sg) hR73 (by rw [((q70 16 4 (by decide)).trans M62.1)]; omega) (by rw [List.length_cons]; omega) rfl) ck6_35 (Nat.le_of_ble_eq_true rfl) rfl (fun _ => ⟨_, rfl⟩) ⟨_, _, rfl⟩ ⟨Nat.le_of_ble_eq_true rfl, Nat.le_of_ble_eq_true rfl⟩ rfl hl.1 rfl (Nat.le_of_ble_eq_true rfl) dX6_readOne_73 ⟨Nat.le_refl 0, Nat.le_refl 0⟩) X67 (fun v84 t83 H lc q81 X82 => ?_)
          unfold po_X6_readCond_q2 at q81
          obtain ⟨q85, q86, q87, q88, q89, q90⟩ := q81
          have F91 : Fr [(16, 1), (16, 2), (17, 4), (1, 3), (1, 4), (1, 5), (1, 7), (1, 8), (16, 4)] [18, 19, 20, 201] τ t83 := Fr_call F72 q86 (by decide)
          refine r_if_eq (tgt := 92) S dX6_readOne_76 (by decide) (fun c92 => ?_) (fun c92 => ?_)
          ·
            have r93 : R (0) (0) v84 := ⟨by omega, by omega⟩
            have p94 := q90.1 (by omega)
            obtain ⟨q95, e96, h97, h98⟩ := p94
            refine r_iconst S dX6_readOne_92 (by decide) (fun v99 z100 => ?_)
            have r101 := R_eq z100
            exact r_ret S hr hlk X82 ⟨q85, F91, q87, (R_of r101 rfl), (fun h => by exfalso; omega), (QS_l (by omega) (Hlt_tr (Rch_1 Rch_0 (stS_O (stO_o ⟨p27.1, by have q := p27.2; omega⟩ (fun h => by omega)))) e96) h97 h98)⟩ (nr_bool (R_of (lo := 0) (hi := 1) r101 rfl)) dX6_readOne_93
          ·
            have r102 : R (1) (1) v84 := ⟨by omega, by omega⟩
            have p103 := q89 (by omega)
            obtain ⟨v104, z105⟩ : ∃ x, t83 16 1 = x := ⟨_, rfl⟩
            rw [z105] at p103
            have p106 := q90.2 (by omega)
            obtain ⟨t107, k108, hR109, h4110, hk111, hP112, hr113⟩ := p106
            refine r_aload_n S dX6_readOne_79 rfl (lv_at hl 1 rfl) ?_
            refine r_bipush S dX6_readOne_80 (by decide) (fun v114 z115 => ?_)
            have r116 := R_eq z115
            refine r_ki (q_U (As := [.int v114]) (rest := []) (K := 16) (ci := 6) S X82 (c_X8_takeSign_t16 l G t83 q85 v114 r116 (by rw [z105]; exact R_of p103 rfl) bb nb an mn t107 hR109 ) ck6_85_6 (Nat.le_of_ble_eq_true rfl) rfl (fun _ => ⟨_, rfl⟩) ⟨_, _, rfl⟩ ⟨Nat.le_of_ble_eq_true rfl, Nat.le_of_ble_eq_true rfl⟩ rfl hl.1 rfl (Nat.le_of_ble_eq_true rfl) dX6_readOne_82 ⟨Nat.le_refl 0, Nat.le_refl 0⟩) X82 (fun v120 t119 H lc q117 X118 => ?_)
            unfold po_X8_takeSign_t16 at q117
            obtain ⟨q121, q122, q123, q124, q125⟩ := q117
            have F126 : Fr [(16, 1), (16, 2), (17, 4), (1, 3), (1, 4), (1, 5), (1, 7), (1, 8), (16, 4)] [18, 19, 20, 201] τ t119 := Fr_call F91 q122 (by decide)
            refine r_if_eq (tgt := 92) S dX6_readOne_85 (by decide) (fun c127 => ?_) (fun c127 => ?_)
            ·
              have r128 : R (0) (0) v120 := ⟨by omega, by omega⟩
              have p129 := (QY_0 q125) (by omega)
              obtain ⟨q130, e131, h132, h133⟩ := p129
              refine r_iconst S dX6_readOne_92 (by decide) (fun v134 z135 => ?_)
              have r136 := R_eq z135
              exact r_ret S hr hlk X118 ⟨q121, F126, (YT_eq q87 (fun j => ((q122 18 j (by simp [fz])).trans rfl)) (fun j => ((q122 19 j (by simp [fz])).trans rfl))), (R_of r136 rfl), (fun h => by exfalso; omega), (QS_l (by omega) (Hlt_1 (Rch_tr (Rch_1 Rch_0 (stS_O (stO_o ⟨p27.1, by have q := p27.2; omega⟩ (fun h => by omega)))) hr113) (stS_W (stW_fg hP112.1 hP112.2 e131))) h132 h133)⟩ (nr_bool (R_of (lo := 0) (hi := 1) r136 rfl)) dX6_readOne_93
            ·
              have r137 : R (1) (1) v120 := ⟨by omega, by omega⟩
              have p138 := q124 (by omega)
              obtain ⟨v139, z140⟩ : ∃ x, t119 16 1 = x := ⟨_, rfl⟩
              rw [z140] at p138
              have p141 := (QY_1 q125) (by omega)
              obtain ⟨g142, e143, hP144⟩ := p141
              refine r_iconst S dX6_readOne_88 (by decide) (fun v145 z146 => ?_)
              have r147 := R_eq z146
              refine r_goto (tgt := 93) S dX6_readOne_89 (by decide) ?_
              exact r_ret S hr hlk X118 ⟨q121, F126, (YT_eq q87 (fun j => ((q122 18 j (by simp [fz])).trans rfl)) (fun j => ((q122 19 j (by simp [fz])).trans rfl))), (R_of r147 rfl), (fun h => (by rw [z140]; exact R_of p138 rfl)), (QS_r (by omega) hP144 (by rw [show t119 16 4 = t83 16 4 from ((q122 16 4 (by decide)).trans rfl)]; exact h4110) ⟨by omega, by omega⟩ trivial (Rch_1 (Rch_tr (Rch_1 Rch_0 (stS_O (stO_o ⟨p27.1, by have q := p27.2; omega⟩ (fun h => by omega)))) hr113) (stS_W (stW_cg e143))))⟩ (nr_bool (R_of (lo := 0) (hi := 1) r147 rfl)) dX6_readOne_93
        ·
          exfalso; omega
    ·
      have r148 : R (0) (0) v21 := ⟨by omega, by omega⟩
      have p149 := (iff_n q24) (by omega)
      refine r_aload_n S dX6_readOne_21 rfl (lv_at hl 1 rfl) ?_
      refine r_iconst S dX6_readOne_22 (by decide) (fun v150 z151 => ?_)
      have r152 := R_eq z151
      refine r_ki (q_U (As := [.int v150]) (rest := []) (K := 16) (ci := 6) S X19 (c_X8_fail_t16 l G τ hI v150 (R_of (lo := -2147483648) (hi := 2147483647) r152 rfl)) ck6_48_6 (Nat.le_of_ble_eq_true rfl) rfl (fun _ => ⟨_, rfl⟩) ⟨_, _, rfl⟩ ⟨Nat.le_of_ble_eq_true rfl, Nat.le_of_ble_eq_true rfl⟩ rfl hl.1 rfl (Nat.le_of_ble_eq_true rfl) dX6_readOne_23 ⟨Nat.le_refl 0, Nat.le_refl 0⟩) X19 (fun v156 t155 H lc q153 X154 => ?_)
      unfold po_X8_fail_t16 at q153
      obtain ⟨q157, q158, q159, q160⟩ := q153
      have F161 : Fr [(16, 1), (16, 2), (17, 4), (1, 3), (1, 4), (1, 5), (1, 7), (1, 8), (16, 4)] [18, 19, 20, 201] τ t155 := Fr_call Fr_rfl q158 (by decide)
      exact r_ret S hr hlk X154 ⟨q157, F161, (YT_eq hYT (fun j => ((q158 18 j (by simp [fz])).trans rfl)) (fun j => ((q158 19 j (by simp [fz])).trans rfl))), (R_of q159 rfl), (fun h => by exfalso; omega), (QS_l (by omega) (Hlt_1 Rch_0 (stS_O (stO_1 (fs_no q14 (by omega) (fun h => p149 ⟨h.1, by have q := h.2; omega⟩))))) (by rw [q160]; show _ = ((1 : Nat) : Int); omega) (RG_at (RG_fr hR (fun j => ((q158 1 j (by simp [fz])).trans rfl)) (fun j => ((q158 2 j (by simp [fz])).trans rfl)) (fun j => ((q158 201 j (by simp [fz])).trans rfl)) ((q158 23 2 (by decide)).trans rfl) ((q158 23 3 (by decide)).trans rfl) (fun j => ((q158 228 j (by simp [fz])).trans rfl)) (fun j => ((q158 229 j (by simp [fz])).trans rfl)))))⟩ (nr_bool (R_of (lo := 0) (hi := 1) q159 rfl)) dX6_readOne_26
  ·
    unfold po_X6_firstWord_q at q5
    obtain ⟨q162, q163, q164⟩ := q5
    rw [q162] at X6
    refine r_astore_n (lv' := [(2, .ref (G.2.2.1 w10)), (0, .ref (G.2.2.2.1 16)), (1, .int a0)]) S dX6_readOne_4 rfl hl (by decide) rfl (fun ls hl => ?_)
    refine r_aload_n S dX6_readOne_5 rfl (lv_at hl 0 rfl) ?_
    refine lv_ifnonnull (tgt := 27) S.1.1 S.1.2.1 dX6_readOne_6 (by decide) ?_
    refine r_aload_n S dX6_readOne_27 rfl (lv_at hl 1 rfl) ?_
    refine r_getn (K := 16) S X6 (Nat.le_of_ble_eq_true rfl) rfl lk6_28_6 (fun _ => ⟨_, rfl, rfl⟩) dX6_readOne_28 (fun v165 z166 => ?_)
    have r167 : R (0) (20) v165 := rd hI rfl z166
    have e168 : v165.toInt = (k : Int) := by rw [← z166]; exact hon
    refine r_bipush S dX6_readOne_31 (by decide) (fun v169 z170 => ?_)
    have r171 := R_eq z170
    refine r_icmp_ge (tgt := 42) S dX6_readOne_33 (by decide) (fun c172 => ?_) (fun c172 => ?_)
    ·
      have r173 : R (20) (20) v165 := ⟨by omega, by omega⟩
      refine r_aload_n S dX6_readOne_42 rfl (lv_at hl 1 rfl) ?_
      refine r_iconst S dX6_readOne_43 (by decide) (fun v174 z175 => ?_)
      have r176 := R_eq z175
      refine r_ki (q_U (As := [.int v174]) (rest := []) (K := 16) (ci := 6) S X6 (c_X8_fail_t16 l G τ hI v174 (R_of (lo := -2147483648) (hi := 2147483647) r176 rfl)) ck6_48_6 (Nat.le_of_ble_eq_true rfl) rfl (fun _ => ⟨_, rfl⟩) ⟨_, _, rfl⟩ ⟨Nat.le_of_ble_eq_true rfl, Nat.le_of_ble_eq_true rfl⟩ rfl hl.1 rfl (Nat.le_of_ble_eq_true rfl) dX6_readOne_44 ⟨Nat.le_refl 0, Nat.le_refl 0⟩) X6 (fun v180 t179 H lc q177 X178 => ?_)
      unfold po_X8_fail_t16 at q177
      obtain ⟨q181, q182, q183, q184⟩ := q177
      have F185 : Fr [(16, 1), (16, 2), (17, 4), (1, 3), (1, 4), (1, 5), (1, 7), (1, 8), (16, 4)] [18, 19, 20, 201] τ t179 := Fr_call Fr_rfl q182 (by decide)
      exact r_ret S hr hlk X178 ⟨q181, F185, (YT_eq hYT (fun j => ((q182 18 j (by simp [fz])).trans rfl)) (fun j => ((q182 19 j (by simp [fz])).trans rfl))), (R_of q183 rfl), (fun h => by exfalso; omega), (QS_l (by omega) (Hlt_1 Rch_0 (stS_O (stO_4 (fs_w (i := w10) q164 (by omega)) (by omega)))) (by rw [q184]; show _ = ((4 : Nat) : Int); omega) (RG_at (RG_fr hR (fun j => ((q182 1 j (by simp [fz])).trans rfl)) (fun j => ((q182 2 j (by simp [fz])).trans rfl)) (fun j => ((q182 201 j (by simp [fz])).trans rfl)) ((q182 23 2 (by decide)).trans rfl) ((q182 23 3 (by decide)).trans rfl) (fun j => ((q182 228 j (by simp [fz])).trans rfl)) (fun j => ((q182 229 j (by simp [fz])).trans rfl)))))⟩ (nr_bool (R_of (lo := 0) (hi := 1) q183 rfl)) dX6_readOne_47
    ·
      have r186 : R (0) (19) v165 := ⟨by omega, by omega⟩
      refine r_iload_n S dX6_readOne_36 rfl (lv_at hl 2 rfl) ?_
      refine r_bipush S dX6_readOne_37 (by decide) (fun v187 z188 => ?_)
      have r189 := R_eq z188
      refine r_icmp_le (tgt := 48) S dX6_readOne_39 (by decide) (fun c190 => ?_) (fun c190 => ?_)
      ·
        refine r_aload_n S dX6_readOne_48 rfl (lv_at hl 1 rfl) ?_
        refine r_dup S dX6_readOne_49 rfl ?_
        refine r_geti (K := 16) S X6 (Nat.le_of_ble_eq_true rfl) rfl lk6_28_6 (fun _ => ⟨_, rfl, rfl⟩) z166 dX6_readOne_50 ?_
        refine r_iconst S dX6_readOne_53 (by decide) (fun v191 z192 => ?_)
        have r193 := R_eq z192
        refine r_iadd S dX6_readOne_54 (fun v194 z195 => ?_)
        obtain ⟨e196, r197⟩ := i_add (lo := 1) (hi := 20) z195 r186 r193 rfl
        refine r_put (K := 16) (ty := .int) S X6 (Nat.le_of_ble_eq_true rfl) rfl lk6_28_6 (fun _ => ⟨_, rfl, Nat.le_of_ble_eq_true rfl, rfl⟩) (fun _ _ _ h => by cases h; exact ⟨rfl, rfl⟩) rfl rfl dX6_readOne_55 (fun t198 H lc M199 X200 => ?_)
        have I201 := Inv_mu hI M199 (show Rg (kd 16) 4 v194 from (R_of (lo := 0) (hi := 20) r197 rfl))
        have F202 : Fr [(16, 1), (16, 2), (17, 4), (1, 3), (1, 4), (1, 5), (1, 7), (1, 8), (16, 4)] [18, 19, 20, 201] τ t198 := Fr_mu Fr_rfl M199 (by decide)
        refine r_aload_n S dX6_readOne_58 rfl (lv_at hl 1 rfl) ?_
        refine r_get (K := 16) (v := .ref (G.2.2.2.1 1)) S X200 (Nat.le_of_ble_eq_true rfl) rfl lk6_39_6 (fun _ => ⟨_, rfl, rfl⟩) dX6_readOne_59 ?_
        refine r_kv (q_V (As := []) (rest := []) (K := 1) (ci := 7) S X200 (c_X7_step_q l G t198 I201 bb nb 200 t.2.2 (RT_st (RG_fr hR (fun j => ((M199.2 1 j (Or.inl (by decide))).trans rfl)) (fun j => ((M199.2 2 j (Or.inl (by decide))).trans rfl)) (fun j => ((M199.2 201 j (Or.inl (by decide))).trans rfl)) ((M199.2 23 2 (Or.inl (by decide))).trans rfl) ((M199.2 23 3 (Or.inl (by decide))).trans rfl) (fun j => ((M199.2 228 j (Or.inl (by decide))).trans rfl)) (fun j => ((M199.2 229 j (Or.inl (by decide))).trans rfl))).1 (Or.inl (q164.2 w10 (by omega)).1.1)).1 (RT_st (RG_fr hR (fun j => ((M199.2 1 j (Or.inl (by decide))).trans rfl)) (fun j => ((M199.2 2 j (Or.inl (by decide))).trans rfl)) (fun j => ((M199.2 201 j (Or.inl (by decide))).trans rfl)) ((M199.2 23 2 (Or.inl (by decide))).trans rfl) ((M199.2 23 3 (Or.inl (by decide))).trans rfl) (fun j => ((M199.2 228 j (Or.inl (by decide))).trans rfl)) (fun j => ((M199.2 229 j (Or.inl (by decide))).trans rfl))).1 (Or.inl (q164.2 w10 (by omega)).1.1)).2.1 (RT_st (RG_fr hR (fun j => ((M199.2 1 j (Or.inl (by decide))).trans rfl)) (fun j => ((M199.2 2 j (Or.inl (by decide))).trans rfl)) (fun j => ((M199.2 201 j (Or.inl (by decide))).trans rfl)) ((M199.2 23 2 (Or.inl (by decide))).trans rfl) ((M199.2 23 3 (Or.inl (by decide))).trans rfl) (fun j => ((M199.2 228 j (Or.inl (by decide))).trans rfl)) (fun j => ((M199.2 229 j (Or.inl (by decide))).trans rfl))).1 (Or.inl (q164.2 w10 (by omega)).1.1)).2.2) ck6_64 (Nat.le_of_ble_eq_true rfl) rfl (fun _ => ⟨_, rfl⟩) ⟨_, _, rfl⟩ ⟨Nat.le_of_ble_eq_true rfl, Nat.le_of_ble_eq_true rfl⟩ rfl hl.1 rfl (Nat.le_of_ble_eq_true rfl) dX6_readOne_62 ⟨Nat.le_refl 0, Nat.le_refl 0⟩) X200 (fun t205 H lc q203 X204 => ?_)
        unfold po_X7_step_q at q203
        obtain ⟨q206, q207, q208⟩ := q203
        have F209 : Fr [(16, 1), (16, 2), (17, 4), (1, 3), (1, 4), (1, 5), (1, 7), (1, 8), (16, 4)] [18, 19, 20, 201] τ t205 := Fr_call F202 q207 (by decide)
        have hR210 : RG bb nb 200 an mn t205 (nx bb nb 200 t) := ⟨q208, NM2_fr hR.2 ((q207 23 2 (by decide)).trans ((M199.2 23 2 (Or.inl (by decide))).trans rfl)) ((q207 23 3 (by decide)).trans ((M199.2 23 3 (Or.inl (by decide))).trans rfl)) (fun j => ((q207 228 j (by simp [fz])).trans ((M199.2 228 j (Or.inl (by decide))).trans rfl))) (fun j => ((q207 229 j (by simp [fz])).trans ((M199.2 229 j (Or.inl (by decide))).trans rfl)))⟩
        refine r_aload_n S dX6_readOne_65 rfl (lv_at hl 0 rfl) ?_
        refine lv_ifnonnull (tgt := 94) S.1.1 S.1.2.1 dX6_readOne_66 (by decide) ?_
        refine r_aload_n S dX6_readOne_94 rfl (lv_at hl 0 rfl) ?_
        refine r_wst (i := 15) S X204 (by decide) kw74 dX6_readOne_95 ?_
        refine r_cacmp_ne (tgt := 127) S h_w10 (by decide) dX6_readOne_98 (by decide) (fun c211 => ?_) (fun c211 => ?_)
        ·
          refine r_aload_n S dX6_readOne_127 rfl (lv_at hl 1 rfl) ?_
          refine r_aload_n S dX6_readOne_128 rfl (lv_at hl 0 rfl) ?_
          refine r_ki (q_V (As := [.ref (G.2.2.1 w10)]) (rest := []) (K := 16) (ci := 6) S X204 (c_X6_readPlainOne_q l G t205 q206 w10 h_w10 (by rw [((q207 16 5 (by decide)).trans ((M199.2 16 5 (Or.inr (by decide))).trans z2))]; exact R_of hf_0 rfl) (by rw [((q207 16 1 (by decide)).trans ((M199.2 16 1 (Or.inr (by decide))).trans z4))]; exact R_of hf_1 rfl) (YT_eq hYT (fun j => ((q207 18 j (by simp [fz])).trans ((M199.2 18 j (Or.inl (by decide))).trans rfl))) (fun j => ((q207 19 j (by simp [fz])).trans ((M199.2 19 j (Or.inl (by decide))).trans rfl)))) bb nb an mn t hR210 (q164.2 w10 (by omega)).1 ⟨(q164.2 w10 (by omega)).2, by omega⟩) ck6_91 (Nat.le_of_ble_eq_true rfl) rfl (fun _ => ⟨_, rfl⟩) ⟨_, _, rfl⟩ ⟨Nat.le_of_ble_eq_true rfl, Nat.le_of_ble_eq_true rfl⟩ rfl hl.1 rfl (Nat.le_of_ble_eq_true rfl) dX6_readOne_129 ⟨Nat.le_refl 0, Nat.le_refl 0⟩) X204 (fun v215 t214 H lc q212 X213 => ?_)
          unfold po_X6_readPlainOne_q at q212
          obtain ⟨q216, q217, q218, q219, q220, q221⟩ := q212
          have F222 : Fr [(16, 1), (16, 2), (17, 4), (1, 3), (1, 4), (1, 5), (1, 7), (1, 8), (16, 4)] [18, 19, 20, 201] τ t214 := Fr_call F209 q217 (by decide)
          exact r_ret S hr hlk X213 ⟨q216, F222, q218, q219, (fun h => q220 h), (QS_y q221 (by omega) (lf_i (q164.2 w10 (by omega)).1 (q164.2 w10 (by omega)).2 (by omega)) (fun h => by omega) (by rw [show t214 16 4 = t205 16 4 from ((q217 16 4 (by decide)).trans rfl), ((q207 16 4 (by decide)).trans M199.1)]; omega))⟩ (nr_bool (R_of (lo := 0) (hi := 1) q219 rfl)) dX6_readOne_132
        ·
          refine r_aload_n S dX6_readOne_101 rfl (lv_at hl 1 rfl) ?_
          refine r_iload_n S dX6_readOne_102 rfl (lv_at hl 2 rfl) ?_
          refine r_iconst S dX6_readOne_103 (by decide) (fun v223 z224 => ?_)
          have r225 := R_eq z224
          refine r_iadd S dX6_readOne_104 (fun v226 z227 => ?_)
          obtain ⟨e228, r229⟩ := i_add (lo := 2) (hi := 2) z227 h_a0 r225 rfl
          refine r_ki (q_V (As := [.int v226]) (rest := []) (K := 16) (ci := 6) S X204 (c_X6_readOne_q2 l G t205 q206 v226 r229 (by rw [((q207 16 5 (by decide)).trans ((M199.2 16 5 (Or.inr (by decide))).trans z2))]; exact R_of hf_0 rfl) (by rw [((q207 16 1 (by decide)).trans ((M199.2 16 1 (Or.inr (by decide))).trans z4))]; exact R_of hf_1 rfl) (YT_eq hYT (fun j => ((q207 18 j (by simp [fz])).trans ((M199.2 18 j (Or.inl (by decide))).trans rfl))) (fun j => ((q207 19 j (by simp [fz])).trans ((M199.2 19 j (Or.inl (by decide))).trans rfl)))) bb nb an mn (nx bb nb 200 t) (k + 1) (true :: sg) hR210 (by rw [((q207 16 4 (by decide)).trans M199.1)]; omega) (by rw [List.length_cons]; omega)) ck6_71 (Nat.le_of_ble_eq_true rfl) rfl (fun _ => ⟨_, rfl⟩) ⟨_, _, rfl⟩ ⟨Nat.le_of_ble_eq_true rfl, Nat.le_of_ble_eq_true rfl⟩ rfl hl.1 rfl (Nat.le_of_ble_eq_true rfl) dX6_readOne_105 ⟨Nat.le_refl 0, Nat.le_refl 0⟩) X204 (fun v233 t232 H lc q230 X231 => ?_)
          unfold po_X6_readOne_q2 at q230
          obtain ⟨q234, q235, q236, q237, q238, q239⟩ := q230
          have F240 : Fr [(16, 1), (16, 2), (17, 4), (1, 3), (1, 4), (1, 5), (1, 7), (1, 8), (16, 4)] [18, 19, 20, 201] τ t232 := Fr_call F209 q235 (by decide)
          refine r_if_ne (tgt := 113) S dX6_readOne_108 (by decide) (fun c241 => ?_) (fun c241 => ?_)
          ·
            have r242 : R (1) (1) v233 := ⟨by omega, by omega⟩
            have p243 := q238 (by omega)
            obtain ⟨v244, z245⟩ : ∃ x, t232 16 1 = x := ⟨_, rfl⟩
            rw [z245] at p243
            have p246 := q239.2 (by omega)
            obtain ⟨t247, k248, hR249, h4250, hk251, hP252, hr253⟩ := p246
            refine r_aload_n S dX6_readOne_113 rfl (lv_at hl 1 rfl) ?_
            refine r_get (K := 16) (v := .ref (G.2.2.2.1 17)) S X231 (Nat.le_of_ble_eq_true rfl) rfl lk6_14_6 (fun _ => ⟨_, rfl, rfl⟩) dX6_readOne_114 ?_
            refine r_wst (i := 15) S X231 (by decide) kw74 dX6_readOne_117 ?_
            refine r_iconst S dX6_readOne_120 (by decide) (fun v254 z255 => ?_)
            have r256 := R_eq z255
            refine r_iconst S dX6_readOne_121 (by decide) (fun v257 z258 => ?_)
            have r259 := R_eq z258
            refine r_kv (q_V (As := [.ref (G.2.2.1 15), .int v254, .int v257]) (rest := []) (K := 17) (ci := 5) S X231 (c_X5_add l G t232 q234 15 (by decide) v254 v257 (R_of (lo := -2147483648) (hi := 2147483647) r256 rfl) (R_of (lo := 0) (hi := 99) r259 rfl) q236 (by omega)) ck6_67 (Nat.le_of_ble_eq_true rfl) rfl (fun _ => ⟨_, rfl⟩) ⟨_, _, rfl⟩ ⟨Nat.le_of_ble_eq_true rfl, Nat.le_of_ble_eq_true rfl⟩ rfl hl.1 rfl (Nat.le_of_ble_eq_true rfl) dX6_readOne_122 ⟨Nat.le_refl 0, Nat.le_refl 0⟩) X231 (fun t262 H lc q260 X261 => ?_)
            unfold po_X5_add at q260
            obtain ⟨q263, q264, q265⟩ := q260
            have F266 : Fr [(16, 1), (16, 2), (17, 4), (1, 3), (1, 4), (1, 5), (1, 7), (1, 8), (16, 4)] [18, 19, 20, 201] τ t262 := Fr_call F240 q264 (by decide)
            refine r_iconst S dX6_readOne_125 (by decide) (fun v267 z268 => ?_)
            have r269 := R_eq z268
            exact r_ret S hr hlk X261 ⟨q263, F266, q265, (R_of r269 rfl), (fun h => (by rw [((q264 16 1 (by decide)).trans z245)]; exact R_of p243 rfl)), (QS_r (by omega) (RG_fr hR249 (fun j => ((q264 1 j (by simp [fz])).trans rfl)) (fun j => ((q264 2 j (by simp [fz])).trans rfl)) (fun j => ((q264 201 j (by simp [fz])).trans rfl)) ((q264 23 2 (by decide)).trans rfl) ((q264 23 3 (by decide)).trans rfl) (fun j => ((q264 228 j (by simp [fz])).trans rfl)) (fun j => ((q264 229 j (by simp [fz])).trans rfl))) (by rw [show t262 16 4 = t232 16 4 from ((q264 16 4 (by decide)).trans rfl)]; exact h4250) ⟨by omega, by omega⟩ trivial (Rch_tr (Rch_1 Rch_0 (stS_O (stO_n (w15 (q164.2 w10 (by omega)).1 (by omega)) (fun h => by omega)))) hr253))⟩ (nr_bool (R_of (lo := 0) (hi := 1) r269 rfl)) dX6_readOne_126
          ·
            have r270 : R (0) (0) v233 := ⟨by omega, by omega⟩
            have p271 := q239.1 (by omega)
            obtain ⟨q272, e273, h274, h275⟩ := p271
            refine r_iconst S dX6_readOne_111 (by decide) (fun v276 z277 => ?_)
            have r278 := R_eq z277
            exact r_ret S hr hlk X231 ⟨q234, F240, q236, (R_of r278 rfl), (fun h => by exfalso; omega), (QS_l (by omega) (Hlt_tr (Rch_1 Rch_0 (stS_O (stO_n (w15 (q164.2 w10 (by omega)).1 (by omega)) (fun h => by omega)))) e273) h274 h275)⟩ (nr_bool (R_of (lo := 0) (hi := 1) r278 rfl)) dX6_readOne_112
      ·
        exfalso; omega
def po_X6_readAll_q1 (τ : Tau)  (a0 : Int32)  (bb : Nat → Int) (nb : Nat) (an mn : List (List Int)) (t : Tk) (k : Nat) (sg : List Bool) (r : Int32) (u : Tau) : Prop := Inv u ∧ Fr [(16, 1), (16, 2), (17, 4), (1, 3), (1, 4), (1, 5), (1, 7), (1, 8), (16, 4)] [18, 19, 20, 201] τ u ∧ YT u ∧ R (0) (1) r ∧ (r.toInt = 1 → R (0) (0) (u 16 1)) ∧ QS bb nb 200 an mn t k sg sg r u (fun t => ¬ isW bb 14 t)
set_option maxHeartbeats 4000000 in
set_option maxRecDepth 100000 in
theorem c_X6_readAll_q1 (l : Launch) (G : Gx) (τ : Tau) (hI : Inv τ) (a0 : Int32) (h_a0 : R (1) (1) a0) (hf_0 : R (1) (1) (τ 16 5)) (hf_1 : R (0) (0) (τ 16 1)) (hYT : YT τ) (bb : Nat → Int) (nb : Nat) (an mn : List (List Int)) (t : Tk) (k : Nat) (sg : List Bool) (hR : RG bb nb 200 an mn τ t) (hon : (τ 16 4).toInt = k) (hs : sg.length + 1 = 1) (hd : dropN sg = sg) : Ci l G yX6_readAll cX6_readAll 3 (some .boolean) 28 611 [.ref (G.2.2.2.1 16), .int a0] τ (po_X6_readAll_q1 τ  a0  bb nb an mn t k sg) := by
  unfold Ci
  refine C_of (own := RX6) (by decide) rfl (Nat.le_of_ble_eq_true rfl) ?_
  intro p e s m below meth c ls S hr hlk X hl
  have hl : lv_has ls 3 [(0, .ref (G.2.2.2.1 16)), (1, .int a0)] := hl
  obtain ⟨v1, z2⟩ : ∃ x, τ 16 5 = x := ⟨_, rfl⟩
  rw [z2] at hf_0
  obtain ⟨v3, z4⟩ : ∃ x, τ 16 1 = x := ⟨_, rfl⟩
  rw [z4] at hf_1
  refine r_aload_n S dX6_readAll_0 rfl (lv_at hl 0 rfl) ?_
  refine r_iload_n S dX6_readAll_1 rfl (lv_at hl 1 rfl) ?_
  refine r_ki (q_V (As := [.int a0]) (rest := []) (K := 16) (ci := 6) S X (c_X6_readOne_q1 l G τ hI a0 h_a0 (by rw [z2]; exact R_of hf_0 rfl) (by rw [z4]; exact R_of hf_1 rfl) hYT bb nb an mn t k sg hR hon hs) ck6_71 (Nat.le_of_ble_eq_true rfl) rfl (fun _ => ⟨_, rfl⟩) ⟨_, _, rfl⟩ ⟨Nat.le_of_ble_eq_true rfl, Nat.le_of_ble_eq_true rfl⟩ rfl hl.1 rfl (Nat.le_of_ble_eq_true rfl) dX6_readAll_2 ⟨Nat.le_refl 0, Nat.le_refl 0⟩) X (fun v8 t7 H lc q5 X6 => ?_)
  unfold po_X6_readOne_q1 at q5
  obtain ⟨q9, q10, q11, q12, q13, q14⟩ := q5
  have F15 : Fr [(16, 1), (16, 2), (17, 4), (1, 3), (1, 4), (1, 5), (1, 7), (1, 8), (16, 4)] [18, 19, 20, 201] τ t7 := Fr_call Fr_rfl q10 (by decide)
  refine r_if_ne (tgt := 10) S dX6_readAll_5 (by decide) (fun c16 => ?_) (fun c16 => ?_)
  ·
    have r17 : R (1) (1) v8 := ⟨by omega, by omega⟩
    have p18 := q13 (by omega)
    obtain ⟨v19, z20⟩ : ∃ x, t7 16 1 = x := ⟨_, rfl⟩
    rw [z20] at p18
    have p21 := q14.2 (by omega)
    obtain ⟨t22, k23, hR24, h425, hk26, hP27, hr28⟩ := p21
    rw [hd] at hr28
    refine r_iconst S dX6_readAll_10 (by decide) (fun v29 z30 => ?_)
    have r31 := R_eq z30
    refine r_istore_n (lv' := [(2, .int v29), (0, .ref (G.2.2.2.1 16)), (1, .int a0)]) S dX6_readAll_11 rfl hl (by decide) rfl (fun ls hl => ?_)
    have L1036 : ∀ (n : Nat) (t1027 : Tau) (H : Heap) (lc : List Loc) (ls : Array Slot) (i1025 : Int32) (f1033 : Int32), Xd G s H lc t1027 → Inv t1027 → Fr [(16, 1), (16, 2), (17, 4), (1, 3), (1, 4), (1, 5), (1, 7), (1, 8), (16, 4)] [18, 19, 20, 201] τ t1027 → YT t1027 → R (0) (24) i1025 → t1027 16 5 = v1 → t1027 16 1 = f1033 → R (0) (0) f1033 → (∃ (tc : Tk) (kc : Nat), RG bb nb 200 an mn t1027 tc ∧ (t1027 16 4).toInt = kc ∧ ((i1025).toInt + 1 + k ≤ kc ∧ kc ≤ 20) ∧ True ∧ Rch bb nb 200 an mn (false, t, k, sg) (true, tc, kc, sg)) → lv_has ls 3 [(0, .ref (G.2.2.2.1 16)), (1, .int a0), (2, .int i1025)] → (24 - i1025.toInt).toNat < n → W p l e (Rm 28 611) s m ([.ref (G.2.2.2.1 16), .int a0] : List Value).toArray below meth c H lc 0 0 (MQ below (va_Qi (po_X6_readAll_q1 τ  a0  bb nb an mn t k sg) (Bs G) G.2.2.2.2) ([.ref (G.2.2.2.1 16), .int a0] : List Value).toArray s 0 0 G.2.2.2.2) (F0 m 12 ls []) := by
      intro n
      induction n with
      | zero => intros; omega
      | succ n ih1038 =>
        intro t1027 H lc ls i1025 f1033 X1031 I1028 F1029 hYT1030 r1026 z1032 z1035 r1034 x1037 hl hm
        obtain ⟨tc1039, kc1040, hR1041, h41042, hk1043, hP1044, hr1045⟩ := x1037
        refine r_iload_n S dX6_readAll_12 rfl (lv_at hl 2 rfl) ?_
        refine r_bipush S dX6_readAll_13 (by decide) (fun v1046 z1047 => ?_)
        have r1048 := R_eq z1047
        refine r_icmp_gt (tgt := 66) S dX6_readAll_15 (by decide) (fun c1049 => ?_) (fun c1049 => ?_)
        ·
          have r1050 : R (21) (24) i1025 := ⟨by omega, by omega⟩
          refine r_iconst S dX6_readAll_66 (by decide) (fun v1051 z1052 => ?_)
          have r1053 := R_eq z1052
          exact r_ret S hr hlk X1031 ⟨I1028, F1029, hYT1030, (R_of r1053 rfl), (fun h => (by rw [z1035]; exact R_of r1034 rfl)), (by exfalso; omega)⟩ (nr_bool (R_of (lo := 0) (hi := 1) r1053 rfl)) dX6_readAll_67
        ·
          have r1054 : R (0) (20) i1025 := ⟨by omega, by omega⟩
          refine r_aload_n S dX6_readAll_18 rfl (lv_at hl 0 rfl) ?_
          refine r_get (K := 16) (v := .ref (G.2.2.2.1 1)) S X1031 (Nat.le_of_ble_eq_true rfl) rfl lk6_39_6 (fun _ => ⟨_, rfl, rfl⟩) dX6_readAll_19 ?_
          refine r_wst (i := 14) S X1031 (by decide) kw81 dX6_readAll_22 ?_
          refine r_ki (q_V (As := [.ref (G.2.2.1 14)]) (rest := []) (K := 1) (ci := 7) S X1031 (c_X7_is_q l G t1027 I1028 14 (by decide) bb nb 200 tc1039 hR1041.1) ck6_60 (Nat.le_of_ble_eq_true rfl) rfl (fun _ => ⟨_, rfl⟩) ⟨_, _, rfl⟩ ⟨Nat.le_of_ble_eq_true rfl, Nat.le_of_ble_eq_true rfl⟩ rfl hl.1 rfl (Nat.le_of_ble_eq_true rfl) dX6_readAll_25 ⟨Nat.le_refl 0, Nat.le_refl 0⟩) X1031 (fun v1058 t1057 H lc q1055 X1056 => ?_)
          unfold po_X7_is_q at q1055
          obtain ⟨q1059, q1060, q1061⟩ := q1055
          rw [q1059] at X1056
          refine r_if_eq (tgt := 66) S dX6_readAll_28 (by decide) (fun c1062 => ?_) (fun c1062 => ?_)
          ·
            have r1063 : R (0) (0) v1058 := ⟨by omega, by omega⟩
            have p1064 := (iff_n q1061) (by omega)
            refine r_iconst S dX6_readAll_66 (by decide) (fun v1065 z1066 => ?_)
            have r1067 := R_eq z1066
            exact r_ret S hr hlk X1056 ⟨I1028, F1029, hYT1030, (R_of r1067 rfl), (fun h => (by rw [z1035]; exact R_of r1034 rfl)), (QS_r (by omega) hR1041 (by rw [show t1027 16 4 = t1027 16 4 from rfl]; exact h41042) ⟨by omega, by omega⟩ p1064 hr1045)⟩ (nr_bool (R_of (lo := 0) (hi := 1) r1067 rfl)) dX6_readAll_67
          ·
            have r1068 : R (1) (1) v1058 := ⟨by omega, by omega⟩
            have p1069 := (q1061).mp (by omega)
            refine r_aload_n S dX6_readAll_31 rfl (lv_at hl 0 rfl) ?_
            refine r_get (K := 16) (v := .ref (G.2.2.2.1 1)) S X1056 (Nat.le_of_ble_eq_true rfl) rfl lk6_39_6 (fun _ => ⟨_, rfl, rfl⟩) dX6_readAll_32 ?_
            refine r_kv (q_V (As := []) (rest := []) (K := 1) (ci := 7) S X1056 (c_X7_step_q l G t1027 I1028 bb nb 200 tc1039.2.2 (RT_st hR1041.1 (Or.inl p1069.1)).1 (RT_st hR1041.1 (Or.inl p1069.1)).2.1 (RT_st hR1041.1 (Or.inl p1069.1)).2.2) ck6_64 (Nat.le_of_ble_eq_true rfl) rfl (fun _ => ⟨_, rfl⟩) ⟨_, _, rfl⟩ ⟨Nat.le_of_ble_eq_true rfl, Nat.le_of_ble_eq_true rfl⟩ rfl hl.1 rfl (Nat.le_of_ble_eq_true rfl) dX6_readAll_35 ⟨Nat.le_refl 0, Nat.le_refl 0⟩) X1056 (fun t1072 H lc q1070 X1071 => ?_)
            unfold po_X7_step_q at q1070
            obtain ⟨q1073, q1074, q1075⟩ := q1070
            have F1076 : Fr [(16, 1), (16, 2), (17, 4), (1, 3), (1, 4), (1, 5), (1, 7), (1, 8), (16, 4)] [18, 19, 20, 201] τ t1072 := Fr_call F1029 q1074 (by decide)
            have hR1077 : RG bb nb 200 an mn t1072 (nx bb nb 200 tc1039) := ⟨q1075, NM2_fr hR1041.2 ((q1074 23 2 (by decide)).trans rfl) ((q1074 23 3 (by decide)).trans rfl) (fun j => ((q1074 228 j (by simp [fz])).trans rfl)) (fun j => ((q1074 229 j (by simp [fz])).trans rfl))⟩
            refine r_aload_n S dX6_readAll_38 rfl (lv_at hl 0 rfl) ?_
            refine r_iload_n S dX6_readAll_39 rfl (lv_at hl 1 rfl) ?_
            refine r_ki (q_V (As := [.int a0]) (rest := []) (K := 16) (ci := 6) S X1071 (c_X6_readOne_q1 l G t1072 q1073 a0 h_a0 (by rw [((q1074 16 5 (by decide)).trans z1032)]; exact R_of hf_0 rfl) (by rw [((q1074 16 1 (by decide)).trans z1035)]; exact R_of r1034 rfl) (YT_eq hYT1030 (fun j => ((q1074 18 j (by simp [fz])).trans rfl)) (fun j => ((q1074 19 j (by simp [fz])).trans rfl))) bb nb an mn (nx bb nb 200 tc1039) kc1040 sg hR1077 (by rw [show t1072 16 4 = t1027 16 4 from ((q1074 16 4 (by decide)).trans rfl)]; exact h41042) hs) ck6_71 (Nat.le_of_ble_eq_true rfl) rfl (fun _ => ⟨_, rfl⟩) ⟨_, _, rfl⟩ ⟨Nat.le_of_ble_eq_true rfl, Nat.le_of_ble_eq_true rfl⟩ rfl hl.1 rfl (Nat.le_of_ble_eq_true rfl) dX6_readAll_40 ⟨Nat.le_refl 0, Nat.le_refl 0⟩) X1071 (fun v1081 t1080 H lc q1078 X1079 => ?_)
            unfold po_X6_readOne_q1 at q1078
            obtain ⟨q1082, q1083, q1084, q1085, q1086, q1087⟩ := q1078
            have F1088 : Fr [(16, 1), (16, 2), (17, 4), (1, 3), (1, 4), (1, 5), (1, 7), (1, 8), (16, 4)] [18, 19, 20, 201] τ t1080 := Fr_call F1076 q1083 (by decide)
            refine r_if_ne (tgt := 48) S dX6_readAll_43 (by decide) (fun c1089 => ?_) (fun c1089 => ?_)
            ·
              have r1090 : R (1) (1) v1081 := ⟨by omega, by omega⟩
              have p1091 := q1086 (by omega)
              obtain ⟨v1092, z1093⟩ : ∃ x, t1080 16 1 = x := ⟨_, rfl⟩
              rw [z1093] at p1091
              have p1094 := q1087.2 (by omega)
              obtain ⟨t1095, k1096, hR1097, h41098, hk1099, hP1100, hr1101⟩ := p1094
              rw [hd] at hr1101
              refine r_aload_n S dX6_readAll_48 rfl (lv_at hl 0 rfl) ?_
              refine r_get (K := 16) (v := .ref (G.2.2.2.1 17)) S X1079 (Nat.le_of_ble_eq_true rfl) rfl lk6_14_6 (fun _ => ⟨_, rfl, rfl⟩) dX6_readAll_49 ?_
              refine r_wst (i := 14) S X1079 (by decide) kw81 dX6_readAll_52 ?_
              refine r_iconst S dX6_readAll_55 (by decide) (fun v1102 z1103 => ?_)
              have r1104 := R_eq z1103
              refine r_iconst S dX6_readAll_56 (by decide) (fun v1105 z1106 => ?_)
              have r1107 := R_eq z1106
              refine r_kv (q_V (As := [.ref (G.2.2.1 14), .int v1102, .int v1105]) (rest := []) (K := 17) (ci := 5) S X1079 (c_X5_add l G t1080 q1082 14 (by decide) v1102 v1105 (R_of (lo := -2147483648) (hi := 2147483647) r1104 rfl) (R_of (lo := 0) (hi := 99) r1107 rfl) q1084 (by omega)) ck6_67 (Nat.le_of_ble_eq_true rfl) rfl (fun _ => ⟨_, rfl⟩) ⟨_, _, rfl⟩ ⟨Nat.le_of_ble_eq_true rfl, Nat.le_of_ble_eq_true rfl⟩ rfl hl.1 rfl (Nat.le_of_ble_eq_true rfl) dX6_readAll_57 ⟨Nat.le_refl 0, Nat.le_refl 0⟩) X1079 (fun t1110 H lc q1108 X1109 => ?_)
              unfold po_X5_add at q1108
              obtain ⟨q1111, q1112, q1113⟩ := q1108
              have F1114 : Fr [(16, 1), (16, 2), (17, 4), (1, 3), (1, 4), (1, 5), (1, 7), (1, 8), (16, 4)] [18, 19, 20, 201] τ t1110 := Fr_call F1088 q1112 (by decide)
              refine r_iinc (k := 2) S dX6_readAll_60 hl rfl (by decide) (by decide) (fun v1115 d1116 ls z1117 z1118 hl => ?_)
              obtain ⟨e1119, r1120⟩ := i_add (lo := 1) (hi := 21) z1117 r1054 (R_eq z1118) rfl
              have hl : lv_has ls 3 [(2, .int v1115), (0, .ref (G.2.2.2.1 16)), (1, .int a0)] := hl
              refine r_goto (tgt := 12) S dX6_readAll_63 (by decide) ?_
              exact ih1038 t1110 _ _ _ v1115 v1092 X1109 q1111 F1114 q1113 (R_of r1120 rfl) ((q1112 16 5 (by decide)).trans ((q1083 16 5 (by decide)).trans ((q1074 16 5 (by decide)).trans z1032))) ((q1112 16 1 (by decide)).trans z1093) ⟨by omega, by omega⟩ ⟨t1095, k1096, (RG_fr hR1097 (fun j => ((q1112 1 j (by simp [fz])).trans rfl)) (fun j => ((q1112 2 j (by simp [fz])).trans rfl)) (fun j => ((q1112 201 j (by simp [fz])).trans rfl)) ((q1112 23 2 (by decide)).trans rfl) ((q1112 23 3 (by decide)).trans rfl) (fun j => ((q1112 228 j (by simp [fz])).trans rfl)) (fun j => ((q1112 229 j (by simp [fz])).trans rfl))), (by rw [show t1110 16 4 = t1080 16 4 from ((q1112 16 4 (by decide)).trans rfl)]; exact h41098), ⟨by omega, by omega⟩, trivial, (Rch_tr (Rch_1 hr1045 (stS_W (stW_a (Or.inl p1069)))) hr1101)⟩ (lv_sub hl [1, 2, 0] rfl) (by omega)
            ·
              have r1121 : R (0) (0) v1081 := ⟨by omega, by omega⟩
              have p1122 := q1087.1 (by omega)
              obtain ⟨q1123, e1124, h1125, h1126⟩ := p1122
              refine r_iconst S dX6_readAll_46 (by decide) (fun v1127 z1128 => ?_)
              have r1129 := R_eq z1128
              exact r_ret S hr hlk X1079 ⟨q1082, F1088, q1084, (R_of r1129 rfl), (fun h => by exfalso; omega), (QS_l (by omega) (Hlt_tr (Rch_1 hr1045 (stS_W (stW_a (Or.inl p1069)))) e1124) h1125 h1126)⟩ (nr_bool (R_of (lo := 0) (hi := 1) r1129 rfl)) dX6_readAll_47
    exact L1036 _ t7 _ _ _ v29 v19 X6 q9 F15 q11 (R_of r31 rfl) ((q10 16 5 (by decide)).trans z2) z20 ⟨by omega, by omega⟩ ⟨t22, k23, hR24, (by rw [show t7 16 4 = t7 16 4 from rfl]; exact h425), ⟨by omega, by omega⟩, trivial, hr28⟩ (lv_sub hl [1, 2, 0] rfl) (Nat.lt_succ_self _)
  ·
    have r1130 : R (0) (0) v8 := ⟨by omega, by omega⟩
    have p1131 := q14.1 (by omega)
    obtain ⟨q1132, e1133, h1134, h1135⟩ := p1131
    refine r_iconst S dX6_readAll_8 (by decide) (fun v1136 z1137 => ?_)
    have r1138 := R_eq z1137
    exact r_ret S hr hlk X6 ⟨q9, F15, q11, (R_of r1138 rfl), (fun h => by exfalso; omega), (QS_l (by omega) e1133 h1134 h1135)⟩ (nr_bool (R_of (lo := 0) (hi := 1) r1138 rfl)) dX6_readAll_9
def po_X6_readCond_q1 (τ : Tau)  (a0 : Int32)  (bb : Nat → Int) (nb : Nat) (an mn : List (List Int)) (t : Tk) (k : Nat) (sg : List Bool) (r : Int32) (u : Tau) : Prop := Inv u ∧ Fr [(16, 1), (16, 2), (17, 4), (1, 3), (1, 4), (1, 5), (1, 7), (1, 8), (16, 4)] [18, 19, 20, 201] τ u ∧ YT u ∧ R (0) (1) r ∧ (r.toInt = 1 → R (0) (0) (u 16 1)) ∧ QS bb nb 200 an mn t k sg sg r u (fun t => ¬ isW bb 14 t ∧ ¬ isW bb 13 t)
set_option maxHeartbeats 4000000 in
set_option maxRecDepth 100000 in
theorem c_X6_readCond_q1 (l : Launch) (G : Gx) (τ : Tau) (hI : Inv τ) (a0 : Int32) (h_a0 : R (1) (1) a0) (hf_0 : R (1) (1) (τ 16 5)) (hf_1 : R (0) (0) (τ 16 1)) (hYT : YT τ) (bb : Nat → Int) (nb : Nat) (an mn : List (List Int)) (t : Tk) (k : Nat) (sg : List Bool) (hR : RG bb nb 200 an mn τ t) (hon : (τ 16 4).toInt = k) (hs : sg.length + 1 = 1) (hd : dropN sg = sg) : Ci l G yX6_readCond cX6_readCond 3 (some .boolean) 29 633 [.ref (G.2.2.2.1 16), .int a0] τ (po_X6_readCond_q1 τ  a0  bb nb an mn t k sg) := by
  unfold Ci
  refine C_of (own := RX6) (by decide) rfl (Nat.le_of_ble_eq_true rfl) ?_
  intro p e s m below meth c ls S hr hlk X hl
  have hl : lv_has ls 3 [(0, .ref (G.2.2.2.1 16)), (1, .int a0)] := hl
  obtain ⟨v1, z2⟩ : ∃ x, τ 16 5 = x := ⟨_, rfl⟩
  rw [z2] at hf_0
  obtain ⟨v3, z4⟩ : ∃ x, τ 16 1 = x := ⟨_, rfl⟩
  rw [z4] at hf_1
  refine r_aload_n S dX6_readCond_0 rfl (lv_at hl 0 rfl) ?_
  refine r_iload_n S dX6_readCond_1 rfl (lv_at hl 1 rfl) ?_
  refine r_ki (q_V (As := [.int a0]) (rest := []) (K := 16) (ci := 6) S X (c_X6_readAll_q1 l G τ hI a0 h_a0 (by rw [z2]; exact R_of hf_0 rfl) (by rw [z4]; exact R_of hf_1 rfl) hYT bb nb an mn t k sg hR hon hs hd) ck6_51 (Nat.le_of_ble_eq_true rfl) rfl (fun _ => ⟨_, rfl⟩) ⟨_, _, rfl⟩ ⟨Nat.le_of_ble_eq_true rfl, Nat.le_of_ble_eq_true rfl⟩ rfl hl.1 rfl (Nat.le_of_ble_eq_true rfl) dX6_readCond_2 ⟨Nat.le_refl 0, Nat.le_refl 0⟩) X (fun v8 t7 H lc q5 X6 => ?_)
  unfold po_X6_readAll_q1 at q5
  obtain ⟨q9, q10, q11, q12, q13, q14⟩ := q5
  have F15 : Fr [(16, 1), (16, 2), (17, 4), (1, 3), (1, 4), (1, 5), (1, 7), (1, 8), (16, 4)] [18, 19, 20, 201] τ t7 := Fr_call Fr_rfl q10 (by decide)
  refine r_if_ne (tgt := 10) S dX6_readCond_5 (by decide) (fun c16 => ?_) (fun c16 => ?_)
  ·
    have r17 : R (1) (1) v8 := ⟨by omega, by omega⟩
    have p18 := q13 (by omega)
    obtain ⟨v19, z20⟩ : ∃ x, t7 16 1 = x := ⟨_, rfl⟩
    rw [z20] at p18
    have p21 := q14.2 (by omega)
    obtain ⟨t22, k23, hR24, h425, hk26, hP27, hr28⟩ := p21
    refine r_iconst S dX6_readCond_10 (by decide) (fun v29 z30 => ?_)
    have r31 := R_eq z30
    refine r_istore_n (lv' := [(2, .int v29), (0, .ref (G.2.2.2.1 16)), (1, .int a0)]) S dX6_readCond_11 rfl hl (by decide) rfl (fun ls hl => ?_)
    have L1036 : ∀ (n : Nat) (t1027 : Tau) (H : Heap) (lc : List Loc) (ls : Array Slot) (i1025 : Int32) (f1033 : Int32), Xd G s H lc t1027 → Inv t1027 → Fr [(16, 1), (16, 2), (17, 4), (1, 3), (1, 4), (1, 5), (1, 7), (1, 8), (16, 4)] [18, 19, 20, 201] τ t1027 → YT t1027 → R (0) (24) i1025 → t1027 16 5 = v1 → t1027 16 1 = f1033 → R (0) (0) f1033 → (∃ (tc : Tk) (kc : Nat), RG bb nb 200 an mn t1027 tc ∧ (t1027 16 4).toInt = kc ∧ ((i1025).toInt + 1 + k ≤ kc ∧ kc ≤ 20) ∧ ¬ isW bb 14 tc ∧ Rch bb nb 200 an mn (false, t, k, sg) (true, tc, kc, sg)) → lv_has ls 3 [(0, .ref (G.2.2.2.1 16)), (1, .int a0), (2, .int i1025)] → (24 - i1025.toInt).toNat < n → W p l e (Rm 29 633) s m ([.ref (G.2.2.2.1 16), .int a0] : List Value).toArray below meth c H lc 0 0 (MQ below (va_Qi (po_X6_readCond_q1 τ  a0  bb nb an mn t k sg) (Bs G) G.2.2.2.2) ([.ref (G.2.2.2.1 16), .int a0] : List Value).toArray s 0 0 G.2.2.2.2) (F0 m 12 ls []) := by
      intro n
      induction n with
      | zero => intros; omega
      | succ n ih1038 =>
        intro t1027 H lc ls i1025 f1033 X1031 I1028 F1029 hYT1030 r1026 z1032 z1035 r1034 x1037 hl hm
        obtain ⟨tc1039, kc1040, hR1041, h41042, hk1043, hP1044, hr1045⟩ := x1037
        refine r_iload_n S dX6_readCond_12 rfl (lv_at hl 2 rfl) ?_
        refine r_bipush S dX6_readCond_13 (by decide) (fun v1046 z1047 => ?_)
        have r1048 := R_eq z1047
        refine r_icmp_gt (tgt := 66) S dX6_readCond_15 (by decide) (fun c1049 => ?_) (fun c1049 => ?_)
        ·
          have r1050 : R (21) (24) i1025 := ⟨by omega, by omega⟩
          refine r_iconst S dX6_readCond_66 (by decide) (fun v1051 z1052 => ?_)
          have r1053 := R_eq z1052
          exact r_ret S hr hlk X1031 ⟨I1028, F1029, hYT1030, (R_of r1053 rfl), (fun h => (by rw [z1035]; exact R_of r1034 rfl)), (by exfalso; omega)⟩ (nr_bool (R_of (lo := 0) (hi := 1) r1053 rfl)) dX6_readCond_67
        ·
          have r1054 : R (0) (20) i1025 := ⟨by omega, by omega⟩
          refine r_aload_n S dX6_readCond_18 rfl (lv_at hl 0 rfl) ?_
          refine r_get (K := 16) (v := .ref (G.2.2.2.1 1)) S X1031 (Nat.le_of_ble_eq_true rfl) rfl lk6_39_6 (fun _ => ⟨_, rfl, rfl⟩) dX6_readCond_19 ?_
          refine r_wst (i := 13) S X1031 (by decide) kw82 dX6_readCond_22 ?_
          refine r_ki (q_V (As := [.ref (G.2.2.1 13)]) (rest := []) (K := 1) (ci := 7) S X1031 (c_X7_is_q l G t1027 I1028 13 (by decide) bb nb 200 tc1039 hR1041.1) ck6_60 (Nat.le_of_ble_eq_true rfl) rfl (fun _ => ⟨_, rfl⟩) ⟨_, _, rfl⟩ ⟨Nat.le_of_ble_eq_true rfl, Nat.le_of_ble_eq_true rfl⟩ rfl hl.1 rfl (Nat.le_of_ble_eq_true rfl) dX6_readCond_25 ⟨Nat.le_refl 0, Nat.le_refl 0⟩) X1031 (fun v1058 t1057 H lc q1055 X1056 => ?_)
          unfold po_X7_is_q at q1055
          obtain ⟨q1059, q1060, q1061⟩ := q1055
          rw [q1059] at X1056
          refine r_if_eq (tgt := 66) S dX6_readCond_28 (by decide) (fun c1062 => ?_) (fun c1062 => ?_)
          ·
            have r1063 : R (0) (0) v1058 := ⟨by omega, by omega⟩
            have p1064 := (iff_n q1061) (by omega)
            refine r_iconst S dX6_readCond_66 (by decide) (fun v1065 z1066 => ?_)
            have r1067 := R_eq z1066
            exact r_ret S hr hlk X1056 ⟨I1028, F1029, hYT1030, (R_of r1067 rfl), (fun h => (by rw [z1035]; exact R_of r1034 rfl)), (QS_r (by omega) hR1041 (by rw [show t1027 16 4 = t1027 16 4 from rfl]; exact h41042) ⟨by omega, by omega⟩ ⟨hP1044, p1064⟩ hr1045)⟩ (nr_bool (R_of (lo := 0) (hi := 1) r1067 rfl)) dX6_readCond_67
          ·
            have r1068 : R (1) (1) v1058 := ⟨by omega, by omega⟩
            have p1069 := (q1061).mp (by omega)
            refine r_aload_n S dX6_readCond_31 rfl (lv_at hl 0 rfl) ?_
            refine r_get (K := 16) (v := .ref (G.2.2.2.1 1)) S X1056 (Nat.le_of_ble_eq_true rfl) rfl lk6_39_6 (fun _ => ⟨_, rfl, rfl⟩) dX6_readCond_32 ?_
            refine r_kv (q_V (As := []) (rest := []) (K := 1) (ci := 7) S X1056 (c_X7_step_q l G t1027 I1028 bb nb 200 tc1039.2.2 (RT_st hR1041.1 (Or.inl p1069.1)).1 (RT_st hR1041.1 (Or.inl p1069.1)).2.1 (RT_st hR1041.1 (Or.inl p1069.1)).2.2) ck6_64 (Nat.le_of_ble_eq_true rfl) rfl (fun _ => ⟨_, rfl⟩) ⟨_, _, rfl⟩ ⟨Nat.le_of_ble_eq_true rfl, Nat.le_of_ble_eq_true rfl⟩ rfl hl.1 rfl (Nat.le_of_ble_eq_true rfl) dX6_readCond_35 ⟨Nat.le_refl 0, Nat.le_refl 0⟩) X1056 (fun t1072 H lc q1070 X1071 => ?_)
            unfold po_X7_step_q at q1070
            obtain ⟨q1073, q1074, q1075⟩ := q1070
            have F1076 : Fr [(16, 1), (16, 2), (17, 4), (1, 3), (1, 4), (1, 5), (1, 7), (1, 8), (16, 4)] [18, 19, 20, 201] τ t1072 := Fr_call F1029 q1074 (by decide)
            have hR1077 : RG bb nb 200 an mn t1072 (nx bb nb 200 tc1039) := ⟨q1075, NM2_fr hR1041.2 ((q1074 23 2 (by decide)).trans rfl) ((q1074 23 3 (by decide)).trans rfl) (fun j => ((q1074 228 j (by simp [fz])).trans rfl)) (fun j => ((q1074 229 j (by simp [fz])).trans rfl))⟩
            refine r_aload_n S dX6_readCond_38 rfl (lv_at hl 0 rfl) ?_
            refine r_iload_n S dX6_readCond_39 rfl (lv_at hl 1 rfl) ?_
            refine r_ki (q_V (As := [.int a0]) (rest := []) (K := 16) (ci := 6) S X1071 (c_X6_readAll_q1 l G t1072 q1073 a0 h_a0 (by rw [((q1074 16 5 (by decide)).trans z1032)]; exact R_of hf_0 rfl) (by rw [((q1074 16 1 (by decide)).trans z1035)]; exact R_of r1034 rfl) (YT_eq hYT1030 (fun j => ((q1074 18 j (by simp [fz])).trans rfl)) (fun j => ((q1074 19 j (by simp [fz])).trans rfl))) bb nb an mn (nx bb nb 200 tc1039) kc1040 sg hR1077 (by rw [show t1072 16 4 = t1027 16 4 from ((q1074 16 4 (by decide)).trans rfl)]; exact h41042) hs hd) ck6_51 (Nat.le_of_ble_eq_true rfl) rfl (fun _ => ⟨_, rfl⟩) ⟨_, _, rfl⟩ ⟨Nat.le_of_ble_eq_true rfl, Nat.le_of_ble_eq_true rfl⟩ rfl hl.1 rfl (Nat.le_of_ble_eq_true rfl) dX6_readCond_40 ⟨Nat.le_refl 0, Nat.le_refl 0⟩) X1071 (fun v1081 t1080 H lc q1078 X1079 => ?_)
            unfold po_X6_readAll_q1 at q1078
            obtain ⟨q1082, q1083, q1084, q1085, q1086, q1087⟩ := q1078
            have F1088 : Fr [(16, 1), (16, 2), (17, 4), (1, 3), (1, 4), (1, 5), (1, 7), (1, 8), (16, 4)] [18, 19, 20, 201] τ t1080 := Fr_call F1076 q1083 (by decide)
            refine r_if_ne (tgt := 48) S dX6_readCond_43 (by decide) (fun c1089 => ?_) (fun c1089 => ?_)
            ·
              have r1090 : R (1) (1) v1081 := ⟨by omega, by omega⟩
              have p1091 := q1086 (by omega)
              obtain ⟨v1092, z1093⟩ : ∃ x, t1080 16 1 = x := ⟨_, rfl⟩
              rw [z1093] at p1091
              have p1094 := q1087.2 (by omega)
              obtain ⟨t1095, k1096, hR1097, h41098, hk1099, hP1100, hr1101⟩ := p1094
              refine r_aload_n S dX6_readCond_48 rfl (lv_at hl 0 rfl) ?_
              refine r_get (K := 16) (v := .ref (G.2.2.2.1 17)) S X1079 (Nat.le_of_ble_eq_true rfl) rfl lk6_14_6 (fun _ => ⟨_, rfl, rfl⟩) dX6_readCond_49 ?_
              refine r_wst (i := 13) S X1079 (by decide) kw82 dX6_readCond_52 ?_
              refine r_iconst S dX6_readCond_55 (by decide) (fun v1102 z1103 => ?_)
              have r1104 := R_eq z1103
              refine r_iconst S dX6_readCond_56 (by decide) (fun v1105 z1106 => ?_)
              have r1107 := R_eq z1106
              refine r_kv (q_V (As := [.ref (G.2.2.1 13), .int v1102, .int v1105]) (rest := []) (K := 17) (ci := 5) S X1079 (c_X5_add l G t1080 q1082 13 (by decide) v1102 v1105 (R_of (lo := -2147483648) (hi := 2147483647) r1104 rfl) (R_of (lo := 0) (hi := 99) r1107 rfl) q1084 (by omega)) ck6_67 (Nat.le_of_ble_eq_true rfl) rfl (fun _ => ⟨_, rfl⟩) ⟨_, _, rfl⟩ ⟨Nat.le_of_ble_eq_true rfl, Nat.le_of_ble_eq_true rfl⟩ rfl hl.1 rfl (Nat.le_of_ble_eq_true rfl) dX6_readCond_57 ⟨Nat.le_refl 0, Nat.le_refl 0⟩) X1079 (fun t1110 H lc q1108 X1109 => ?_)
              unfold po_X5_add at q1108
              obtain ⟨q1111, q1112, q1113⟩ := q1108
              have F1114 : Fr [(16, 1), (16, 2), (17, 4), (1, 3), (1, 4), (1, 5), (1, 7), (1, 8), (16, 4)] [18, 19, 20, 201] τ t1110 := Fr_call F1088 q1112 (by decide)
              refine r_iinc (k := 2) S dX6_readCond_60 hl rfl (by decide) (by decide) (fun v1115 d1116 ls z1117 z1118 hl => ?_)
              obtain ⟨e1119, r1120⟩ := i_add (lo := 1) (hi := 21) z1117 r1054 (R_eq z1118) rfl
              have hl : lv_has ls 3 [(2, .int v1115), (0, .ref (G.2.2.2.1 16)), (1, .int a0)] := hl
              refine r_goto (tgt := 12) S dX6_readCond_63 (by decide) ?_
              exact ih1038 t1110 _ _ _ v1115 v1092 X1109 q1111 F1114 q1113 (R_of r1120 rfl) ((q1112 16 5 (by decide)).trans ((q1083 16 5 (by decide)).trans ((q1074 16 5 (by decide)).trans z1032))) ((q1112 16 1 (by decide)).trans z1093) ⟨by omega, by omega⟩ ⟨t1095, k1096, (RG_fr hR1097 (fun j => ((q1112 1 j (by simp [fz])).trans rfl)) (fun j => ((q1112 2 j (by simp [fz])).trans rfl)) (fun j => ((q1112 201 j (by simp [fz])).trans rfl)) ((q1112 23 2 (by decide)).trans rfl) ((q1112 23 3 (by decide)).trans rfl) (fun j => ((q1112 228 j (by simp [fz])).trans rfl)) (fun j => ((q1112 229 j (by simp [fz])).trans rfl))), (by rw [show t1110 16 4 = t1080 16 4 from ((q1112 16 4 (by decide)).trans rfl)]; exact h41098), ⟨by omega, by omega⟩, hP1100, (Rch_tr (Rch_1 hr1045 (stS_W (stW_a (Or.inr p1069)))) hr1101)⟩ (lv_sub hl [1, 2, 0] rfl) (by omega)
            ·
              have r1121 : R (0) (0) v1081 := ⟨by omega, by omega⟩
              have p1122 := q1087.1 (by omega)
              obtain ⟨q1123, e1124, h1125, h1126⟩ := p1122
              refine r_iconst S dX6_readCond_46 (by decide) (fun v1127 z1128 => ?_)
              have r1129 := R_eq z1128
              exact r_ret S hr hlk X1079 ⟨q1082, F1088, q1084, (R_of r1129 rfl), (fun h => by exfalso; omega), (QS_l (by omega) (Hlt_tr (Rch_1 hr1045 (stS_W (stW_a (Or.inr p1069)))) e1124) h1125 h1126)⟩ (nr_bool (R_of (lo := 0) (hi := 1) r1129 rfl)) dX6_readCond_47
    exact L1036 _ t7 _ _ _ v29 v19 X6 q9 F15 q11 (R_of r31 rfl) ((q10 16 5 (by decide)).trans z2) z20 ⟨by omega, by omega⟩ ⟨t22, k23, hR24, (by rw [show t7 16 4 = t7 16 4 from rfl]; exact h425), ⟨by omega, by omega⟩, hP27, hr28⟩ (lv_sub hl [1, 2, 0] rfl) (Nat.lt_succ_self _)
  ·
    have r1130 : R (0) (0) v8 := ⟨by omega, by omega⟩
    have p1131 := q14.1 (by omega)
    obtain ⟨q1132, e1133, h1134, h1135⟩ := p1131
    refine r_iconst S dX6_readCond_8 (by decide) (fun v1136 z1137 => ?_)
    have r1138 := R_eq z1137
    exact r_ret S hr hlk X6 ⟨q9, F15, q11, (R_of r1138 rfl), (fun h => by exfalso; omega), (QS_l (by omega) e1133 h1134 h1135)⟩ (nr_bool (R_of (lo := 0) (hi := 1) r1138 rfl)) dX6_readCond_9
