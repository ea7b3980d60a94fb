def po_X12_logLine_t (τ : Tau)    (bb : Nat → Int) (nb : Nat) (an mn : List (List Int)) (t : Tk) (ln : Nat) (r : Int32) (u : Tau) : Prop := Inv u ∧ Fr [(131, 15), (131, 16), (131, 4), (131, 11), (131, 12), (131, 13), (131, 14), (131, 18), (131, 21)] [135, 331] τ u ∧ R (0) (1) r ∧ (r.toInt = 1 → R (0) (39) (u 131 37) ∧ R (0) (0) (u 131 15)) ∧ R (0) (940) (u 131 4) ∧ R (0) (4) (u 131 11) ∧ (τ 131 4).toInt ≤ (u 131 4).toInt ∧ (∀ j : Nat, (j : Int) < 4 * (τ 131 37).toInt → u 135 j = τ 135 j) ∧ (r.toInt = 1 → MBr u (4 * (τ 131 37).toInt).toNat) ∧ (r.toInt = 1 ∧ 1 ≤ (u 131 11).toInt ∧ (u 131 11).toInt ≤ 3 → (τ 131 4).toInt < (u 131 4).toInt) ∧ QM (sLg bb nb 400 an mn t ln) r u (fun g => MG bb nb 400 an mn u g)
set_option maxHeartbeats 4000000 in
set_option maxRecDepth 100000 in
theorem c_X12_logLine_t (l : Launch) (G : Gx) (τ : Tau) (hI : Inv τ) (hf_0 : R (0) (0) (τ 131 15)) (bb : Nat → Int) (nb : Nat) (an mn : List (List Int)) (t : Tk) (ln : Nat) (hR : MG bb nb 400 an mn τ t) (hln : (τ 131 37).toInt = ln) : Ci l G yX12_logLine cX12_logLine 4 (some .boolean) 4 87 [.ref (G.2.2.2.1 131)] τ (po_X12_logLine_t τ    bb nb an mn t ln) := by
  unfold Ci
  refine C_of (own := RX12) (by decide) rfl (Nat.le_of_ble_eq_true rfl) ?_
  intro p e s m below meth c ls S hr hlk X hl
  have hl : lv_has ls 4 [(0, .ref (G.2.2.2.1 131))] := hl
  obtain ⟨v1, z2⟩ : ∃ x, τ 131 15 = x := ⟨_, rfl⟩
  rw [z2] at hf_0
  obtain ⟨v3, z4⟩ : ∃ x, τ 131 4 = x := ⟨_, rfl⟩
  have r5 : R (0) (940) v3 := rd hI rfl z4
  obtain ⟨v6, z7⟩ : ∃ x, τ 131 11 = x := ⟨_, rfl⟩
  have r8 : R (0) (4) v6 := rd hI rfl z7
  obtain ⟨v9, z10⟩ : ∃ x, τ 131 37 = x := ⟨_, rfl⟩
  have r11 : R (0) (40) v9 := rd hI rfl z10
  have e12 : v9.toInt = (ln : Int) := by rw [← z10]; exact hln
  refine r_iconst S dX12_logLine_0 (by decide) (fun v13 z14 => ?_)
  have r15 := R_eq z14
  refine r_aload_n S dX12_logLine_1 rfl (lv_at hl 0 rfl) ?_
  refine r_geti (K := 38) S X (Nat.le_of_ble_eq_true rfl) rfl lk12_385_10 (fun _ => ⟨_, rfl, rfl⟩) z10 dX12_logLine_2 ?_
  refine r_imul S dX12_logLine_5 (fun v16 z17 => ?_)
  obtain ⟨e18, r19⟩ := i_mul (lo := 0) (hi := 160) z17 r15 r11 rfl rfl
  have e20 : v16.toInt = 4 * v9.toInt := by rw [e18, show v13.toInt = 4 by omega]
  refine r_istore_n (lv' := [(1, .int v16), (0, .ref (G.2.2.2.1 131))]) S dX12_logLine_6 rfl hl (by decide) rfl (fun ls hl => ?_)
  refine r_aload_n S dX12_logLine_7 rfl (lv_at hl 1 rfl) ?_
  refine lv_ldc2 S.1.1 S.1.2.1 S.1.2.2.2.1 (S.1.2.2.2.2 _ kw36) dX12_logLine_8 ?_
  refine lv_topl (fun j21 z22 => ?_)
  refine r_ki (q_V (As := [.long j21]) (rest := []) (K := 38) (ci := 10) S X (c_X12_isWord_q l G τ hI j21 bb nb 400 t (kwl.getD 8 []) hR.1 (by rw [z22]; decide +kernel) (kwl_at (by decide))) ck12_208 (Nat.le_of_ble_eq_true rfl) rfl (fun _ => ⟨_, rfl⟩) ⟨_, _, rfl⟩ ⟨Nat.le_of_ble_eq_true rfl, Nat.le_of_ble_eq_true rfl⟩ rfl hl.1 rfl (Nat.le_of_ble_eq_true rfl) dX12_logLine_11 ⟨Nat.le_refl 0, Nat.le_refl 0⟩) X (fun v26 t25 H lc q23 X24 => ?_)
  unfold po_X12_isWord_q at q23
  obtain ⟨q27, q28, q29⟩ := q23
  rw [q27] at X24
  refine r_if_eq (tgt := 21) S dX12_logLine_14 (by decide) (fun c30 => ?_) (fun c30 => ?_)
  ·
    have r31 : R (0) (0) v26 := ⟨by omega, by omega⟩
    have p32 := (iff_n q29) (by omega)
    refine r_aload_n S dX12_logLine_21 rfl (lv_at hl 1 rfl) ?_
    refine lv_ldc2 S.1.1 S.1.2.1 S.1.2.2.2.1 (S.1.2.2.2.2 _ kw37) dX12_logLine_22 ?_
    refine lv_topl (fun j33 z34 => ?_)
    refine r_ki (q_V (As := [.long j33]) (rest := []) (K := 38) (ci := 10) S X24 (c_X12_isWord_q l G τ hI j33 bb nb 400 t (kwl.getD 9 []) hR.1 (by rw [z34]; decide +kernel) (kwl_at (by decide))) ck12_208 (Nat.le_of_ble_eq_true rfl) rfl (fun _ => ⟨_, rfl⟩) ⟨_, _, rfl⟩ ⟨Nat.le_of_ble_eq_true rfl, Nat.le_of_ble_eq_true rfl⟩ rfl hl.1 rfl (Nat.le_of_ble_eq_true rfl) dX12_logLine_25 ⟨Nat.le_refl 0, Nat.le_refl 0⟩) X24 (fun v38 t37 H lc q35 X36 => ?_)
    unfold po_X12_isWord_q at q35
    obtain ⟨q39, q40, q41⟩ := q35
    rw [q39] at X36
    refine r_if_eq (tgt := 35) S dX12_logLine_28 (by decide) (fun c42 => ?_) (fun c42 => ?_)
    ·
      have r43 : R (0) (0) v38 := ⟨by omega, by omega⟩
      have p44 := (iff_n q41) (by omega)
      refine r_aload_n S dX12_logLine_35 rfl (lv_at hl 1 rfl) ?_
      refine lv_ldc2 S.1.1 S.1.2.1 S.1.2.2.2.1 (S.1.2.2.2.2 _ kw38) dX12_logLine_36 ?_
      refine lv_topl (fun j45 z46 => ?_)
      refine r_ki (q_V (As := [.long j45]) (rest := []) (K := 38) (ci := 10) S X36 (c_X12_isWord_q l G τ hI j45 bb nb 400 t (kwl.getD 10 []) hR.1 (by rw [z46]; decide +kernel) (kwl_at (by decide))) ck12_208 (Nat.le_of_ble_eq_true rfl) rfl (fun _ => ⟨_, rfl⟩) ⟨_, _, rfl⟩ ⟨Nat.le_of_ble_eq_true rfl, Nat.le_of_ble_eq_true rfl⟩ rfl hl.1 rfl (Nat.le_of_ble_eq_true rfl) dX12_logLine_39 ⟨Nat.le_refl 0, Nat.le_refl 0⟩) X36 (fun v50 t49 H lc q47 X48 => ?_)
      unfold po_X12_isWord_q at q47
      obtain ⟨q51, q52, q53⟩ := q47
      rw [q51] at X48
      refine r_if_eq (tgt := 49) S dX12_logLine_42 (by decide) (fun c54 => ?_) (fun c54 => ?_)
      ·
        have r55 : R (0) (0) v50 := ⟨by omega, by omega⟩
        have p56 := (iff_n q53) (by omega)
        refine r_iconst S dX12_logLine_49 (by decide) (fun v57 z58 => ?_)
        have r59 := R_eq z58
        refine r_istore_n (lv' := [(2, .int v57), (1, .int v16), (0, .ref (G.2.2.2.1 131))]) S dX12_logLine_50 rfl hl (by decide) rfl (fun ls hl => ?_)
        refine r_iload_n S dX12_logLine_51 rfl (lv_at hl 0 rfl) ?_
        refine r_if_lt (tgt := 142) S dX12_logLine_52 (by decide) (fun c60 => ?_) (fun c60 => ?_)
        ·
          refine r_aload_n S dX12_logLine_142 rfl (lv_at hl 2 rfl) ?_
          refine r_bipush S dX12_logLine_143 (by decide) (fun v61 z62 => ?_)
          have r63 := R_eq z62
          refine r_aload_n S dX12_logLine_145 rfl (lv_at hl 2 rfl) ?_
          refine r_get (K := 38) (v := .ref (G.2.2.2.1 133)) S X48 (Nat.le_of_ble_eq_true rfl) rfl lk12_33_10 (fun _ => ⟨_, rfl, rfl⟩) dX12_logLine_146 ?_
          refine r_iconst S dX12_logLine_149 (by decide) (fun v64 z65 => ?_)
          have r66 := R_eq z65
          refine r_aldn (n := 513) (K := 40) S X48 (Nat.le_of_ble_eq_true rfl) rfl (fun _ => rfl) (ix_of r66 rfl) dX12_logLine_150 (fun v67 z68 => ?_)
          have r69 : R (0) (10) v67 := rds (K := 40) (a := 1) (n := 1) hI rfl z68 (R_of r66 rfl) (by decide +kernel)
          refine r_ki (q_V (As := [.int v61, .int v67]) (rest := []) (K := 38) (ci := 10) S X48 (c_X12_looksAt_tm l G τ hI v61 v67 r63 r69 (by rw [z2]; exact R_of hf_0 rfl) bb nb an mn t hR (by have q := hR.2.2.1.1; rw [(zc (n := 1) (by omega) z68)] at q; exact q)) ck12_204 (Nat.le_of_ble_eq_true rfl) rfl (fun _ => ⟨_, rfl⟩) ⟨_, _, rfl⟩ ⟨Nat.le_of_ble_eq_true rfl, Nat.le_of_ble_eq_true rfl⟩ rfl hl.1 rfl (Nat.le_of_ble_eq_true rfl) dX12_logLine_151 ⟨Nat.le_refl 0, Nat.le_refl 0⟩) X48 (fun v73 t72 H lc q70 X71 => ?_)
          unfold po_X12_looksAt_tm at q70
          obtain ⟨q74, q75, q76, q77, q78, q79⟩ := q70
          have F80 : Fr [(131, 15), (131, 16), (131, 4), (131, 11), (131, 12), (131, 13), (131, 14), (131, 18), (131, 21)] [135, 331] τ t72 := Fr_call Fr_rfl q75 (by decide)
          have e81 := congrArg Int32.toInt z7
          have e82 := congrArg Int32.toInt ((q75 131 11 (by decide)).trans z7)
          refine r_if_ne (tgt := 159) S dX12_logLine_154 (by decide) (fun c83 => ?_) (fun c83 => ?_)
          ·
            have r84 : R (1) (1) v73 := ⟨by omega, by omega⟩
            obtain ⟨p85, p86⟩ := q77 (by omega)
            obtain ⟨v87, z88⟩ : ∃ x, t72 131 18 = x := ⟨_, rfl⟩
            rw [z88] at p85
            obtain ⟨v89, z90⟩ : ∃ x, t72 131 15 = x := ⟨_, rfl⟩
            rw [z90] at p86
            have p91 := (QM_1 q79) (by omega)
            obtain ⟨g92, e93, hP94⟩ := p91
            refine r_aload_n S dX12_logLine_159 rfl (lv_at hl 2 rfl) ?_
            refine r_geti (K := 38) S X71 (Nat.le_of_ble_eq_true rfl) rfl lk12_385_10 (fun _ => ⟨_, rfl, rfl⟩) ((q75 131 37 (by decide)).trans z10) dX12_logLine_160 ?_
            refine r_bipush S dX12_logLine_163 (by decide) (fun v95 z96 => ?_)
            have r97 := R_eq z96
            refine r_icmp_ne (tgt := 174) S dX12_logLine_165 (by decide) (fun c98 => ?_) (fun c98 => ?_)
            ·
              have r99 : R (0) (39) v9 := ⟨by omega, by omega⟩
              have r100 : R (0) (156) v16 := ⟨by omega, by omega⟩
              refine r_aload_n S dX12_logLine_174 rfl (lv_at hl 2 rfl) ?_
              refine r_get (K := 38) (v := .ref (G.2.2.2.1 135)) S X71 (Nat.le_of_ble_eq_true rfl) rfl lk12_40_10 (fun _ => ⟨_, rfl, rfl⟩) dX12_logLine_175 ?_
              refine r_iload_n S dX12_logLine_178 rfl (lv_at hl 1 rfl) ?_
              refine r_iconst S dX12_logLine_179 (by decide) (fun v101 z102 => ?_)
              have r103 := R_eq z102
              refine r_iadd S dX12_logLine_180 (fun v104 z105 => ?_)
              obtain ⟨e106, r107⟩ := i_add (lo := 1) (hi := 157) z105 r100 r103 rfl
              refine r_aload_n S dX12_logLine_181 rfl (lv_at hl 2 rfl) ?_
              refine r_geti (K := 38) S X71 (Nat.le_of_ble_eq_true rfl) rfl lk12_193_10 (fun _ => ⟨_, rfl, rfl⟩) z88 dX12_logLine_182 ?_
              have k108 : v104.toNatClampNeg = v16.toNatClampNeg + 1 := tnk 1 (by omega) (by omega)
              refine r_ast (n := 160) (K := 42) S X71 (Nat.le_of_ble_eq_true rfl) rfl (fun _ _ => rfl) (ix_of r107 rfl) dX12_logLine_185 (fun t109 H lc M110 X111 => ?_)
              have I112 := Inv_mu q74 M110 (R_any v87)
              have F113 : Fr [(131, 15), (131, 16), (131, 4), (131, 11), (131, 12), (131, 13), (131, 14), (131, 18), (131, 21)] [135, 331] τ t109 := Fr_cell F80 M110 (by decide)
              refine r_aload_n S dX12_logLine_186 rfl (lv_at hl 2 rfl) ?_
              refine r_kv (q_V (As := []) (rest := []) (K := 38) (ci := 10) S X111 (c_X12_skip_q l G t109 I112 bb nb 400 t.2.2 (MT_st (MG_fr hP94.2 ((M110.2 131 3 (Or.inl (by decide))).trans rfl) ((M110.2 131 4 (Or.inl (by decide))).trans rfl) ((M110.2 131 5 (Or.inl (by decide))).trans rfl) ((M110.2 131 11 (Or.inl (by decide))).trans rfl) ((M110.2 131 12 (Or.inl (by decide))).trans rfl) ((M110.2 131 14 (Or.inl (by decide))).trans rfl) (fun j => ((M110.2 132 j (Or.inl (by decide))).trans rfl)) (fun j => ((M110.2 331 j (Or.inl (by decide))).trans rfl)) ((M110.2 133 0 (Or.inl (by decide))).trans rfl) ((M110.2 133 1 (Or.inl (by decide))).trans rfl) (fun j => ((M110.2 336 j (Or.inl (by decide))).trans rfl)) (fun j => ((M110.2 337 j (Or.inl (by decide))).trans rfl))).1 (Or.inl (sLook_n e93).1)).1 (MT_st (MG_fr hP94.2 ((M110.2 131 3 (Or.inl (by decide))).trans rfl) ((M110.2 131 4 (Or.inl (by decide))).trans rfl) ((M110.2 131 5 (Or.inl (by decide))).trans rfl) ((M110.2 131 11 (Or.inl (by decide))).trans rfl) ((M110.2 131 12 (Or.inl (by decide))).trans rfl) ((M110.2 131 14 (Or.inl (by decide))).trans rfl) (fun j => ((M110.2 132 j (Or.inl (by decide))).trans rfl)) (fun j => ((M110.2 331 j (Or.inl (by decide))).trans rfl)) ((M110.2 133 0 (Or.inl (by decide))).trans rfl) ((M110.2 133 1 (Or.inl (by decide))).trans rfl) (fun j => ((M110.2 336 j (Or.inl (by decide))).trans rfl)) (fun j => ((M110.2 337 j (Or.inl (by decide))).trans rfl))).1 (Or.inl (sLook_n e93).1)).2.1 (MT_st (MG_fr hP94.2 ((M110.2 131 3 (Or.inl (by decide))).trans rfl) ((M110.2 131 4 (Or.inl (by decide))).trans rfl) ((M110.2 131 5 (Or.inl (by decide))).trans rfl) ((M110.2 131 11 (Or.inl (by decide))).trans rfl) ((M110.2 131 12 (Or.inl (by decide))).trans rfl) ((M110.2 131 14 (Or.inl (by decide))).trans rfl) (fun j => ((M110.2 132 j (Or.inl (by decide))).trans rfl)) (fun j => ((M110.2 331 j (Or.inl (by decide))).trans rfl)) ((M110.2 133 0 (Or.inl (by decide))).trans rfl) ((M110.2 133 1 (Or.inl (by decide))).trans rfl) (fun j => ((M110.2 336 j (Or.inl (by decide))).trans rfl)) (fun j => ((M110.2 337 j (Or.inl (by decide))).trans rfl))).1 (Or.inl (sLook_n e93).1)).2.2) ck12_186 (Nat.le_of_ble_eq_true rfl) rfl (fun _ => ⟨_, rfl⟩) ⟨_, _, rfl⟩ ⟨Nat.le_of_ble_eq_true rfl, Nat.le_of_ble_eq_true rfl⟩ rfl hl.1 rfl (Nat.le_of_ble_eq_true rfl) dX12_logLine_187 ⟨Nat.le_refl 0, Nat.le_refl 0⟩) X111 (fun t116 H lc q114 X115 => ?_)
              unfold po_X12_skip_q at q114
              obtain ⟨q117, q118, q119, q120, q121, q122, q123⟩ := q114
              have F124 : Fr [(131, 15), (131, 16), (131, 4), (131, 11), (131, 12), (131, 13), (131, 14), (131, 18), (131, 21)] [135, 331] τ t116 := Fr_call F113 q118 (by decide)
              obtain ⟨v125, z126⟩ : ∃ x, t116 131 4 = x := ⟨_, rfl⟩
              rw [z126] at q119
              obtain ⟨v127, z128⟩ : ∃ x, t116 131 11 = x := ⟨_, rfl⟩
              rw [z128] at q120
              have e129 := congrArg Int32.toInt ((M110.2 131 4 (Or.inl (by decide))).trans ((q75 131 4 (by decide)).trans z4))
              have e130 := congrArg Int32.toInt z126
              have e131 := congrArg Int32.toInt ((M110.2 131 4 (Or.inl (by decide))).trans ((q75 131 4 (by decide)).trans z4))
              have e132 := congrArg Int32.toInt z126
              have e133 := congrArg Int32.toInt ((M110.2 131 11 (Or.inl (by decide))).trans ((q75 131 11 (by decide)).trans z7))
              have e134 := congrArg Int32.toInt z128
              have hR135 : MG bb nb 400 an mn t116 (nx bb nb 400 t) := ⟨q123, NR_fr hP94.2.2 ((q118 133 0 (by decide)).trans ((M110.2 133 0 (Or.inl (by decide))).trans rfl)) ((q118 133 1 (by decide)).trans ((M110.2 133 1 (Or.inl (by decide))).trans rfl)) (fun j => ((q118 336 j (by simp [fz])).trans ((M110.2 336 j (Or.inl (by decide))).trans rfl))) (fun j => ((q118 337 j (by simp [fz])).trans ((M110.2 337 j (Or.inl (by decide))).trans rfl)))⟩
              refine r_aload_n S dX12_logLine_190 rfl (lv_at hl 2 rfl) ?_
              refine lv_ldc2 S.1.1 S.1.2.1 S.1.2.2.2.1 (S.1.2.2.2.2 _ kw39) dX12_logLine_191 ?_
              refine lv_topl (fun j136 z137 => ?_)
              refine r_ki (q_V (As := [.long j136]) (rest := []) (K := 38) (ci := 10) S X115 (c_X12_isWord_q l G t116 q117 j136 bb nb 400 (nx bb nb 400 t) (kwl.getD 11 []) hR135.1 (by rw [z137]; decide +kernel) (kwl_at (by decide))) ck12_208 (Nat.le_of_ble_eq_true rfl) rfl (fun _ => ⟨_, rfl⟩) ⟨_, _, rfl⟩ ⟨Nat.le_of_ble_eq_true rfl, Nat.le_of_ble_eq_true rfl⟩ rfl hl.1 rfl (Nat.le_of_ble_eq_true rfl) dX12_logLine_194 ⟨Nat.le_refl 0, Nat.le_refl 0⟩) X115 (fun v141 t140 H lc q138 X139 => ?_)
              unfold po_X12_isWord_q at q138
              obtain ⟨q142, q143, q144⟩ := q138
              rw [q142] at X139
              refine r_istore_n (lv' := [(3, .int v141), (2, .int v57), (1, .int v16), (0, .ref (G.2.2.2.1 131))]) S dX12_logLine_197 rfl hl (by decide) rfl (fun ls hl => ?_)
              refine r_iload_n S dX12_logLine_198 rfl (lv_at hl 0 rfl) ?_
              refine r_if_ne (tgt := 218) S dX12_logLine_199 (by decide) (fun c145 => ?_) (fun c145 => ?_)
              ·
                have r146 : R (1) (1) v141 := ⟨by omega, by omega⟩
                have p147 := (q144).mp (by omega)
                refine r_aload_n S dX12_logLine_218 rfl (lv_at hl 3 rfl) ?_
                refine r_get (K := 38) (v := .ref (G.2.2.2.1 135)) S X139 (Nat.le_of_ble_eq_true rfl) rfl lk12_40_10 (fun _ => ⟨_, rfl, rfl⟩) dX12_logLine_219 ?_
                refine r_iload_n S dX12_logLine_222 rfl (lv_at hl 2 rfl) ?_
                refine r_iload_n S dX12_logLine_223 rfl (lv_at hl 0 rfl) ?_
                refine r_if_eq (tgt := 231) S dX12_logLine_224 (by decide) (fun c148 => ?_) (fun c148 => ?_)
                ·
                  exfalso; omega
                ·
                  refine r_iconst S dX12_logLine_227 (by decide) (fun v149 z150 => ?_)
                  have r151 := R_eq z150
                  refine r_goto (tgt := 232) S dX12_logLine_228 (by decide) ?_
                  refine r_ast (n := 160) (K := 42) S X139 (Nat.le_of_ble_eq_true rfl) rfl (fun _ _ => rfl) (ix_of r100 rfl) dX12_logLine_232 (fun t153 H lc M154 X155 => ?_)
                  have I156 := Inv_mu q117 M154 (R_any v149)
                  have F157 : Fr [(131, 15), (131, 16), (131, 4), (131, 11), (131, 12), (131, 13), (131, 14), (131, 18), (131, 21)] [135, 331] τ t153 := Fr_cell F124 M154 (by decide)
                  refine r_aload_n S dX12_logLine_233 rfl (lv_at hl 3 rfl) ?_
                  refine r_kv (q_V (As := []) (rest := []) (K := 38) (ci := 10) S X155 (c_X12_skip_q l G t153 I156 bb nb 400 (nx bb nb 400 t).2.2 (MT_st (MG_fr hR135 ((M154.2 131 3 (Or.inl (by decide))).trans rfl) ((M154.2 131 4 (Or.inl (by decide))).trans rfl) ((M154.2 131 5 (Or.inl (by decide))).trans rfl) ((M154.2 131 11 (Or.inl (by decide))).trans rfl) ((M154.2 131 12 (Or.inl (by decide))).trans rfl) ((M154.2 131 14 (Or.inl (by decide))).trans rfl) (fun j => ((M154.2 132 j (Or.inl (by decide))).trans rfl)) (fun j => ((M154.2 331 j (Or.inl (by decide))).trans rfl)) ((M154.2 133 0 (Or.inl (by decide))).trans rfl) ((M154.2 133 1 (Or.inl (by decide))).trans rfl) (fun j => ((M154.2 336 j (Or.inl (by decide))).trans rfl)) (fun j => ((M154.2 337 j (Or.inl (by decide))).trans rfl))).1 (Or.inl p147.1)).1 (MT_st (MG_fr hR135 ((M154.2 131 3 (Or.inl (by decide))).trans rfl) ((M154.2 131 4 (Or.inl (by decide))).trans rfl) ((M154.2 131 5 (Or.inl (by decide))).trans rfl) ((M154.2 131 11 (Or.inl (by decide))).trans rfl) ((M154.2 131 12 (Or.inl (by decide))).trans rfl) ((M154.2 131 14 (Or.inl (by decide))).trans rfl) (fun j => ((M154.2 132 j (Or.inl (by decide))).trans rfl)) (fun j => ((M154.2 331 j (Or.inl (by decide))).trans rfl)) ((M154.2 133 0 (Or.inl (by decide))).trans rfl) ((M154.2 133 1 (Or.inl (by decide))).trans rfl) (fun j => ((M154.2 336 j (Or.inl (by decide))).trans rfl)) (fun j => ((M154.2 337 j (Or.inl (by decide))).trans rfl))).1 (Or.inl p147.1)).2.1 (MT_st (MG_fr hR135 ((M154.2 131 3 (Or.inl (by decide))).trans rfl) ((M154.2 131 4 (Or.inl (by decide))).trans rfl) ((M154.2 131 5 (Or.inl (by decide))).trans rfl) ((M154.2 131 11 (Or.inl (by decide))).trans rfl) ((M154.2 131 12 (Or.inl (by decide))).trans rfl) ((M154.2 131 14 (Or.inl (by decide))).trans rfl) (fun j => ((M154.2 132 j (Or.inl (by decide))).trans rfl)) (fun j => ((M154.2 331 j (Or.inl (by decide))).trans rfl)) ((M154.2 133 0 (Or.inl (by decide))).trans rfl) ((M154.2 133 1 (Or.inl (by decide))).trans rfl) (fun j => ((M154.2 336 j (Or.inl (by decide))).trans rfl)) (fun j => ((M154.2 337 j (Or.inl (by decide))).trans rfl))).1 (Or.inl p147.1)).2.2) ck12_186 (Nat.le_of_ble_eq_true rfl) rfl (fun _ => ⟨_, rfl⟩) ⟨_, _, rfl⟩ ⟨Nat.le_of_ble_eq_true rfl, Nat.le_of_ble_eq_true rfl⟩ rfl hl.1 rfl (Nat.le_of_ble_eq_true rfl) dX12_logLine_234 ⟨Nat.le_refl 0, Nat.le_refl 0⟩) X155 (fun t160 H lc q158 X159 => ?_)
                  unfold po_X12_skip_q at q158
                  obtain ⟨q161, q162, q163, q164, q165, q166, q167⟩ := q158
                  have F168 : Fr [(131, 15), (131, 16), (131, 4), (131, 11), (131, 12), (131, 13), (131, 14), (131, 18), (131, 21)] [135, 331] τ t160 := Fr_call F157 q162 (by decide)
                  obtain ⟨v169, z170⟩ : ∃ x, t160 131 4 = x := ⟨_, rfl⟩
                  rw [z170] at q163
                  obtain ⟨v171, z172⟩ : ∃ x, t160 131 11 = x := ⟨_, rfl⟩
                  rw [z172] at q164
                  have e173 := congrArg Int32.toInt ((M154.2 131 4 (Or.inl (by decide))).trans z126)
                  have e174 := congrArg Int32.toInt z170
                  have e175 := congrArg Int32.toInt ((M154.2 131 4 (Or.inl (by decide))).trans z126)
                  have e176 := congrArg Int32.toInt z170
                  have e177 := congrArg Int32.toInt ((M154.2 131 11 (Or.inl (by decide))).trans z128)
                  have e178 := congrArg Int32.toInt z172
                  have hR179 : MG bb nb 400 an mn t160 (nx bb nb 400 (nx bb nb 400 t)) := ⟨q167, NR_fr hR135.2 ((q162 133 0 (by decide)).trans ((M154.2 133 0 (Or.inl (by decide))).trans rfl)) ((q162 133 1 (by decide)).trans ((M154.2 133 1 (Or.inl (by decide))).trans rfl)) (fun j => ((q162 336 j (by simp [fz])).trans ((M154.2 336 j (Or.inl (by decide))).trans rfl))) (fun j => ((q162 337 j (by simp [fz])).trans ((M154.2 337 j (Or.inl (by decide))).trans rfl)))⟩
                  refine r_aload_n S dX12_logLine_237 rfl (lv_at hl 3 rfl) ?_
                  refine r_iconst S dX12_logLine_238 (by decide) (fun v180 z181 => ?_)
                  have r182 := R_eq z181
                  refine r_aload_n S dX12_logLine_239 rfl (lv_at hl 3 rfl) ?_
                  refine r_get (K := 38) (v := .ref (G.2.2.2.1 133)) S X159 (Nat.le_of_ble_eq_true rfl) rfl lk12_33_10 (fun _ => ⟨_, rfl, rfl⟩) dX12_logLine_240 ?_
                  refine r_iconst S dX12_logLine_243 (by decide) (fun v183 z184 => ?_)
                  have r185 := R_eq z184
                  refine r_aldn (n := 513) (K := 40) S X159 (Nat.le_of_ble_eq_true rfl) rfl (fun _ => rfl) (ix_of r185 rfl) dX12_logLine_244 (fun v186 z187 => ?_)
                  have r188 : R (0) (9) v186 := rds (K := 40) (a := 0) (n := 1) q161 rfl z187 (R_of r185 rfl) (by decide +kernel)
                  refine r_ki (q_V (As := [.int v180, .int v186]) (rest := []) (K := 38) (ci := 10) S X159 (c_X12_takesName_ta l G t160 q161 v180 v186 r182 r188 (by rw [((q162 131 15 (by decide)).trans ((M154.2 131 15 (Or.inl (by decide))).trans ((q118 131 15 (by decide)).trans ((M110.2 131 15 (Or.inl (by decide))).trans z90))))]; exact R_of p86 rfl) bb nb an mn (nx bb nb 400 (nx bb nb 400 t)) hR179 (by have q := hR179.2.1.1; rw [(zc (n := 0) (by omega) z187)] at q; exact q)) ck12_391 (Nat.le_of_ble_eq_true rfl) rfl (fun _ => ⟨_, rfl⟩) ⟨_, _, rfl⟩ ⟨Nat.le_of_ble_eq_true rfl, Nat.le_of_ble_eq_true rfl⟩ rfl hl.1 rfl (Nat.le_of_ble_eq_true rfl) dX12_logLine_245 ⟨Nat.le_refl 0, Nat.le_refl 0⟩) X159 (fun v192 t191 H lc q189 X190 => ?_)
                  unfold po_X12_takesName_ta at q189
                  obtain ⟨q193, q194, q195, q196, q197, q198, q199, q200, q201⟩ := q189
                  have F202 : Fr [(131, 15), (131, 16), (131, 4), (131, 11), (131, 12), (131, 13), (131, 14), (131, 18), (131, 21)] [135, 331] τ t191 := Fr_call F168 q194 (by decide)
                  obtain ⟨v203, z204⟩ : ∃ x, t191 131 4 = x := ⟨_, rfl⟩
                  rw [z204] at q197
                  obtain ⟨v205, z206⟩ : ∃ x, t191 131 11 = x := ⟨_, rfl⟩
                  rw [z206] at q198
                  have e207 := congrArg Int32.toInt z170
                  have e208 := congrArg Int32.toInt z204
                  have e209 := congrArg Int32.toInt z172
                  have e210 := congrArg Int32.toInt z206
                  refine r_if_ne (tgt := 253) S dX12_logLine_248 (by decide) (fun c211 => ?_) (fun c211 => ?_)
                  ·
                    have r212 : R (1) (1) v192 := ⟨by omega, by omega⟩
                    obtain ⟨p213, p214⟩ := q196 (by omega)
                    obtain ⟨v215, z216⟩ : ∃ x, t191 131 18 = x := ⟨_, rfl⟩
                    rw [z216] at p213
                    obtain ⟨v217, z218⟩ : ∃ x, t191 131 15 = x := ⟨_, rfl⟩
                    rw [z218] at p214
                    have p219 := (QM_1 q201) (by omega)
                    obtain ⟨g220, e221, hP222⟩ := p219
                    refine r_aload_n S dX12_logLine_253 rfl (lv_at hl 3 rfl) ?_
                    refine r_get (K := 38) (v := .ref (G.2.2.2.1 135)) S X190 (Nat.le_of_ble_eq_true rfl) rfl lk12_40_10 (fun _ => ⟨_, rfl, rfl⟩) dX12_logLine_254 ?_
                    refine r_iload_n S dX12_logLine_257 rfl (lv_at hl 2 rfl) ?_
                    refine r_iconst S dX12_logLine_258 (by decide) (fun v223 z224 => ?_)
                    have r225 := R_eq z224
                    refine r_iadd S dX12_logLine_259 (fun v226 z227 => ?_)
                    obtain ⟨e228, r229⟩ := i_add (lo := 2) (hi := 158) z227 r100 r225 rfl
                    refine r_aload_n S dX12_logLine_260 rfl (lv_at hl 3 rfl) ?_
                    refine r_geti (K := 38) S X190 (Nat.le_of_ble_eq_true rfl) rfl lk12_193_10 (fun _ => ⟨_, rfl, rfl⟩) z216 dX12_logLine_261 ?_
                    have k230 : v226.toNatClampNeg = v16.toNatClampNeg + 2 := tnk 2 (by omega) (by omega)
                    refine r_ast (n := 160) (K := 42) S X190 (Nat.le_of_ble_eq_true rfl) rfl (fun _ _ => rfl) (ix_of r229 rfl) dX12_logLine_264 (fun t231 H lc M232 X233 => ?_)
                    have I234 := Inv_mu q193 M232 (R_any v215)
                    have F235 : Fr [(131, 15), (131, 16), (131, 4), (131, 11), (131, 12), (131, 13), (131, 14), (131, 18), (131, 21)] [135, 331] τ t231 := Fr_cell F202 M232 (by decide)
                    refine r_aload_n S dX12_logLine_265 rfl (lv_at hl 3 rfl) ?_
                    refine r_iconst S dX12_logLine_266 (by decide) (fun v236 z237 => ?_)
                    have r238 := R_eq z237
                    refine r_ki (q_V (As := [.int v236]) (rest := []) (K := 38) (ci := 10) S X233 (c_X12_takesMind_t l G t231 I234 v236 r238 (by rw [((M232.2 131 15 (Or.inl (by decide))).trans z218)]; exact R_of p214 rfl) bb nb an mn g220 (MG_fr hP222 ((M232.2 131 3 (Or.inl (by decide))).trans rfl) ((M232.2 131 4 (Or.inl (by decide))).trans rfl) ((M232.2 131 5 (Or.inl (by decide))).trans rfl) ((M232.2 131 11 (Or.inl (by decide))).trans rfl) ((M232.2 131 12 (Or.inl (by decide))).trans rfl) ((M232.2 131 14 (Or.inl (by decide))).trans rfl) (fun j => ((M232.2 132 j (Or.inl (by decide))).trans rfl)) (fun j => ((M232.2 331 j (Or.inl (by decide))).trans rfl)) ((M232.2 133 0 (Or.inl (by decide))).trans rfl) ((M232.2 133 1 (Or.inl (by decide))).trans rfl) (fun j => ((M232.2 336 j (Or.inl (by decide))).trans rfl)) (fun j => ((M232.2 337 j (Or.inl (by decide))).trans rfl))) ) ck12_234 (Nat.le_of_ble_eq_true rfl) rfl (fun _ => ⟨_, rfl⟩) ⟨_, _, rfl⟩ ⟨Nat.le_of_ble_eq_true rfl, Nat.le_of_ble_eq_true rfl⟩ rfl hl.1 rfl (Nat.le_of_ble_eq_true rfl) dX12_logLine_267 ⟨Nat.le_refl 0, Nat.le_refl 0⟩) X233 (fun v242 t241 H lc q239 X240 => ?_)
                    unfold po_X12_takesMind_t at q239
                    obtain ⟨q243, q244, q245, q246, q247, q248, q249, q250, q251⟩ := q239
                    have F252 : Fr [(131, 15), (131, 16), (131, 4), (131, 11), (131, 12), (131, 13), (131, 14), (131, 18), (131, 21)] [135, 331] τ t241 := Fr_call F235 q244 (by decide)
                    obtain ⟨v253, z254⟩ : ∃ x, t241 131 4 = x := ⟨_, rfl⟩
                    rw [z254] at q247
                    obtain ⟨v255, z256⟩ : ∃ x, t241 131 11 = x := ⟨_, rfl⟩
                    rw [z256] at q248
                    have e257 := congrArg Int32.toInt ((M232.2 131 4 (Or.inl (by decide))).trans z204)
                    have e258 := congrArg Int32.toInt z254
                    have e259 := congrArg Int32.toInt ((M232.2 131 4 (Or.inl (by decide))).trans z204)
                    have e260 := congrArg Int32.toInt z254
                    refine r_if_ne (tgt := 275) S dX12_logLine_270 (by decide) (fun c261 => ?_) (fun c261 => ?_)
                    ·
                      have r262 : R (1) (1) v242 := ⟨by omega, by omega⟩
                      have p263 := q246 (by omega)
                      obtain ⟨v264, z265⟩ : ∃ x, t241 131 15 = x := ⟨_, rfl⟩
                      rw [z265] at p263
                      have p266 := (QM_1 q251) (by omega)
                      obtain ⟨g267, e268, hP269⟩ := p266
                      refine r_aload_n S dX12_logLine_275 rfl (lv_at hl 3 rfl) ?_
                      refine r_get (K := 38) (v := .ref (G.2.2.2.1 135)) S X240 (Nat.le_of_ble_eq_true rfl) rfl lk12_40_10 (fun _ => ⟨_, rfl, rfl⟩) dX12_logLine_276 ?_
                      refine r_iload_n S dX12_logLine_279 rfl (lv_at hl 2 rfl) ?_
                      refine r_iconst S dX12_logLine_280 (by decide) (fun v270 z271 => ?_)
                      have r272 := R_eq z271
                      refine r_iadd S dX12_logLine_281 (fun v273 z274 => ?_)
                      obtain ⟨e275, r276⟩ := i_add (lo := 3) (hi := 159) z274 r100 r272 rfl
                      refine r_aload_n S dX12_logLine_282 rfl (lv_at hl 3 rfl) ?_
                      refine r_getn (K := 38) S X240 (Nat.le_of_ble_eq_true rfl) rfl lk12_215_10 (fun _ => ⟨_, rfl, rfl⟩) dX12_logLine_283 (fun v277 z278 => ?_)
                      have r279 : R (-9) (9) v277 := rd q243 rfl z278
                      have k280 : v273.toNatClampNeg = v16.toNatClampNeg + 3 := tnk 3 (by omega) (by omega)
                      refine r_ast (n := 160) (K := 42) S X240 (Nat.le_of_ble_eq_true rfl) rfl (fun _ _ => rfl) (ix_of r276 rfl) dX12_logLine_286 (fun t281 H lc M282 X283 => ?_)
                      have I284 := Inv_mu q243 M282 (R_any v277)
                      have F285 : Fr [(131, 15), (131, 16), (131, 4), (131, 11), (131, 12), (131, 13), (131, 14), (131, 18), (131, 21)] [135, 331] τ t281 := Fr_cell F252 M282 (by decide)
                      refine r_iconst S dX12_logLine_287 (by decide) (fun v286 z287 => ?_)
                      have r288 := R_eq z287
                      exact r_ret S hr hlk X283 ⟨I284, F285, (R_of r288 rfl), (fun h => ⟨(by rw [((M282.2 131 37 (Or.inl (by decide))).trans ((q244 131 37 (by decide)).trans ((M232.2 131 37 (Or.inl (by decide))).trans ((q194 131 37 (by decide)).trans ((q162 131 37 (by decide)).trans ((M154.2 131 37 (Or.inl (by decide))).trans ((q118 131 37 (by decide)).trans ((M110.2 131 37 (Or.inl (by decide))).trans ((q75 131 37 (by decide)).trans z10)))))))))]; exact R_of r99 rfl), (by rw [((M282.2 131 15 (Or.inl (by decide))).trans z265)]; exact R_of p263 rfl)⟩), (by rw [((M282.2 131 4 (Or.inl (by decide))).trans z254)]; exact R_of q247 rfl), (by rw [((M282.2 131 11 (Or.inl (by decide))).trans z256)]; exact R_of q248 rfl), (by have h1_0 := congrArg Int32.toInt ((M282.2 131 4 (Or.inl (by decide))).trans z254); have h2_0 := congrArg Int32.toInt z4; omega), (fun j hj => by have ht := congrArg Int32.toInt z10; exact ((M282.2 135 j (Or.inr (by have q := tn (i := v273) (by omega); omega))).trans ((q244 135 j (by simp [fz])).trans ((M232.2 135 j (Or.inr (by have q := tn (i := v226) (by omega); omega))).trans ((q194 135 j (by simp [fz])).trans ((q162 135 j (by simp [fz])).trans ((M154.2 135 j (Or.inr (by have q := tn (i := v16) (by omega); omega))).trans ((q118 135 j (by simp [fz])).trans ((M110.2 135 j (Or.inr (by have q := tn (i := v104) (by omega); omega))).trans ((q75 135 j (by simp [fz])).trans rfl)))))))))), (fun h => by have ht := congrArg Int32.toInt z10; have hn : (4 * (τ 131 37).toInt).toNat = v16.toNatClampNeg + 0 := (by have q := tn (i := v16) (by omega); omega); rw [hn]; unfold MBr; have e0 := (show t281 135 (v16.toNatClampNeg + 0) = v149 from ((M282.2 135 (v16.toNatClampNeg + 0) (Or.inr (by omega))).trans ((q244 135 (v16.toNatClampNeg + 0) (by simp [fz])).trans ((M232.2 135 (v16.toNatClampNeg + 0) (Or.inr (by omega))).trans ((q194 135 (v16.toNatClampNeg + 0) (by simp [fz])).trans ((q162 135 (v16.toNatClampNeg + 0) (by simp [fz])).trans rfl))))).trans (at_k (f := t153 135) M154.1 (by omega))); have e1 : t281 135 (v16.toNatClampNeg + 0 + 1) = _ := (show t281 135 (v16.toNatClampNeg + 1) = v87 from ((M282.2 135 (v16.toNatClampNeg + 1) (Or.inr (by omega))).trans ((q244 135 (v16.toNatClampNeg + 1) (by simp [fz])).trans ((M232.2 135 (v16.toNatClampNeg + 1) (Or.inr (by omega))).trans ((q194 135 (v16.toNatClampNeg + 1) (by simp [fz])).trans ((q162 135 (v16.toNatClampNeg + 1) (by simp [fz])).trans ((M154.2 135 (v16.toNatClampNeg + 1) (Or.inr (by omega))).trans ((q118 135 (v16.toNatClampNeg + 1) (by simp [fz])).trans rfl))))))).trans (at_k (f := t109 135) M110.1 (by omega))); have e2 : t281 135 (v16.toNatClampNeg + 0 + 2) = _ := (show t281 135 (v16.toNatClampNeg + 2) = v215 from ((M282.2 135 (v16.toNatClampNeg + 2) (Or.inr (by omega))).trans ((q244 135 (v16.toNatClampNeg + 2) (by simp [fz])).trans rfl)).trans (at_k (f := t231 135) M232.1 (by omega))); have e3 : t281 135 (v16.toNatClampNeg + 0 + 3) = _ := (show t281 135 (v16.toNatClampNeg + 3) = v277 from rfl.trans (at_k (f := t281 135) M282.1 (by omega))); exact Or.inr (Or.inr (Or.inr ⟨by rw [e0]; omega, by rw [e1]; omega, by rw [e1]; omega, by rw [e2]; omega, by rw [e2]; omega, by rw [e3]; omega, by rw [e3]; omega⟩))), (by have h1_0 := congrArg Int32.toInt ((M282.2 131 4 (Or.inl (by decide))).trans z254); have h2_0 := congrArg Int32.toInt z4; have h1_1 := congrArg Int32.toInt ((M282.2 131 11 (Or.inl (by decide))).trans z256); have h2_1 := congrArg Int32.toInt z7; omega), (QM_r ((((((sLg_m p32 p44 p56).trans (thn_r e93)).trans (cif_neg (show ¬ 40 ≤ ln by omega))).trans (lSp_r (Or.inl p147))).trans (thn_r e221)).trans e268) (by omega) (MG_fr hP269 ((M282.2 131 3 (Or.inl (by decide))).trans rfl) ((M282.2 131 4 (Or.inl (by decide))).trans rfl) ((M282.2 131 5 (Or.inl (by decide))).trans rfl) ((M282.2 131 11 (Or.inl (by decide))).trans rfl) ((M282.2 131 12 (Or.inl (by decide))).trans rfl) ((M282.2 131 14 (Or.inl (by decide))).trans rfl) (fun j => ((M282.2 132 j (Or.inl (by decide))).trans rfl)) (fun j => ((M282.2 331 j (Or.inl (by decide))).trans rfl)) ((M282.2 133 0 (Or.inl (by decide))).trans rfl) ((M282.2 133 1 (Or.inl (by decide))).trans rfl) (fun j => ((M282.2 336 j (Or.inl (by decide))).trans rfl)) (fun j => ((M282.2 337 j (Or.inl (by decide))).trans rfl))))⟩ (nr_bool (R_of (lo := 0) (hi := 1) r288 rfl)) dX12_logLine_288
                    ·
                      have r289 : R (0) (0) v242 := ⟨by omega, by omega⟩
                      have p290 := (QM_0 q251) (by omega)
                      obtain ⟨q291, e292, h293, h294⟩ := p290
                      refine r_iconst S dX12_logLine_273 (by decide) (fun v295 z296 => ?_)
                      have r297 := R_eq z296
                      exact r_ret S hr hlk X240 ⟨q243, F252, (R_of r297 rfl), (fun h => by exfalso; omega), (by rw [z254]; exact R_of q247 rfl), (by rw [z256]; exact R_of q248 rfl), (by have h1_0 := congrArg Int32.toInt z254; have h2_0 := congrArg Int32.toInt z4; omega), (fun j hj => by have ht := congrArg Int32.toInt z10; exact ((q244 135 j (by simp [fz])).trans ((M232.2 135 j (Or.inr (by have q := tn (i := v226) (by omega); omega))).trans ((q194 135 j (by simp [fz])).trans ((q162 135 j (by simp [fz])).trans ((M154.2 135 j (Or.inr (by have q := tn (i := v16) (by omega); omega))).trans ((q118 135 j (by simp [fz])).trans ((M110.2 135 j (Or.inr (by have q := tn (i := v104) (by omega); omega))).trans ((q75 135 j (by simp [fz])).trans rfl))))))))), (fun h => by exfalso; omega), (by have h1_0 := congrArg Int32.toInt z254; have h2_0 := congrArg Int32.toInt z4; have h1_1 := congrArg Int32.toInt z256; have h2_1 := congrArg Int32.toInt z7; omega), (QM_l ((((((sLg_m p32 p44 p56).trans (thn_r e93)).trans (cif_neg (show ¬ 40 ≤ ln by omega))).trans (lSp_r (Or.inl p147))).trans (thn_r e221)).trans e292) (by omega) h293 h294)⟩ (nr_bool (R_of (lo := 0) (hi := 1) r297 rfl)) dX12_logLine_274
                  ·
                    have r298 : R (0) (0) v192 := ⟨by omega, by omega⟩
                    have p299 := (QM_0 q201) (by omega)
                    obtain ⟨q300, e301, h302, h303⟩ := p299
                    refine r_iconst S dX12_logLine_251 (by decide) (fun v304 z305 => ?_)
                    have r306 := R_eq z305
                    exact r_ret S hr hlk X190 ⟨q193, F202, (R_of r306 rfl), (fun h => by exfalso; omega), (by rw [z204]; exact R_of q197 rfl), (by rw [z206]; exact R_of q198 rfl), (by have h1_0 := congrArg Int32.toInt z204; have h2_0 := congrArg Int32.toInt z4; omega), (fun j hj => by have ht := congrArg Int32.toInt z10; exact ((q194 135 j (by simp [fz])).trans ((q162 135 j (by simp [fz])).trans ((M154.2 135 j (Or.inr (by have q := tn (i := v16) (by omega); omega))).trans ((q118 135 j (by simp [fz])).trans ((M110.2 135 j (Or.inr (by have q := tn (i := v104) (by omega); omega))).trans ((q75 135 j (by simp [fz])).trans rfl))))))), (fun h => by exfalso; omega), (by have h1_0 := congrArg Int32.toInt z204; have h2_0 := congrArg Int32.toInt z4; have h1_1 := congrArg Int32.toInt z206; have h2_1 := congrArg Int32.toInt z7; omega), (QM_l (((((sLg_m p32 p44 p56).trans (thn_r e93)).trans (cif_neg (show ¬ 40 ≤ ln by omega))).trans (lSp_r (Or.inl p147))).trans (thn_l e301)) (by omega) h302 h303)⟩ (nr_bool (R_of (lo := 0) (hi := 1) r306 rfl)) dX12_logLine_252
              ·
                have r307 : R (0) (0) v141 := ⟨by omega, by omega⟩
                have p308 := (iff_n q144) (by omega)
                refine r_aload_n S dX12_logLine_202 rfl (lv_at hl 3 rfl) ?_
                refine lv_ldc2 S.1.1 S.1.2.1 S.1.2.2.2.1 (S.1.2.2.2.2 _ kw40) dX12_logLine_203 ?_
                refine lv_topl (fun j309 z310 => ?_)
                refine r_ki (q_V (As := [.long j309]) (rest := []) (K := 38) (ci := 10) S X139 (c_X12_isWord_q l G t116 q117 j309 bb nb 400 (nx bb nb 400 t) (kwl.getD 12 []) hR135.1 (by rw [z310]; decide +kernel) (kwl_at (by decide))) ck12_208 (Nat.le_of_ble_eq_true rfl) rfl (fun _ => ⟨_, rfl⟩) ⟨_, _, rfl⟩ ⟨Nat.le_of_ble_eq_true rfl, Nat.le_of_ble_eq_true rfl⟩ rfl hl.1 rfl (Nat.le_of_ble_eq_true rfl) dX12_logLine_206 ⟨Nat.le_refl 0, Nat.le_refl 0⟩) X139 (fun v314 t313 H lc q311 X312 => ?_)
                unfold po_X12_isWord_q at q311
                obtain ⟨q315, q316, q317⟩ := q311
                rw [q315] at X312
                refine r_if_ne (tgt := 218) S dX12_logLine_209 (by decide) (fun c318 => ?_) (fun c318 => ?_)
                ·
                  have r319 : R (1) (1) v314 := ⟨by omega, by omega⟩
                  have p320 := (q317).mp (by omega)
                  refine r_aload_n S dX12_logLine_218 rfl (lv_at hl 3 rfl) ?_
                  refine r_get (K := 38) (v := .ref (G.2.2.2.1 135)) S X312 (Nat.le_of_ble_eq_true rfl) rfl lk12_40_10 (fun _ => ⟨_, rfl, rfl⟩) dX12_logLine_219 ?_
                  refine r_iload_n S dX12_logLine_222 rfl (lv_at hl 2 rfl) ?_
                  refine r_iload_n S dX12_logLine_223 rfl (lv_at hl 0 rfl) ?_
                  refine r_if_eq (tgt := 231) S dX12_logLine_224 (by decide) (fun c321 => ?_) (fun c321 => ?_)
                  ·
                    refine r_iconst S dX12_logLine_231 (by decide) (fun v322 z323 => ?_)
                    have r324 := R_eq z323
                    refine r_ast (n := 160) (K := 42) S X312 (Nat.le_of_ble_eq_true rfl) rfl (fun _ _ => rfl) (ix_of r100 rfl) dX12_logLine_232 (fun t326 H lc M327 X328 => ?_)
                    have I329 := Inv_mu q117 M327 (R_any v322)
                    have F330 : Fr [(131, 15), (131, 16), (131, 4), (131, 11), (131, 12), (131, 13), (131, 14), (131, 18), (131, 21)] [135, 331] τ t326 := Fr_cell F124 M327 (by decide)
                    refine r_aload_n S dX12_logLine_233 rfl (lv_at hl 3 rfl) ?_
                    refine r_kv (q_V (As := []) (rest := []) (K := 38) (ci := 10) S X328 (c_X12_skip_q l G t326 I329 bb nb 400 (nx bb nb 400 t).2.2 (MT_st (MG_fr hR135 ((M327.2 131 3 (Or.inl (by decide))).trans rfl) ((M327.2 131 4 (Or.inl (by decide))).trans rfl) ((M327.2 131 5 (Or.inl (by decide))).trans rfl) ((M327.2 131 11 (Or.inl (by decide))).trans rfl) ((M327.2 131 12 (Or.inl (by decide))).trans rfl) ((M327.2 131 14 (Or.inl (by decide))).trans rfl) (fun j => ((M327.2 132 j (Or.inl (by decide))).trans rfl)) (fun j => ((M327.2 331 j (Or.inl (by decide))).trans rfl)) ((M327.2 133 0 (Or.inl (by decide))).trans rfl) ((M327.2 133 1 (Or.inl (by decide))).trans rfl) (fun j => ((M327.2 336 j (Or.inl (by decide))).trans rfl)) (fun j => ((M327.2 337 j (Or.inl (by decide))).trans rfl))).1 (Or.inl p320.1)).1 (MT_st (MG_fr hR135 ((M327.2 131 3 (Or.inl (by decide))).trans rfl) ((M327.2 131 4 (Or.inl (by decide))).trans rfl) ((M327.2 131 5 (Or.inl (by decide))).trans rfl) ((M327.2 131 11 (Or.inl (by decide))).trans rfl) ((M327.2 131 12 (Or.inl (by decide))).trans rfl) ((M327.2 131 14 (Or.inl (by decide))).trans rfl) (fun j => ((M327.2 132 j (Or.inl (by decide))).trans rfl)) (fun j => ((M327.2 331 j (Or.inl (by decide))).trans rfl)) ((M327.2 133 0 (Or.inl (by decide))).trans rfl) ((M327.2 133 1 (Or.inl (by decide))).trans rfl) (fun j => ((M327.2 336 j (Or.inl (by decide))).trans rfl)) (fun j => ((M327.2 337 j (Or.inl (by decide))).trans rfl))).1 (Or.inl p320.1)).2.1 (MT_st (MG_fr hR135 ((M327.2 131 3 (Or.inl (by decide))).trans rfl) ((M327.2 131 4 (Or.inl (by decide))).trans rfl) ((M327.2 131 5 (Or.inl (by decide))).trans rfl) ((M327.2 131 11 (Or.inl (by decide))).trans rfl) ((M327.2 131 12 (Or.inl (by decide))).trans rfl) ((M327.2 131 14 (Or.inl (by decide))).trans rfl) (fun j => ((M327.2 132 j (Or.inl (by decide))).trans rfl)) (fun j => ((M327.2 331 j (Or.inl (by decide))).trans rfl)) ((M327.2 133 0 (Or.inl (by decide))).trans rfl) ((M327.2 133 1 (Or.inl (by decide))).trans rfl) (fun j => ((M327.2 336 j (Or.inl (by decide))).trans rfl)) (fun j => ((M327.2 337 j (Or.inl (by decide))).trans rfl))).1 (Or.inl p320.1)).2.2) ck12_186 (Nat.le_of_ble_eq_true rfl) rfl (fun _ => ⟨_, rfl⟩) ⟨_, _, rfl⟩ ⟨Nat.le_of_ble_eq_true rfl, Nat.le_of_ble_eq_true rfl⟩ rfl hl.1 rfl (Nat.le_of_ble_eq_true rfl) dX12_logLine_234 ⟨Nat.le_refl 0, Nat.le_refl 0⟩) X328 (fun t333 H lc q331 X332 => ?_)
                    unfold po_X12_skip_q at q331
                    obtain ⟨q334, q335, q336, q337, q338, q339, q340⟩ := q331
                    have F341 : Fr [(131, 15), (131, 16), (131, 4), (131, 11), (131, 12), (131, 13), (131, 14), (131, 18), (131, 21)] [135, 331] τ t333 := Fr_call F330 q335 (by decide)
                    obtain ⟨v342, z343⟩ : ∃ x, t333 131 4 = x := ⟨_, rfl⟩
                    rw [z343] at q336
                    obtain ⟨v344, z345⟩ : ∃ x, t333 131 11 = x := ⟨_, rfl⟩
                    rw [z345] at q337
                    have e346 := congrArg Int32.toInt ((M327.2 131 4 (Or.inl (by decide))).trans z126)
                    have e347 := congrArg Int32.toInt z343
                    have e348 := congrArg Int32.toInt ((M327.2 131 4 (Or.inl (by decide))).trans z126)
                    have e349 := congrArg Int32.toInt z343
                    have e350 := congrArg Int32.toInt ((M327.2 131 11 (Or.inl (by decide))).trans z128)
                    have e351 := congrArg Int32.toInt z345
                    have hR352 : MG bb nb 400 an mn t333 (nx bb nb 400 (nx bb nb 400 t)) := ⟨q340, NR_fr hR135.2 ((q335 133 0 (by decide)).trans ((M327.2 133 0 (Or.inl (by decide))).trans rfl)) ((q335 133 1 (by decide)).trans ((M327.2 133 1 (Or.inl (by decide))).trans rfl)) (fun j => ((q335 336 j (by simp [fz])).trans ((M327.2 336 j (Or.inl (by decide))).trans rfl))) (fun j => ((q335 337 j (by simp [fz])).trans ((M327.2 337 j (Or.inl (by decide))).trans rfl)))⟩
                    refine r_aload_n S dX12_logLine_237 rfl (lv_at hl 3 rfl) ?_
                    refine r_iconst S dX12_logLine_238 (by decide) (fun v353 z354 => ?_)
                    have r355 := R_eq z354
                    refine r_aload_n S dX12_logLine_239 rfl (lv_at hl 3 rfl) ?_
                    refine r_get (K := 38) (v := .ref (G.2.2.2.1 133)) S X332 (Nat.le_of_ble_eq_true rfl) rfl lk12_33_10 (fun _ => ⟨_, rfl, rfl⟩) dX12_logLine_240 ?_
                    refine r_iconst S dX12_logLine_243 (by decide) (fun v356 z357 => ?_)
                    have r358 := R_eq z357
                    refine r_aldn (n := 513) (K := 40) S X332 (Nat.le_of_ble_eq_true rfl) rfl (fun _ => rfl) (ix_of r358 rfl) dX12_logLine_244 (fun v359 z360 => ?_)
                    have r361 : R (0) (9) v359 := rds (K := 40) (a := 0) (n := 1) q334 rfl z360 (R_of r358 rfl) (by decide +kernel)
                    refine r_ki (q_V (As := [.int v353, .int v359]) (rest := []) (K := 38) (ci := 10) S X332 (c_X12_takesName_ta l G t333 q334 v353 v359 r355 r361 (by rw [((q335 131 15 (by decide)).trans ((M327.2 131 15 (Or.inl (by decide))).trans ((q118 131 15 (by decide)).trans ((M110.2 131 15 (Or.inl (by decide))).trans z90))))]; exact R_of p86 rfl) bb nb an mn (nx bb nb 400 (nx bb nb 400 t)) hR352 (by have q := hR352.2.1.1; rw [(zc (n := 0) (by omega) z360)] at q; exact q)) ck12_391 (Nat.le_of_ble_eq_true rfl) rfl (fun _ => ⟨_, rfl⟩) ⟨_, _, rfl⟩ ⟨Nat.le_of_ble_eq_true rfl, Nat.le_of_ble_eq_true rfl⟩ rfl hl.1 rfl (Nat.le_of_ble_eq_true rfl) dX12_logLine_245 ⟨Nat.le_refl 0, Nat.le_refl 0⟩) X332 (fun v365 t364 H lc q362 X363 => ?_)
                    unfold po_X12_takesName_ta at q362
                    obtain ⟨q366, q367, q368, q369, q370, q371, q372, q373, q374⟩ := q362
                    have F375 : Fr [(131, 15), (131, 16), (131, 4), (131, 11), (131, 12), (131, 13), (131, 14), (131, 18), (131, 21)] [135, 331] τ t364 := Fr_call F341 q367 (by decide)
                    obtain ⟨v376, z377⟩ : ∃ x, t364 131 4 = x := ⟨_, rfl⟩
                    rw [z377] at q370
                    obtain ⟨v378, z379⟩ : ∃ x, t364 131 11 = x := ⟨_, rfl⟩
                    rw [z379] at q371
                    have e380 := congrArg Int32.toInt z343
                    have e381 := congrArg Int32.toInt z377
                    have e382 := congrArg Int32.toInt z345
                    have e383 := congrArg Int32.toInt z379
                    refine r_if_ne (tgt := 253) S dX12_logLine_248 (by decide) (fun c384 => ?_) (fun c384 => ?_)
                    ·
                      have r385 : R (1) (1) v365 := ⟨by omega, by omega⟩
                      obtain ⟨p386, p387⟩ := q369 (by omega)
                      obtain ⟨v388, z389⟩ : ∃ x, t364 131 18 = x := ⟨_, rfl⟩
                      rw [z389] at p386
                      obtain ⟨v390, z391⟩ : ∃ x, t364 131 15 = x := ⟨_, rfl⟩
                      rw [z391] at p387
                      have p392 := (QM_1 q374) (by omega)
                      obtain ⟨g393, e394, hP395⟩ := p392
                      refine r_aload_n S dX12_logLine_253 rfl (lv_at hl 3 rfl) ?_
                      refine r_get (K := 38) (v := .ref (G.2.2.2.1 135)) S X363 (Nat.le_of_ble_eq_true rfl) rfl lk12_40_10 (fun _ => ⟨_, rfl, rfl⟩) dX12_logLine_254 ?_
                      refine r_iload_n S dX12_logLine_257 rfl (lv_at hl 2 rfl) ?_
                      refine r_iconst S dX12_logLine_258 (by decide) (fun v396 z397 => ?_)
                      have r398 := R_eq z397
                      refine r_iadd S dX12_logLine_259 (fun v399 z400 => ?_)
                      obtain ⟨e401, r402⟩ := i_add (lo := 2) (hi := 158) z400 r100 r398 rfl
                      refine r_aload_n S dX12_logLine_260 rfl (lv_at hl 3 rfl) ?_
                      refine r_geti (K := 38) S X363 (Nat.le_of_ble_eq_true rfl) rfl lk12_193_10 (fun _ => ⟨_, rfl, rfl⟩) z389 dX12_logLine_261 ?_
                      have k403 : v399.toNatClampNeg = v16.toNatClampNeg + 2 := tnk 2 (by omega) (by omega)
                      refine r_ast (n := 160) (K := 42) S X363 (Nat.le_of_ble_eq_true rfl) rfl (fun _ _ => rfl) (ix_of r402 rfl) dX12_logLine_264 (fun t404 H lc M405 X406 => ?_)
                      have I407 := Inv_mu q366 M405 (R_any v388)
                      have F408 : Fr [(131, 15), (131, 16), (131, 4), (131, 11), (131, 12), (131, 13), (131, 14), (131, 18), (131, 21)] [135, 331] τ t404 := Fr_cell F375 M405 (by decide)
                      refine r_aload_n S dX12_logLine_265 rfl (lv_at hl 3 rfl) ?_
                      refine r_iconst S dX12_logLine_266 (by decide) (fun v409 z410 => ?_)
                      have r411 := R_eq z410
                      refine r_ki (q_V (As := [.int v409]) (rest := []) (K := 38) (ci := 10) S X406 (c_X12_takesMind_t l G t404 I407 v409 r411 (by rw [((M405.2 131 15 (Or.inl (by decide))).trans z391)]; exact R_of p387 rfl) bb nb an mn g393 (MG_fr hP395 ((M405.2 131 3 (Or.inl (by decide))).trans rfl) ((M405.2 131 4 (Or.inl (by decide))).trans rfl) ((M405.2 131 5 (Or.inl (by decide))).trans rfl) ((M405.2 131 11 (Or.inl (by decide))).trans rfl) ((M405.2 131 12 (Or.inl (by decide))).trans rfl) ((M405.2 131 14 (Or.inl (by decide))).trans rfl) (fun j => ((M405.2 132 j (Or.inl (by decide))).trans rfl)) (fun j => ((M405.2 331 j (Or.inl (by decide))).trans rfl)) ((M405.2 133 0 (Or.inl (by decide))).trans rfl) ((M405.2 133 1 (Or.inl (by decide))).trans rfl) (fun j => ((M405.2 336 j (Or.inl (by decide))).trans rfl)) (fun j => ((M405.2 337 j (Or.inl (by decide))).trans rfl))) ) ck12_234 (Nat.le_of_ble_eq_true rfl) rfl (fun _ => ⟨_, rfl⟩) ⟨_, _, rfl⟩ ⟨Nat.le_of_ble_eq_true rfl, Nat.le_of_ble_eq_true rfl⟩ rfl hl.1 rfl (Nat.le_of_ble_eq_true rfl) dX12_logLine_267 ⟨Nat.le_refl 0, Nat.le_refl 0⟩) X406 (fun v415 t414 H lc q412 X413 => ?_)
                      unfold po_X12_takesMind_t at q412
                      obtain ⟨q416, q417, q418, q419, q420, q421, q422, q423, q424⟩ := q412
                      have F425 : Fr [(131, 15), (131, 16), (131, 4), (131, 11), (131, 12), (131, 13), (131, 14), (131, 18), (131, 21)] [135, 331] τ t414 := Fr_call F408 q417 (by decide)
                      obtain ⟨v426, z427⟩ : ∃ x, t414 131 4 = x := ⟨_, rfl⟩
                      rw [z427] at q420
                      obtain ⟨v428, z429⟩ : ∃ x, t414 131 11 = x := ⟨_, rfl⟩
                      rw [z429] at q421
                      have e430 := congrArg Int32.toInt ((M405.2 131 4 (Or.inl (by decide))).trans z377)
                      have e431 := congrArg Int32.toInt z427
                      have e432 := congrArg Int32.toInt ((M405.2 131 4 (Or.inl (by decide))).trans z377)
                      have e433 := congrArg Int32.toInt z427
                      refine r_if_ne (tgt := 275) S dX12_logLine_270 (by decide) (fun c434 => ?_) (fun c434 => ?_)
                      ·
                        have r435 : R (1) (1) v415 := ⟨by omega, by omega⟩
                        have p436 := q419 (by omega)
                        obtain ⟨v437, z438⟩ : ∃ x, t414 131 15 = x := ⟨_, rfl⟩
                        rw [z438] at p436
                        have p439 := (QM_1 q424) (by omega)
                        obtain ⟨g440, e441, hP442⟩ := p439
                        refine r_aload_n S dX12_logLine_275 rfl (lv_at hl 3 rfl) ?_
                        refine r_get (K := 38) (v := .ref (G.2.2.2.1 135)) S X413 (Nat.le_of_ble_eq_true rfl) rfl lk12_40_10 (fun _ => ⟨_, rfl, rfl⟩) dX12_logLine_276 ?_
                        refine r_iload_n S dX12_logLine_279 rfl (lv_at hl 2 rfl) ?_
                        refine r_iconst S dX12_logLine_280 (by decide) (fun v443 z444 => ?_)
                        have r445 := R_eq z444
                        refine r_iadd S dX12_logLine_281 (fun v446 z447 => ?_)
                        obtain ⟨e448, r449⟩ := i_add (lo := 3) (hi := 159) z447 r100 r445 rfl
                        refine r_aload_n S dX12_logLine_282 rfl (lv_at hl 3 rfl) ?_
                        refine r_getn (K := 38) S X413 (Nat.le_of_ble_eq_true rfl) rfl lk12_215_10 (fun _ => ⟨_, rfl, rfl⟩) dX12_logLine_283 (fun v450 z451 => ?_)
                        have r452 : R (-9) (9) v450 := rd q416 rfl z451
                        have k453 : v446.toNatClampNeg = v16.toNatClampNeg + 3 := tnk 3 (by omega) (by omega)
                        refine r_ast (n := 160) (K := 42) S X413 (Nat.le_of_ble_eq_true rfl) rfl (fun _ _ => rfl) (ix_of r449 rfl) dX12_logLine_286 (fun t454 H lc M455 X456 => ?_)
                        have I457 := Inv_mu q416 M455 (R_any v450)
                        have F458 : Fr [(131, 15), (131, 16), (131, 4), (131, 11), (131, 12), (131, 13), (131, 14), (131, 18), (131, 21)] [135, 331] τ t454 := Fr_cell F425 M455 (by decide)
                        refine r_iconst S dX12_logLine_287 (by decide) (fun v459 z460 => ?_)
                        have r461 := R_eq z460
                        exact r_ret S hr hlk X456 ⟨I457, F458, (R_of r461 rfl), (fun h => ⟨(by rw [((M455.2 131 37 (Or.inl (by decide))).trans ((q417 131 37 (by decide)).trans ((M405.2 131 37 (Or.inl (by decide))).trans ((q367 131 37 (by decide)).trans ((q335 131 37 (by decide)).trans ((M327.2 131 37 (Or.inl (by decide))).trans ((q118 131 37 (by decide)).trans ((M110.2 131 37 (Or.inl (by decide))).trans ((q75 131 37 (by decide)).trans z10)))))))))]; exact R_of r99 rfl), (by rw [((M455.2 131 15 (Or.inl (by decide))).trans z438)]; exact R_of p436 rfl)⟩), (by rw [((M455.2 131 4 (Or.inl (by decide))).trans z427)]; exact R_of q420 rfl), (by rw [((M455.2 131 11 (Or.inl (by decide))).trans z429)]; exact R_of q421 rfl), (by have h1_0 := congrArg Int32.toInt ((M455.2 131 4 (Or.inl (by decide))).trans z427); have h2_0 := congrArg Int32.toInt z4; omega), (fun j hj => by have ht := congrArg Int32.toInt z10; exact ((M455.2 135 j (Or.inr (by have q := tn (i := v446) (by omega); omega))).trans ((q417 135 j (by simp [fz])).trans ((M405.2 135 j (Or.inr (by have q := tn (i := v399) (by omega); omega))).trans ((q367 135 j (by simp [fz])).trans ((q335 135 j (by simp [fz])).trans ((M327.2 135 j (Or.inr (by have q := tn (i := v16) (by omega); omega))).trans ((q118 135 j (by simp [fz])).trans ((M110.2 135 j (Or.inr (by have q := tn (i := v104) (by omega); omega))).trans ((q75 135 j (by simp [fz])).trans rfl)))))))))), (fun h => by have ht := congrArg Int32.toInt z10; have hn : (4 * (τ 131 37).toInt).toNat = v16.toNatClampNeg + 0 := (by have q := tn (i := v16) (by omega); omega); rw [hn]; unfold MBr; have e0 := (show t454 135 (v16.toNatClampNeg + 0) = v322 from ((M455.2 135 (v16.toNatClampNeg + 0) (Or.inr (by omega))).trans ((q417 135 (v16.toNatClampNeg + 0) (by simp [fz])).trans ((M405.2 135 (v16.toNatClampNeg + 0) (Or.inr (by omega))).trans ((q367 135 (v16.toNatClampNeg + 0) (by simp [fz])).trans ((q335 135 (v16.toNatClampNeg + 0) (by simp [fz])).trans rfl))))).trans (at_k (f := t326 135) M327.1 (by omega))); have e1 : t454 135 (v16.toNatClampNeg + 0 + 1) = _ := (show t454 135 (v16.toNatClampNeg + 1) = v87 from ((M455.2 135 (v16.toNatClampNeg + 1) (Or.inr (by omega))).trans ((q417 135 (v16.toNatClampNeg + 1) (by simp [fz])).trans ((M405.2 135 (v16.toNatClampNeg + 1) (Or.inr (by omega))).trans ((q367 135 (v16.toNatClampNeg + 1) (by simp [fz])).trans ((q335 135 (v16.toNatClampNeg + 1) (by simp [fz])).trans ((M327.2 135 (v16.toNatClampNeg + 1) (Or.inr (by omega))).trans ((q118 135 (v16.toNatClampNeg + 1) (by simp [fz])).trans rfl))))))).trans (at_k (f := t109 135) M110.1 (by omega))); have e2 : t454 135 (v16.toNatClampNeg + 0 + 2) = _ := (show t454 135 (v16.toNatClampNeg + 2) = v388 from ((M455.2 135 (v16.toNatClampNeg + 2) (Or.inr (by omega))).trans ((q417 135 (v16.toNatClampNeg + 2) (by simp [fz])).trans rfl)).trans (at_k (f := t404 135) M405.1 (by omega))); have e3 : t454 135 (v16.toNatClampNeg + 0 + 3) = _ := (show t454 135 (v16.toNatClampNeg + 3) = v450 from rfl.trans (at_k (f := t454 135) M455.1 (by omega))); exact Or.inr (Or.inr (Or.inr ⟨by rw [e0]; omega, by rw [e1]; omega, by rw [e1]; omega, by rw [e2]; omega, by rw [e2]; omega, by rw [e3]; omega, by rw [e3]; omega⟩))), (by have h1_0 := congrArg Int32.toInt ((M455.2 131 4 (Or.inl (by decide))).trans z427); have h2_0 := congrArg Int32.toInt z4; have h1_1 := congrArg Int32.toInt ((M455.2 131 11 (Or.inl (by decide))).trans z429); have h2_1 := congrArg Int32.toInt z7; omega), (QM_r ((((((sLg_m p32 p44 p56).trans (thn_r e93)).trans (cif_neg (show ¬ 40 ≤ ln by omega))).trans (lSp_r (Or.inr p320))).trans (thn_r e394)).trans e441) (by omega) (MG_fr hP442 ((M455.2 131 3 (Or.inl (by decide))).trans rfl) ((M455.2 131 4 (Or.inl (by decide))).trans rfl) ((M455.2 131 5 (Or.inl (by decide))).trans rfl) ((M455.2 131 11 (Or.inl (by decide))).trans rfl) ((M455.2 131 12 (Or.inl (by decide))).trans rfl) ((M455.2 131 14 (Or.inl (by decide))).trans rfl) (fun j => ((M455.2 132 j (Or.inl (by decide))).trans rfl)) (fun j => ((M455.2 331 j (Or.inl (by decide))).trans rfl)) ((M455.2 133 0 (Or.inl (by decide))).trans rfl) ((M455.2 133 1 (Or.inl (by decide))).trans rfl) (fun j => ((M455.2 336 j (Or.inl (by decide))).trans rfl)) (fun j => ((M455.2 337 j (Or.inl (by decide))).trans rfl))))⟩ (nr_bool (R_of (lo := 0) (hi := 1) r461 rfl)) dX12_logLine_288
                      ·
                        have r462 : R (0) (0) v415 := ⟨by omega, by omega⟩
                        have p463 := (QM_0 q424) (by omega)
                        obtain ⟨q464, e465, h466, h467⟩ := p463
                        refine r_iconst S dX12_logLine_273 (by decide) (fun v468 z469 => ?_)
                        have r470 := R_eq z469
                        exact r_ret S hr hlk X413 ⟨q416, F425, (R_of r470 rfl), (fun h => by exfalso; omega), (by rw [z427]; exact R_of q420 rfl), (by rw [z429]; exact R_of q421 rfl), (by have h1_0 := congrArg Int32.toInt z427; have h2_0 := congrArg Int32.toInt z4; omega), (fun j hj => by have ht := congrArg Int32.toInt z10; exact ((q417 135 j (by simp [fz])).trans ((M405.2 135 j (Or.inr (by have q := tn (i := v399) (by omega); omega))).trans ((q367 135 j (by simp [fz])).trans ((q335 135 j (by simp [fz])).trans ((M327.2 135 j (Or.inr (by have q := tn (i := v16) (by omega); omega))).trans ((q118 135 j (by simp [fz])).trans ((M110.2 135 j (Or.inr (by have q := tn (i := v104) (by omega); omega))).trans ((q75 135 j (by simp [fz])).trans rfl))))))))), (fun h => by exfalso; omega), (by have h1_0 := congrArg Int32.toInt z427; have h2_0 := congrArg Int32.toInt z4; have h1_1 := congrArg Int32.toInt z429; have h2_1 := congrArg Int32.toInt z7; omega), (QM_l ((((((sLg_m p32 p44 p56).trans (thn_r e93)).trans (cif_neg (show ¬ 40 ≤ ln by omega))).trans (lSp_r (Or.inr p320))).trans (thn_r e394)).trans e465) (by omega) h466 h467)⟩ (nr_bool (R_of (lo := 0) (hi := 1) r470 rfl)) dX12_logLine_274
                    ·
                      have r471 : R (0) (0) v365 := ⟨by omega, by omega⟩
                      have p472 := (QM_0 q374) (by omega)
                      obtain ⟨q473, e474, h475, h476⟩ := p472
                      refine r_iconst S dX12_logLine_251 (by decide) (fun v477 z478 => ?_)
                      have r479 := R_eq z478
                      exact r_ret S hr hlk X363 ⟨q366, F375, (R_of r479 rfl), (fun h => by exfalso; omega), (by rw [z377]; exact R_of q370 rfl), (by rw [z379]; exact R_of q371 rfl), (by have h1_0 := congrArg Int32.toInt z377; have h2_0 := congrArg Int32.toInt z4; omega), (fun j hj => by have ht := congrArg Int32.toInt z10; exact ((q367 135 j (by simp [fz])).trans ((q335 135 j (by simp [fz])).trans ((M327.2 135 j (Or.inr (by have q := tn (i := v16) (by omega); omega))).trans ((q118 135 j (by simp [fz])).trans ((M110.2 135 j (Or.inr (by have q := tn (i := v104) (by omega); omega))).trans ((q75 135 j (by simp [fz])).trans rfl))))))), (fun h => by exfalso; omega), (by have h1_0 := congrArg Int32.toInt z377; have h2_0 := congrArg Int32.toInt z4; have h1_1 := congrArg Int32.toInt z379; have h2_1 := congrArg Int32.toInt z7; omega), (QM_l (((((sLg_m p32 p44 p56).trans (thn_r e93)).trans (cif_neg (show ¬ 40 ≤ ln by omega))).trans (lSp_r (Or.inr p320))).trans (thn_l e474)) (by omega) h475 h476)⟩ (nr_bool (R_of (lo := 0) (hi := 1) r479 rfl)) dX12_logLine_252
                  ·
                    exfalso; omega
                ·
                  have r480 : R (0) (0) v314 := ⟨by omega, by omega⟩
                  have p481 := (iff_n q317) (by omega)
                  refine r_aload_n S dX12_logLine_212 rfl (lv_at hl 3 rfl) ?_
                  refine r_iconst S dX12_logLine_213 (by decide) (fun v482 z483 => ?_)
                  have r484 := R_eq z483
                  refine r_ki (q_V (As := [.int v482]) (rest := []) (K := 38) (ci := 10) S X312 (c_X12_bad_q l G t116 q117 v482 (R_of (lo := -2147483648) (hi := 2147483647) r484 rfl)) ck12_183 (Nat.le_of_ble_eq_true rfl) rfl (fun _ => ⟨_, rfl⟩) ⟨_, _, rfl⟩ ⟨Nat.le_of_ble_eq_true rfl, Nat.le_of_ble_eq_true rfl⟩ rfl hl.1 rfl (Nat.le_of_ble_eq_true rfl) dX12_logLine_214 ⟨Nat.le_refl 0, Nat.le_refl 0⟩) X312 (fun v488 t487 H lc q485 X486 => ?_)
                  unfold po_X12_bad_q at q485
                  obtain ⟨q489, q490, q491, q492⟩ := q485
                  have F493 : Fr [(131, 15), (131, 16), (131, 4), (131, 11), (131, 12), (131, 13), (131, 14), (131, 18), (131, 21)] [135, 331] τ t487 := Fr_call F124 q490 (by decide)
                  exact r_ret S hr hlk X486 ⟨q489, F493, (R_of q491 rfl), (fun h => by exfalso; omega), (by rw [((q490 131 4 (by decide)).trans z126)]; exact R_of q119 rfl), (by rw [((q490 131 11 (by decide)).trans z128)]; exact R_of q120 rfl), (by have h1_0 := congrArg Int32.toInt ((q490 131 4 (by decide)).trans z126); have h2_0 := congrArg Int32.toInt z4; omega), (fun j hj => by have ht := congrArg Int32.toInt z10; exact ((q490 135 j (by simp [fz])).trans ((q118 135 j (by simp [fz])).trans ((M110.2 135 j (Or.inr (by have q := tn (i := v104) (by omega); omega))).trans ((q75 135 j (by simp [fz])).trans rfl))))), (fun h => by exfalso; omega), (by have h1_0 := congrArg Int32.toInt ((q490 131 4 (by decide)).trans z126); have h2_0 := congrArg Int32.toInt z4; have h1_1 := congrArg Int32.toInt ((q490 131 11 (by decide)).trans z128); have h2_1 := congrArg Int32.toInt z7; omega), (QM_b ((((sLg_m p32 p44 p56).trans (thn_r e93)).trans (cif_neg (show ¬ 40 ≤ ln by omega))).trans (lSp_b p308 p481)) (by omega) (by rw [q492.1]; omega) (by rw [q492.2]; exact MG_at hR135))⟩ (nr_bool (R_of (lo := 0) (hi := 1) q491 rfl)) dX12_logLine_217
            ·
              have r494 : R (40) (40) v9 := ⟨by omega, by omega⟩
              refine r_aload_n S dX12_logLine_168 rfl (lv_at hl 2 rfl) ?_
              refine r_iconst S dX12_logLine_169 (by decide) (fun v495 z496 => ?_)
              have r497 := R_eq z496
              refine r_ki (q_V (As := [.int v495]) (rest := []) (K := 38) (ci := 10) S X71 (c_X12_bad_q l G t72 q74 v495 (R_of (lo := -2147483648) (hi := 2147483647) r497 rfl)) ck12_183 (Nat.le_of_ble_eq_true rfl) rfl (fun _ => ⟨_, rfl⟩) ⟨_, _, rfl⟩ ⟨Nat.le_of_ble_eq_true rfl, Nat.le_of_ble_eq_true rfl⟩ rfl hl.1 rfl (Nat.le_of_ble_eq_true rfl) dX12_logLine_170 ⟨Nat.le_refl 0, Nat.le_refl 0⟩) X71 (fun v501 t500 H lc q498 X499 => ?_)
              unfold po_X12_bad_q at q498
              obtain ⟨q502, q503, q504, q505⟩ := q498
              have F506 : Fr [(131, 15), (131, 16), (131, 4), (131, 11), (131, 12), (131, 13), (131, 14), (131, 18), (131, 21)] [135, 331] τ t500 := Fr_call F80 q503 (by decide)
              exact r_ret S hr hlk X499 ⟨q502, F506, (R_of q504 rfl), (fun h => by exfalso; omega), (by rw [((q503 131 4 (by decide)).trans ((q75 131 4 (by decide)).trans z4))]; exact R_of r5 rfl), (by rw [((q503 131 11 (by decide)).trans ((q75 131 11 (by decide)).trans z7))]; exact R_of r8 rfl), (by have h1_0 := congrArg Int32.toInt ((q503 131 4 (by decide)).trans ((q75 131 4 (by decide)).trans z4)); have h2_0 := congrArg Int32.toInt z4; omega), (fun j hj => by have ht := congrArg Int32.toInt z10; exact ((q503 135 j (by simp [fz])).trans ((q75 135 j (by simp [fz])).trans rfl))), (fun h => by exfalso; omega), (by have h1_0 := congrArg Int32.toInt ((q503 131 4 (by decide)).trans ((q75 131 4 (by decide)).trans z4)); have h2_0 := congrArg Int32.toInt z4; have h1_1 := congrArg Int32.toInt ((q503 131 11 (by decide)).trans ((q75 131 11 (by decide)).trans z7)); have h2_1 := congrArg Int32.toInt z7; omega), (QM_b (((sLg_m p32 p44 p56).trans (thn_r e93)).trans (cif_pos (by omega))) (by omega) (by rw [q505.1]; omega) (by rw [q505.2]; exact MG_at hP94.2))⟩ (nr_bool (R_of (lo := 0) (hi := 1) q504 rfl)) dX12_logLine_173
          ·
            have r507 : R (0) (0) v73 := ⟨by omega, by omega⟩
            have p508 := (QM_0 q79) (by omega)
            obtain ⟨q509, e510, h511, h512⟩ := p508
            refine r_iconst S dX12_logLine_157 (by decide) (fun v513 z514 => ?_)
            have r515 := R_eq z514
            exact r_ret S hr hlk X71 ⟨q74, F80, (R_of r515 rfl), (fun h => by exfalso; omega), (by rw [((q75 131 4 (by decide)).trans z4)]; exact R_of r5 rfl), (by rw [((q75 131 11 (by decide)).trans z7)]; exact R_of r8 rfl), (by have h1_0 := congrArg Int32.toInt ((q75 131 4 (by decide)).trans z4); have h2_0 := congrArg Int32.toInt z4; omega), (fun j hj => by have ht := congrArg Int32.toInt z10; exact ((q75 135 j (by simp [fz])).trans rfl)), (fun h => by exfalso; omega), (by have h1_0 := congrArg Int32.toInt ((q75 131 4 (by decide)).trans z4); have h2_0 := congrArg Int32.toInt z4; have h1_1 := congrArg Int32.toInt ((q75 131 11 (by decide)).trans z7); have h2_1 := congrArg Int32.toInt z7; omega), (QM_l ((sLg_m p32 p44 p56).trans (thn_l e510)) (by omega) h511 h512)⟩ (nr_bool (R_of (lo := 0) (hi := 1) r515 rfl)) dX12_logLine_158
        ·
          exfalso; omega
      ·
        have r516 : R (1) (1) v50 := ⟨by omega, by omega⟩
        have p517 := (q53).mp (by omega)
        refine r_iconst S dX12_logLine_45 (by decide) (fun v518 z519 => ?_)
        have r520 := R_eq z519
        refine r_goto (tgt := 50) S dX12_logLine_46 (by decide) ?_
        refine r_istore_n (lv' := [(2, .int v518), (1, .int v16), (0, .ref (G.2.2.2.1 131))]) S dX12_logLine_50 rfl hl (by decide) rfl (fun ls hl => ?_)
        refine r_iload_n S dX12_logLine_51 rfl (lv_at hl 0 rfl) ?_
        refine r_if_lt (tgt := 142) S dX12_logLine_52 (by decide) (fun c521 => ?_) (fun c521 => ?_)
        ·
          exfalso; omega
        ·
          refine r_aload_n S dX12_logLine_55 rfl (lv_at hl 2 rfl) ?_
          refine r_geti (K := 38) S X48 (Nat.le_of_ble_eq_true rfl) rfl lk12_385_10 (fun _ => ⟨_, rfl, rfl⟩) z10 dX12_logLine_56 ?_
          refine r_bipush S dX12_logLine_59 (by decide) (fun v522 z523 => ?_)
          have r524 := R_eq z523
          refine r_icmp_ne (tgt := 70) S dX12_logLine_61 (by decide) (fun c525 => ?_) (fun c525 => ?_)
          ·
            have r526 : R (0) (39) v9 := ⟨by omega, by omega⟩
            have r527 : R (0) (156) v16 := ⟨by omega, by omega⟩
            refine r_aload_n S dX12_logLine_70 rfl (lv_at hl 2 rfl) ?_
            refine r_get (K := 38) (v := .ref (G.2.2.2.1 135)) S X48 (Nat.le_of_ble_eq_true rfl) rfl lk12_40_10 (fun _ => ⟨_, rfl, rfl⟩) dX12_logLine_71 ?_
            refine r_iload_n S dX12_logLine_74 rfl (lv_at hl 1 rfl) ?_
            refine r_iload_n S dX12_logLine_75 rfl (lv_at hl 0 rfl) ?_
            refine r_ast (n := 160) (K := 42) S X48 (Nat.le_of_ble_eq_true rfl) rfl (fun _ _ => rfl) (ix_of r527 rfl) dX12_logLine_76 (fun t529 H lc M530 X531 => ?_)
            have I532 := Inv_mu hI M530 (R_any v518)
            have F533 : Fr [(131, 15), (131, 16), (131, 4), (131, 11), (131, 12), (131, 13), (131, 14), (131, 18), (131, 21)] [135, 331] τ t529 := Fr_cell Fr_rfl M530 (by decide)
            refine r_aload_n S dX12_logLine_77 rfl (lv_at hl 2 rfl) ?_
            refine r_kv (q_V (As := []) (rest := []) (K := 38) (ci := 10) S X531 (c_X12_skip_q l G t529 I532 bb nb 400 t.2.2 (MT_st (MG_fr hR ((M530.2 131 3 (Or.inl (by decide))).trans rfl) ((M530.2 131 4 (Or.inl (by decide))).trans rfl) ((M530.2 131 5 (Or.inl (by decide))).trans rfl) ((M530.2 131 11 (Or.inl (by decide))).trans rfl) ((M530.2 131 12 (Or.inl (by decide))).trans rfl) ((M530.2 131 14 (Or.inl (by decide))).trans rfl) (fun j => ((M530.2 132 j (Or.inl (by decide))).trans rfl)) (fun j => ((M530.2 331 j (Or.inl (by decide))).trans rfl)) ((M530.2 133 0 (Or.inl (by decide))).trans rfl) ((M530.2 133 1 (Or.inl (by decide))).trans rfl) (fun j => ((M530.2 336 j (Or.inl (by decide))).trans rfl)) (fun j => ((M530.2 337 j (Or.inl (by decide))).trans rfl))).1 (Or.inl p517.1)).1 (MT_st (MG_fr hR ((M530.2 131 3 (Or.inl (by decide))).trans rfl) ((M530.2 131 4 (Or.inl (by decide))).trans rfl) ((M530.2 131 5 (Or.inl (by decide))).trans rfl) ((M530.2 131 11 (Or.inl (by decide))).trans rfl) ((M530.2 131 12 (Or.inl (by decide))).trans rfl) ((M530.2 131 14 (Or.inl (by decide))).trans rfl) (fun j => ((M530.2 132 j (Or.inl (by decide))).trans rfl)) (fun j => ((M530.2 331 j (Or.inl (by decide))).trans rfl)) ((M530.2 133 0 (Or.inl (by decide))).trans rfl) ((M530.2 133 1 (Or.inl (by decide))).trans rfl) (fun j => ((M530.2 336 j (Or.inl (by decide))).trans rfl)) (fun j => ((M530.2 337 j (Or.inl (by decide))).trans rfl))).1 (Or.inl p517.1)).2.1 (MT_st (MG_fr hR ((M530.2 131 3 (Or.inl (by decide))).trans rfl) ((M530.2 131 4 (Or.inl (by decide))).trans rfl) ((M530.2 131 5 (Or.inl (by decide))).trans rfl) ((M530.2 131 11 (Or.inl (by decide))).trans rfl) ((M530.2 131 12 (Or.inl (by decide))).trans rfl) ((M530.2 131 14 (Or.inl (by decide))).trans rfl) (fun j => ((M530.2 132 j (Or.inl (by decide))).trans rfl)) (fun j => ((M530.2 331 j (Or.inl (by decide))).trans rfl)) ((M530.2 133 0 (Or.inl (by decide))).trans rfl) ((M530.2 133 1 (Or.inl (by decide))).trans rfl) (fun j => ((M530.2 336 j (Or.inl (by decide))).trans rfl)) (fun j => ((M530.2 337 j (Or.inl (by decide))).trans rfl))).1 (Or.inl p517.1)).2.2) ck12_186 (Nat.le_of_ble_eq_true rfl) rfl (fun _ => ⟨_, rfl⟩) ⟨_, _, rfl⟩ ⟨Nat.le_of_ble_eq_true rfl, Nat.le_of_ble_eq_true rfl⟩ rfl hl.1 rfl (Nat.le_of_ble_eq_true rfl) dX12_logLine_78 ⟨Nat.le_refl 0, Nat.le_refl 0⟩) X531 (fun t536 H lc q534 X535 => ?_)
            unfold po_X12_skip_q at q534
            obtain ⟨q537, q538, q539, q540, q541, q542, q543⟩ := q534
            have F544 : Fr [(131, 15), (131, 16), (131, 4), (131, 11), (131, 12), (131, 13), (131, 14), (131, 18), (131, 21)] [135, 331] τ t536 := Fr_call F533 q538 (by decide)
            obtain ⟨v545, z546⟩ : ∃ x, t536 131 4 = x := ⟨_, rfl⟩
            rw [z546] at q539
            obtain ⟨v547, z548⟩ : ∃ x, t536 131 11 = x := ⟨_, rfl⟩
            rw [z548] at q540
            have e549 := congrArg Int32.toInt ((M530.2 131 4 (Or.inl (by decide))).trans z4)
            have e550 := congrArg Int32.toInt z546
            have e551 := congrArg Int32.toInt ((M530.2 131 4 (Or.inl (by decide))).trans z4)
            have e552 := congrArg Int32.toInt z546
            have e553 := congrArg Int32.toInt ((M530.2 131 11 (Or.inl (by decide))).trans z7)
            have e554 := congrArg Int32.toInt z548
            have hR555 : MG bb nb 400 an mn t536 (nx bb nb 400 t) := ⟨q543, NR_fr hR.2 ((q538 133 0 (by decide)).trans ((M530.2 133 0 (Or.inl (by decide))).trans rfl)) ((q538 133 1 (by decide)).trans ((M530.2 133 1 (Or.inl (by decide))).trans rfl)) (fun j => ((q538 336 j (by simp [fz])).trans ((M530.2 336 j (Or.inl (by decide))).trans rfl))) (fun j => ((q538 337 j (by simp [fz])).trans ((M530.2 337 j (Or.inl (by decide))).trans rfl)))⟩
            refine r_iload_n S dX12_logLine_81 rfl (lv_at hl 0 rfl) ?_
            refine r_if_ne (tgt := 93) S dX12_logLine_82 (by decide) (fun c556 => ?_) (fun c556 => ?_)
            ·
              refine r_aload_n S dX12_logLine_93 rfl (lv_at hl 2 rfl) ?_
              refine r_iload_n S dX12_logLine_94 rfl (lv_at hl 0 rfl) ?_
              refine r_iconst S dX12_logLine_95 (by decide) (fun v557 z558 => ?_)
              have r559 := R_eq z558
              refine r_icmp_ne (tgt := 103) S dX12_logLine_96 (by decide) (fun c560 => ?_) (fun c560 => ?_)
              ·
                refine r_bipush S dX12_logLine_103 (by decide) (fun v561 z562 => ?_)
                have r563 := R_eq z562
                refine r_aload_n S dX12_logLine_105 rfl (lv_at hl 2 rfl) ?_
                refine r_get (K := 38) (v := .ref (G.2.2.2.1 133)) S X535 (Nat.le_of_ble_eq_true rfl) rfl lk12_33_10 (fun _ => ⟨_, rfl, rfl⟩) dX12_logLine_106 ?_
                refine r_iload_n S dX12_logLine_109 rfl (lv_at hl 0 rfl) ?_
                refine r_iconst S dX12_logLine_110 (by decide) (fun v564 z565 => ?_)
                have r566 := R_eq z565
                refine r_icmp_ne (tgt := 118) S dX12_logLine_111 (by decide) (fun c567 => ?_) (fun c567 => ?_)
                ·
                  refine r_iconst S dX12_logLine_118 (by decide) (fun v568 z569 => ?_)
                  have r570 := R_eq z569
                  refine r_aldn (n := 513) (K := 40) S X535 (Nat.le_of_ble_eq_true rfl) rfl (fun _ => rfl) (ix_of r570 rfl) dX12_logLine_119 (fun v571 z572 => ?_)
                  have r573 : R (0) (10) v571 := rds (K := 40) (a := 1) (n := 1) q537 rfl z572 (R_of r570 rfl) (by decide +kernel)
                  refine r_ki (q_V (As := [.int v561, .int v571]) (rest := []) (K := 38) (ci := 10) S X535 (c_X12_takesName_tm l G t536 q537 v561 v571 r563 r573 (by rw [((q538 131 15 (by decide)).trans ((M530.2 131 15 (Or.inl (by decide))).trans z2))]; exact R_of hf_0 rfl) bb nb an mn (nx bb nb 400 t) hR555 (by have q := hR555.2.2.1.1; rw [(zc (n := 1) (by omega) z572)] at q; exact q)) ck12_391 (Nat.le_of_ble_eq_true rfl) rfl (fun _ => ⟨_, rfl⟩) ⟨_, _, rfl⟩ ⟨Nat.le_of_ble_eq_true rfl, Nat.le_of_ble_eq_true rfl⟩ rfl hl.1 rfl (Nat.le_of_ble_eq_true rfl) dX12_logLine_120 ⟨Nat.le_refl 0, Nat.le_refl 0⟩) X535 (fun v577 t576 H lc q574 X575 => ?_)
                  unfold po_X12_takesName_tm at q574
                  obtain ⟨q578, q579, q580, q581, q582, q583, q584, q585, q586⟩ := q574
                  have F587 : Fr [(131, 15), (131, 16), (131, 4), (131, 11), (131, 12), (131, 13), (131, 14), (131, 18), (131, 21)] [135, 331] τ t576 := Fr_call F544 q579 (by decide)
                  obtain ⟨v588, z589⟩ : ∃ x, t576 131 4 = x := ⟨_, rfl⟩
                  rw [z589] at q582
                  obtain ⟨v590, z591⟩ : ∃ x, t576 131 11 = x := ⟨_, rfl⟩
                  rw [z591] at q583
                  have e592 := congrArg Int32.toInt z546
                  have e593 := congrArg Int32.toInt z589
                  have e594 := congrArg Int32.toInt z548
                  have e595 := congrArg Int32.toInt z591
                  refine r_if_ne (tgt := 128) S dX12_logLine_123 (by decide) (fun c596 => ?_) (fun c596 => ?_)
                  ·
                    have r597 : R (1) (1) v577 := ⟨by omega, by omega⟩
                    obtain ⟨p598, p599⟩ := q581 (by omega)
                    obtain ⟨v600, z601⟩ : ∃ x, t576 131 18 = x := ⟨_, rfl⟩
                    rw [z601] at p598
                    obtain ⟨v602, z603⟩ : ∃ x, t576 131 15 = x := ⟨_, rfl⟩
                    rw [z603] at p599
                    have p604 := (QM_1 q586) (by omega)
                    obtain ⟨g605, e606, hP607⟩ := p604
                    refine r_aload_n S dX12_logLine_128 rfl (lv_at hl 2 rfl) ?_
                    refine r_get (K := 38) (v := .ref (G.2.2.2.1 135)) S X575 (Nat.le_of_ble_eq_true rfl) rfl lk12_40_10 (fun _ => ⟨_, rfl, rfl⟩) dX12_logLine_129 ?_
                    refine r_iload_n S dX12_logLine_132 rfl (lv_at hl 1 rfl) ?_
                    refine r_iconst S dX12_logLine_133 (by decide) (fun v608 z609 => ?_)
                    have r610 := R_eq z609
                    refine r_iadd S dX12_logLine_134 (fun v611 z612 => ?_)
                    obtain ⟨e613, r614⟩ := i_add (lo := 1) (hi := 157) z612 r527 r610 rfl
                    refine r_aload_n S dX12_logLine_135 rfl (lv_at hl 2 rfl) ?_
                    refine r_geti (K := 38) S X575 (Nat.le_of_ble_eq_true rfl) rfl lk12_193_10 (fun _ => ⟨_, rfl, rfl⟩) z601 dX12_logLine_136 ?_
                    have k615 : v611.toNatClampNeg = v16.toNatClampNeg + 1 := tnk 1 (by omega) (by omega)
                    refine r_ast (n := 160) (K := 42) S X575 (Nat.le_of_ble_eq_true rfl) rfl (fun _ _ => rfl) (ix_of r614 rfl) dX12_logLine_139 (fun t616 H lc M617 X618 => ?_)
                    have I619 := Inv_mu q578 M617 (R_any v600)
                    have F620 : Fr [(131, 15), (131, 16), (131, 4), (131, 11), (131, 12), (131, 13), (131, 14), (131, 18), (131, 21)] [135, 331] τ t616 := Fr_cell F587 M617 (by decide)
                    refine r_iconst S dX12_logLine_140 (by decide) (fun v621 z622 => ?_)
                    have r623 := R_eq z622
                    exact r_ret S hr hlk X618 ⟨I619, F620, (R_of r623 rfl), (fun h => ⟨(by rw [((M617.2 131 37 (Or.inl (by decide))).trans ((q579 131 37 (by decide)).trans ((q538 131 37 (by decide)).trans ((M530.2 131 37 (Or.inl (by decide))).trans z10))))]; exact R_of r526 rfl), (by rw [((M617.2 131 15 (Or.inl (by decide))).trans z603)]; exact R_of p599 rfl)⟩), (by rw [((M617.2 131 4 (Or.inl (by decide))).trans z589)]; exact R_of q582 rfl), (by rw [((M617.2 131 11 (Or.inl (by decide))).trans z591)]; exact R_of q583 rfl), (by have h1_0 := congrArg Int32.toInt ((M617.2 131 4 (Or.inl (by decide))).trans z589); have h2_0 := congrArg Int32.toInt z4; omega), (fun j hj => by have ht := congrArg Int32.toInt z10; exact ((M617.2 135 j (Or.inr (by have q := tn (i := v611) (by omega); omega))).trans ((q579 135 j (by simp [fz])).trans ((q538 135 j (by simp [fz])).trans ((M530.2 135 j (Or.inr (by have q := tn (i := v16) (by omega); omega))).trans rfl))))), (fun h => by have ht := congrArg Int32.toInt z10; have hn : (4 * (τ 131 37).toInt).toNat = v16.toNatClampNeg + 0 := (by have q := tn (i := v16) (by omega); omega); rw [hn]; unfold MBr; have e0 := (show t616 135 (v16.toNatClampNeg + 0) = v518 from ((M617.2 135 (v16.toNatClampNeg + 0) (Or.inr (by omega))).trans ((q579 135 (v16.toNatClampNeg + 0) (by simp [fz])).trans ((q538 135 (v16.toNatClampNeg + 0) (by simp [fz])).trans rfl))).trans (at_k (f := t529 135) M530.1 (by omega))); have e1 : t616 135 (v16.toNatClampNeg + 0 + 1) = _ := (show t616 135 (v16.toNatClampNeg + 1) = v600 from rfl.trans (at_k (f := t616 135) M617.1 (by omega))); exact Or.inr (Or.inr (Or.inl ⟨by rw [e0]; omega, by rw [e1]; omega, by rw [e1]; omega⟩))), (by have h1_0 := congrArg Int32.toInt ((M617.2 131 4 (Or.inl (by decide))).trans z589); have h2_0 := congrArg Int32.toInt z4; have h1_1 := congrArg Int32.toInt ((M617.2 131 11 (Or.inl (by decide))).trans z591); have h2_1 := congrArg Int32.toInt z7; omega), (QM_r (((sLg_10 p32 p44 p517).trans (cif_neg (show ¬ 40 ≤ ln by omega))).trans e606) (by omega) (MG_fr hP607 ((M617.2 131 3 (Or.inl (by decide))).trans rfl) ((M617.2 131 4 (Or.inl (by decide))).trans rfl) ((M617.2 131 5 (Or.inl (by decide))).trans rfl) ((M617.2 131 11 (Or.inl (by decide))).trans rfl) ((M617.2 131 12 (Or.inl (by decide))).trans rfl) ((M617.2 131 14 (Or.inl (by decide))).trans rfl) (fun j => ((M617.2 132 j (Or.inl (by decide))).trans rfl)) (fun j => ((M617.2 331 j (Or.inl (by decide))).trans rfl)) ((M617.2 133 0 (Or.inl (by decide))).trans rfl) ((M617.2 133 1 (Or.inl (by decide))).trans rfl) (fun j => ((M617.2 336 j (Or.inl (by decide))).trans rfl)) (fun j => ((M617.2 337 j (Or.inl (by decide))).trans rfl))))⟩ (nr_bool (R_of (lo := 0) (hi := 1) r623 rfl)) dX12_logLine_141
                  ·
                    have r624 : R (0) (0) v577 := ⟨by omega, by omega⟩
                    have p625 := (QM_0 q586) (by omega)
                    obtain ⟨q626, e627, h628, h629⟩ := p625
                    refine r_iconst S dX12_logLine_126 (by decide) (fun v630 z631 => ?_)
                    have r632 := R_eq z631
                    exact r_ret S hr hlk X575 ⟨q578, F587, (R_of r632 rfl), (fun h => by exfalso; omega), (by rw [z589]; exact R_of q582 rfl), (by rw [z591]; exact R_of q583 rfl), (by have h1_0 := congrArg Int32.toInt z589; have h2_0 := congrArg Int32.toInt z4; omega), (fun j hj => by have ht := congrArg Int32.toInt z10; exact ((q579 135 j (by simp [fz])).trans ((q538 135 j (by simp [fz])).trans ((M530.2 135 j (Or.inr (by have q := tn (i := v16) (by omega); omega))).trans rfl)))), (fun h => by exfalso; omega), (by have h1_0 := congrArg Int32.toInt z589; have h2_0 := congrArg Int32.toInt z4; have h1_1 := congrArg Int32.toInt z591; have h2_1 := congrArg Int32.toInt z7; omega), (QM_l (((sLg_10 p32 p44 p517).trans (cif_neg (show ¬ 40 ≤ ln by omega))).trans e627) (by omega) h628 h629)⟩ (nr_bool (R_of (lo := 0) (hi := 1) r632 rfl)) dX12_logLine_127
                ·
                  exfalso; omega
              ·
                exfalso; omega
            ·
              exfalso; omega
          ·
            have r633 : R (40) (40) v9 := ⟨by omega, by omega⟩
            refine r_aload_n S dX12_logLine_64 rfl (lv_at hl 2 rfl) ?_
            refine r_iconst S dX12_logLine_65 (by decide) (fun v634 z635 => ?_)
            have r636 := R_eq z635
            refine r_ki (q_V (As := [.int v634]) (rest := []) (K := 38) (ci := 10) S X48 (c_X12_bad_q l G τ hI v634 (R_of (lo := -2147483648) (hi := 2147483647) r636 rfl)) ck12_183 (Nat.le_of_ble_eq_true rfl) rfl (fun _ => ⟨_, rfl⟩) ⟨_, _, rfl⟩ ⟨Nat.le_of_ble_eq_true rfl, Nat.le_of_ble_eq_true rfl⟩ rfl hl.1 rfl (Nat.le_of_ble_eq_true rfl) dX12_logLine_66 ⟨Nat.le_refl 0, Nat.le_refl 0⟩) X48 (fun v640 t639 H lc q637 X638 => ?_)
            unfold po_X12_bad_q at q637
            obtain ⟨q641, q642, q643, q644⟩ := q637
            have F645 : Fr [(131, 15), (131, 16), (131, 4), (131, 11), (131, 12), (131, 13), (131, 14), (131, 18), (131, 21)] [135, 331] τ t639 := Fr_call Fr_rfl q642 (by decide)
            exact r_ret S hr hlk X638 ⟨q641, F645, (R_of q643 rfl), (fun h => by exfalso; omega), (by rw [((q642 131 4 (by decide)).trans z4)]; exact R_of r5 rfl), (by rw [((q642 131 11 (by decide)).trans z7)]; exact R_of r8 rfl), (by have h1_0 := congrArg Int32.toInt ((q642 131 4 (by decide)).trans z4); have h2_0 := congrArg Int32.toInt z4; omega), (fun j hj => by have ht := congrArg Int32.toInt z10; exact ((q642 135 j (by simp [fz])).trans rfl)), (fun h => by exfalso; omega), (by have h1_0 := congrArg Int32.toInt ((q642 131 4 (by decide)).trans z4); have h2_0 := congrArg Int32.toInt z4; have h1_1 := congrArg Int32.toInt ((q642 131 11 (by decide)).trans z7); have h2_1 := congrArg Int32.toInt z7; omega), (QM_b ((sLg_10 p32 p44 p517).trans (cif_pos (by omega))) (by omega) (by rw [q644.1]; omega) (by rw [q644.2]; exact MG_at hR))⟩ (nr_bool (R_of (lo := 0) (hi := 1) q643 rfl)) dX12_logLine_69
    ·
      have r646 : R (1) (1) v38 := ⟨by omega, by omega⟩
      have p647 := (q41).mp (by omega)
      refine r_iconst S dX12_logLine_31 (by decide) (fun v648 z649 => ?_)
      have r650 := R_eq z649
      refine r_goto (tgt := 50) S dX12_logLine_32 (by decide) ?_
      refine r_istore_n (lv' := [(2, .int v648), (1, .int v16), (0, .ref (G.2.2.2.1 131))]) S dX12_logLine_50 rfl hl (by decide) rfl (fun ls hl => ?_)
      refine r_iload_n S dX12_logLine_51 rfl (lv_at hl 0 rfl) ?_
      refine r_if_lt (tgt := 142) S dX12_logLine_52 (by decide) (fun c651 => ?_) (fun c651 => ?_)
      ·
        exfalso; omega
      ·
        refine r_aload_n S dX12_logLine_55 rfl (lv_at hl 2 rfl) ?_
        refine r_geti (K := 38) S X36 (Nat.le_of_ble_eq_true rfl) rfl lk12_385_10 (fun _ => ⟨_, rfl, rfl⟩) z10 dX12_logLine_56 ?_
        refine r_bipush S dX12_logLine_59 (by decide) (fun v652 z653 => ?_)
        have r654 := R_eq z653
        refine r_icmp_ne (tgt := 70) S dX12_logLine_61 (by decide) (fun c655 => ?_) (fun c655 => ?_)
        ·
          have r656 : R (0) (39) v9 := ⟨by omega, by omega⟩
          have r657 : R (0) (156) v16 := ⟨by omega, by omega⟩
          refine r_aload_n S dX12_logLine_70 rfl (lv_at hl 2 rfl) ?_
          refine r_get (K := 38) (v := .ref (G.2.2.2.1 135)) S X36 (Nat.le_of_ble_eq_true rfl) rfl lk12_40_10 (fun _ => ⟨_, rfl, rfl⟩) dX12_logLine_71 ?_
          refine r_iload_n S dX12_logLine_74 rfl (lv_at hl 1 rfl) ?_
          refine r_iload_n S dX12_logLine_75 rfl (lv_at hl 0 rfl) ?_
          refine r_ast (n := 160) (K := 42) S X36 (Nat.le_of_ble_eq_true rfl) rfl (fun _ _ => rfl) (ix_of r657 rfl) dX12_logLine_76 (fun t659 H lc M660 X661 => ?_)
          have I662 := Inv_mu hI M660 (R_any v648)
          have F663 : Fr [(131, 15), (131, 16), (131, 4), (131, 11), (131, 12), (131, 13), (131, 14), (131, 18), (131, 21)] [135, 331] τ t659 := Fr_cell Fr_rfl M660 (by decide)
          refine r_aload_n S dX12_logLine_77 rfl (lv_at hl 2 rfl) ?_
          refine r_kv (q_V (As := []) (rest := []) (K := 38) (ci := 10) S X661 (c_X12_skip_q l G t659 I662 bb nb 400 t.2.2 (MT_st (MG_fr hR ((M660.2 131 3 (Or.inl (by decide))).trans rfl) ((M660.2 131 4 (Or.inl (by decide))).trans rfl) ((M660.2 131 5 (Or.inl (by decide))).trans rfl) ((M660.2 131 11 (Or.inl (by decide))).trans rfl) ((M660.2 131 12 (Or.inl (by decide))).trans rfl) ((M660.2 131 14 (Or.inl (by decide))).trans rfl) (fun j => ((M660.2 132 j (Or.inl (by decide))).trans rfl)) (fun j => ((M660.2 331 j (Or.inl (by decide))).trans rfl)) ((M660.2 133 0 (Or.inl (by decide))).trans rfl) ((M660.2 133 1 (Or.inl (by decide))).trans rfl) (fun j => ((M660.2 336 j (Or.inl (by decide))).trans rfl)) (fun j => ((M660.2 337 j (Or.inl (by decide))).trans rfl))).1 (Or.inl p647.1)).1 (MT_st (MG_fr hR ((M660.2 131 3 (Or.inl (by decide))).trans rfl) ((M660.2 131 4 (Or.inl (by decide))).trans rfl) ((M660.2 131 5 (Or.inl (by decide))).trans rfl) ((M660.2 131 11 (Or.inl (by decide))).trans rfl) ((M660.2 131 12 (Or.inl (by decide))).trans rfl) ((M660.2 131 14 (Or.inl (by decide))).trans rfl) (fun j => ((M660.2 132 j (Or.inl (by decide))).trans rfl)) (fun j => ((M660.2 331 j (Or.inl (by decide))).trans rfl)) ((M660.2 133 0 (Or.inl (by decide))).trans rfl) ((M660.2 133 1 (Or.inl (by decide))).trans rfl) (fun j => ((M660.2 336 j (Or.inl (by decide))).trans rfl)) (fun j => ((M660.2 337 j (Or.inl (by decide))).trans rfl))).1 (Or.inl p647.1)).2.1 (MT_st (MG_fr hR ((M660.2 131 3 (Or.inl (by decide))).trans rfl) ((M660.2 131 4 (Or.inl (by decide))).trans rfl) ((M660.2 131 5 (Or.inl (by decide))).trans rfl) ((M660.2 131 11 (Or.inl (by decide))).trans rfl) ((M660.2 131 12 (Or.inl (by decide))).trans rfl) ((M660.2 131 14 (Or.inl (by decide))).trans rfl) (fun j => ((M660.2 132 j (Or.inl (by decide))).trans rfl)) (fun j => ((M660.2 331 j (Or.inl (by decide))).trans rfl)) ((M660.2 133 0 (Or.inl (by decide))).trans rfl) ((M660.2 133 1 (Or.inl (by decide))).trans rfl) (fun j => ((M660.2 336 j (Or.inl (by decide))).trans rfl)) (fun j => ((M660.2 337 j (Or.inl (by decide))).trans rfl))).1 (Or.inl p647.1)).2.2) ck12_186 (Nat.le_of_ble_eq_true rfl) rfl (fun _ => ⟨_, rfl⟩) ⟨_, _, rfl⟩ ⟨Nat.le_of_ble_eq_true rfl, Nat.le_of_ble_eq_true rfl⟩ rfl hl.1 rfl (Nat.le_of_ble_eq_true rfl) dX12_logLine_78 ⟨Nat.le_refl 0, Nat.le_refl 0⟩) X661 (fun t666 H lc q664 X665 => ?_)
          unfold po_X12_skip_q at q664
          obtain ⟨q667, q668, q669, q670, q671, q672, q673⟩ := q664
          have F674 : Fr [(131, 15), (131, 16), (131, 4), (131, 11), (131, 12), (131, 13), (131, 14), (131, 18), (131, 21)] [135, 331] τ t666 := Fr_call F663 q668 (by decide)
          obtain ⟨v675, z676⟩ : ∃ x, t666 131 4 = x := ⟨_, rfl⟩
          rw [z676] at q669
          obtain ⟨v677, z678⟩ : ∃ x, t666 131 11 = x := ⟨_, rfl⟩
          rw [z678] at q670
          have e679 := congrArg Int32.toInt ((M660.2 131 4 (Or.inl (by decide))).trans z4)
          have e680 := congrArg Int32.toInt z676
          have e681 := congrArg Int32.toInt ((M660.2 131 4 (Or.inl (by decide))).trans z4)
          have e682 := congrArg Int32.toInt z676
          have e683 := congrArg Int32.toInt ((M660.2 131 11 (Or.inl (by decide))).trans z7)
          have e684 := congrArg Int32.toInt z678
          have hR685 : MG bb nb 400 an mn t666 (nx bb nb 400 t) := ⟨q673, NR_fr hR.2 ((q668 133 0 (by decide)).trans ((M660.2 133 0 (Or.inl (by decide))).trans rfl)) ((q668 133 1 (by decide)).trans ((M660.2 133 1 (Or.inl (by decide))).trans rfl)) (fun j => ((q668 336 j (by simp [fz])).trans ((M660.2 336 j (Or.inl (by decide))).trans rfl))) (fun j => ((q668 337 j (by simp [fz])).trans ((M660.2 337 j (Or.inl (by decide))).trans rfl)))⟩
          refine r_iload_n S dX12_logLine_81 rfl (lv_at hl 0 rfl) ?_
          refine r_if_ne (tgt := 93) S dX12_logLine_82 (by decide) (fun c686 => ?_) (fun c686 => ?_)
          ·
            refine r_aload_n S dX12_logLine_93 rfl (lv_at hl 2 rfl) ?_
            refine r_iload_n S dX12_logLine_94 rfl (lv_at hl 0 rfl) ?_
            refine r_iconst S dX12_logLine_95 (by decide) (fun v687 z688 => ?_)
            have r689 := R_eq z688
            refine r_icmp_ne (tgt := 103) S dX12_logLine_96 (by decide) (fun c690 => ?_) (fun c690 => ?_)
            ·
              exfalso; omega
            ·
              refine r_iconst S dX12_logLine_99 (by decide) (fun v691 z692 => ?_)
              have r693 := R_eq z692
              refine r_goto (tgt := 105) S dX12_logLine_100 (by decide) ?_
              refine r_aload_n S dX12_logLine_105 rfl (lv_at hl 2 rfl) ?_
              refine r_get (K := 38) (v := .ref (G.2.2.2.1 133)) S X665 (Nat.le_of_ble_eq_true rfl) rfl lk12_33_10 (fun _ => ⟨_, rfl, rfl⟩) dX12_logLine_106 ?_
              refine r_iload_n S dX12_logLine_109 rfl (lv_at hl 0 rfl) ?_
              refine r_iconst S dX12_logLine_110 (by decide) (fun v694 z695 => ?_)
              have r696 := R_eq z695
              refine r_icmp_ne (tgt := 118) S dX12_logLine_111 (by decide) (fun c697 => ?_) (fun c697 => ?_)
              ·
                exfalso; omega
              ·
                refine r_iconst S dX12_logLine_114 (by decide) (fun v698 z699 => ?_)
                have r700 := R_eq z699
                refine r_goto (tgt := 119) S dX12_logLine_115 (by decide) ?_
                refine r_aldn (n := 513) (K := 40) S X665 (Nat.le_of_ble_eq_true rfl) rfl (fun _ => rfl) (ix_of r700 rfl) dX12_logLine_119 (fun v701 z702 => ?_)
                have r703 : R (0) (9) v701 := rds (K := 40) (a := 0) (n := 1) q667 rfl z702 (R_of r700 rfl) (by decide +kernel)
                refine r_ki (q_V (As := [.int v691, .int v701]) (rest := []) (K := 38) (ci := 10) S X665 (c_X12_takesName_ta l G t666 q667 v691 v701 r693 r703 (by rw [((q668 131 15 (by decide)).trans ((M660.2 131 15 (Or.inl (by decide))).trans z2))]; exact R_of hf_0 rfl) bb nb an mn (nx bb nb 400 t) hR685 (by have q := hR685.2.1.1; rw [(zc (n := 0) (by omega) z702)] at q; exact q)) ck12_391 (Nat.le_of_ble_eq_true rfl) rfl (fun _ => ⟨_, rfl⟩) ⟨_, _, rfl⟩ ⟨Nat.le_of_ble_eq_true rfl, Nat.le_of_ble_eq_true rfl⟩ rfl hl.1 rfl (Nat.le_of_ble_eq_true rfl) dX12_logLine_120 ⟨Nat.le_refl 0, Nat.le_refl 0⟩) X665 (fun v707 t706 H lc q704 X705 => ?_)
                unfold po_X12_takesName_ta at q704
                obtain ⟨q708, q709, q710, q711, q712, q713, q714, q715, q716⟩ := q704
                have F717 : Fr [(131, 15), (131, 16), (131, 4), (131, 11), (131, 12), (131, 13), (131, 14), (131, 18), (131, 21)] [135, 331] τ t706 := Fr_call F674 q709 (by decide)
                obtain ⟨v718, z719⟩ : ∃ x, t706 131 4 = x := ⟨_, rfl⟩
                rw [z719] at q712
                obtain ⟨v720, z721⟩ : ∃ x, t706 131 11 = x := ⟨_, rfl⟩
                rw [z721] at q713
                have e722 := congrArg Int32.toInt z676
                have e723 := congrArg Int32.toInt z719
                have e724 := congrArg Int32.toInt z678
                have e725 := congrArg Int32.toInt z721
                refine r_if_ne (tgt := 128) S dX12_logLine_123 (by decide) (fun c726 => ?_) (fun c726 => ?_)
                ·
                  have r727 : R (1) (1) v707 := ⟨by omega, by omega⟩
                  obtain ⟨p728, p729⟩ := q711 (by omega)
                  obtain ⟨v730, z731⟩ : ∃ x, t706 131 18 = x := ⟨_, rfl⟩
                  rw [z731] at p728
                  obtain ⟨v732, z733⟩ : ∃ x, t706 131 15 = x := ⟨_, rfl⟩
                  rw [z733] at p729
                  have p734 := (QM_1 q716) (by omega)
                  obtain ⟨g735, e736, hP737⟩ := p734
                  refine r_aload_n S dX12_logLine_128 rfl (lv_at hl 2 rfl) ?_
                  refine r_get (K := 38) (v := .ref (G.2.2.2.1 135)) S X705 (Nat.le_of_ble_eq_true rfl) rfl lk12_40_10 (fun _ => ⟨_, rfl, rfl⟩) dX12_logLine_129 ?_
                  refine r_iload_n S dX12_logLine_132 rfl (lv_at hl 1 rfl) ?_
                  refine r_iconst S dX12_logLine_133 (by decide) (fun v738 z739 => ?_)
                  have r740 := R_eq z739
                  refine r_iadd S dX12_logLine_134 (fun v741 z742 => ?_)
                  obtain ⟨e743, r744⟩ := i_add (lo := 1) (hi := 157) z742 r657 r740 rfl
                  refine r_aload_n S dX12_logLine_135 rfl (lv_at hl 2 rfl) ?_
                  refine r_geti (K := 38) S X705 (Nat.le_of_ble_eq_true rfl) rfl lk12_193_10 (fun _ => ⟨_, rfl, rfl⟩) z731 dX12_logLine_136 ?_
                  have k745 : v741.toNatClampNeg = v16.toNatClampNeg + 1 := tnk 1 (by omega) (by omega)
                  refine r_ast (n := 160) (K := 42) S X705 (Nat.le_of_ble_eq_true rfl) rfl (fun _ _ => rfl) (ix_of r744 rfl) dX12_logLine_139 (fun t746 H lc M747 X748 => ?_)
                  have I749 := Inv_mu q708 M747 (R_any v730)
                  have F750 : Fr [(131, 15), (131, 16), (131, 4), (131, 11), (131, 12), (131, 13), (131, 14), (131, 18), (131, 21)] [135, 331] τ t746 := Fr_cell F717 M747 (by decide)
                  refine r_iconst S dX12_logLine_140 (by decide) (fun v751 z752 => ?_)
                  have r753 := R_eq z752
                  exact r_ret S hr hlk X748 ⟨I749, F750, (R_of r753 rfl), (fun h => ⟨(by rw [((M747.2 131 37 (Or.inl (by decide))).trans ((q709 131 37 (by decide)).trans ((q668 131 37 (by decide)).trans ((M660.2 131 37 (Or.inl (by decide))).trans z10))))]; exact R_of r656 rfl), (by rw [((M747.2 131 15 (Or.inl (by decide))).trans z733)]; exact R_of p729 rfl)⟩), (by rw [((M747.2 131 4 (Or.inl (by decide))).trans z719)]; exact R_of q712 rfl), (by rw [((M747.2 131 11 (Or.inl (by decide))).trans z721)]; exact R_of q713 rfl), (by have h1_0 := congrArg Int32.toInt ((M747.2 131 4 (Or.inl (by decide))).trans z719); have h2_0 := congrArg Int32.toInt z4; omega), (fun j hj => by have ht := congrArg Int32.toInt z10; exact ((M747.2 135 j (Or.inr (by have q := tn (i := v741) (by omega); omega))).trans ((q709 135 j (by simp [fz])).trans ((q668 135 j (by simp [fz])).trans ((M660.2 135 j (Or.inr (by have q := tn (i := v16) (by omega); omega))).trans rfl))))), (fun h => by have ht := congrArg Int32.toInt z10; have hn : (4 * (τ 131 37).toInt).toNat = v16.toNatClampNeg + 0 := (by have q := tn (i := v16) (by omega); omega); rw [hn]; unfold MBr; have e0 := (show t746 135 (v16.toNatClampNeg + 0) = v648 from ((M747.2 135 (v16.toNatClampNeg + 0) (Or.inr (by omega))).trans ((q709 135 (v16.toNatClampNeg + 0) (by simp [fz])).trans ((q668 135 (v16.toNatClampNeg + 0) (by simp [fz])).trans rfl))).trans (at_k (f := t659 135) M660.1 (by omega))); have e1 : t746 135 (v16.toNatClampNeg + 0 + 1) = _ := (show t746 135 (v16.toNatClampNeg + 1) = v730 from rfl.trans (at_k (f := t746 135) M747.1 (by omega))); exact Or.inr (Or.inl ⟨by rw [e0]; omega, by rw [e1]; omega, by rw [e1]; omega⟩)), (by have h1_0 := congrArg Int32.toInt ((M747.2 131 4 (Or.inl (by decide))).trans z719); have h2_0 := congrArg Int32.toInt z4; have h1_1 := congrArg Int32.toInt ((M747.2 131 11 (Or.inl (by decide))).trans z721); have h2_1 := congrArg Int32.toInt z7; omega), (QM_r (((sLg_9 p32 p647).trans (cif_neg (show ¬ 40 ≤ ln by omega))).trans e736) (by omega) (MG_fr hP737 ((M747.2 131 3 (Or.inl (by decide))).trans rfl) ((M747.2 131 4 (Or.inl (by decide))).trans rfl) ((M747.2 131 5 (Or.inl (by decide))).trans rfl) ((M747.2 131 11 (Or.inl (by decide))).trans rfl) ((M747.2 131 12 (Or.inl (by decide))).trans rfl) ((M747.2 131 14 (Or.inl (by decide))).trans rfl) (fun j => ((M747.2 132 j (Or.inl (by decide))).trans rfl)) (fun j => ((M747.2 331 j (Or.inl (by decide))).trans rfl)) ((M747.2 133 0 (Or.inl (by decide))).trans rfl) ((M747.2 133 1 (Or.inl (by decide))).trans rfl) (fun j => ((M747.2 336 j (Or.inl (by decide))).trans rfl)) (fun j => ((M747.2 337 j (Or.inl (by decide))).trans rfl))))⟩ (nr_bool (R_of (lo := 0) (hi := 1) r753 rfl)) dX12_logLine_141
                ·
                  have r754 : R (0) (0) v707 := ⟨by omega, by omega⟩
                  have p755 := (QM_0 q716) (by omega)
                  obtain ⟨q756, e757, h758, h759⟩ := p755
                  refine r_iconst S dX12_logLine_126 (by decide) (fun v760 z761 => ?_)
                  have r762 := R_eq z761
                  exact r_ret S hr hlk X705 ⟨q708, F717, (R_of r762 rfl), (fun h => by exfalso; omega), (by rw [z719]; exact R_of q712 rfl), (by rw [z721]; exact R_of q713 rfl), (by have h1_0 := congrArg Int32.toInt z719; have h2_0 := congrArg Int32.toInt z4; omega), (fun j hj => by have ht := congrArg Int32.toInt z10; exact ((q709 135 j (by simp [fz])).trans ((q668 135 j (by simp [fz])).trans ((M660.2 135 j (Or.inr (by have q := tn (i := v16) (by omega); omega))).trans rfl)))), (fun h => by exfalso; omega), (by have h1_0 := congrArg Int32.toInt z719; have h2_0 := congrArg Int32.toInt z4; have h1_1 := congrArg Int32.toInt z721; have h2_1 := congrArg Int32.toInt z7; omega), (QM_l (((sLg_9 p32 p647).trans (cif_neg (show ¬ 40 ≤ ln by omega))).trans e757) (by omega) h758 h759)⟩ (nr_bool (R_of (lo := 0) (hi := 1) r762 rfl)) dX12_logLine_127
          ·
            exfalso; omega
        ·
          have r763 : R (40) (40) v9 := ⟨by omega, by omega⟩
          refine r_aload_n S dX12_logLine_64 rfl (lv_at hl 2 rfl) ?_
          refine r_iconst S dX12_logLine_65 (by decide) (fun v764 z765 => ?_)
          have r766 := R_eq z765
          refine r_ki (q_V (As := [.int v764]) (rest := []) (K := 38) (ci := 10) S X36 (c_X12_bad_q l G τ hI v764 (R_of (lo := -2147483648) (hi := 2147483647) r766 rfl)) ck12_183 (Nat.le_of_ble_eq_true rfl) rfl (fun _ => ⟨_, rfl⟩) ⟨_, _, rfl⟩ ⟨Nat.le_of_ble_eq_true rfl, Nat.le_of_ble_eq_true rfl⟩ rfl hl.1 rfl (Nat.le_of_ble_eq_true rfl) dX12_logLine_66 ⟨Nat.le_refl 0, Nat.le_refl 0⟩) X36 (fun v770 t769 H lc q767 X768 => ?_)
          unfold po_X12_bad_q at q767
          obtain ⟨q771, q772, q773, q774⟩ := q767
          have F775 : Fr [(131, 15), (131, 16), (131, 4), (131, 11), (131, 12), (131, 13), (131, 14), (131, 18), (131, 21)] [135, 331] τ t769 := Fr_call Fr_rfl q772 (by decide)
          exact r_ret S hr hlk X768 ⟨q771, F775, (R_of q773 rfl), (fun h => by exfalso; omega), (by rw [((q772 131 4 (by decide)).trans z4)]; exact R_of r5 rfl), (by rw [((q772 131 11 (by decide)).trans z7)]; exact R_of r8 rfl), (by have h1_0 := congrArg Int32.toInt ((q772 131 4 (by decide)).trans z4); have h2_0 := congrArg Int32.toInt z4; omega), (fun j hj => by have ht := congrArg Int32.toInt z10; exact ((q772 135 j (by simp [fz])).trans rfl)), (fun h => by exfalso; omega), (by have h1_0 := congrArg Int32.toInt ((q772 131 4 (by decide)).trans z4); have h2_0 := congrArg Int32.toInt z4; have h1_1 := congrArg Int32.toInt ((q772 131 11 (by decide)).trans z7); have h2_1 := congrArg Int32.toInt z7; omega), (QM_b ((sLg_9 p32 p647).trans (cif_pos (by omega))) (by omega) (by rw [q774.1]; omega) (by rw [q774.2]; exact MG_at hR))⟩ (nr_bool (R_of (lo := 0) (hi := 1) q773 rfl)) dX12_logLine_69
  ·
    have r776 : R (1) (1) v26 := ⟨by omega, by omega⟩
    have p777 := (q29).mp (by omega)
    refine r_iconst S dX12_logLine_17 (by decide) (fun v778 z779 => ?_)
    have r780 := R_eq z779
    refine r_goto (tgt := 50) S dX12_logLine_18 (by decide) ?_
    refine r_istore_n (lv' := [(2, .int v778), (1, .int v16), (0, .ref (G.2.2.2.1 131))]) S dX12_logLine_50 rfl hl (by decide) rfl (fun ls hl => ?_)
    refine r_iload_n S dX12_logLine_51 rfl (lv_at hl 0 rfl) ?_
    refine r_if_lt (tgt := 142) S dX12_logLine_52 (by decide) (fun c781 => ?_) (fun c781 => ?_)
    ·
      exfalso; omega
    ·
      refine r_aload_n S dX12_logLine_55 rfl (lv_at hl 2 rfl) ?_
      refine r_geti (K := 38) S X24 (Nat.le_of_ble_eq_true rfl) rfl lk12_385_10 (fun _ => ⟨_, rfl, rfl⟩) z10 dX12_logLine_56 ?_
      refine r_bipush S dX12_logLine_59 (by decide) (fun v782 z783 => ?_)
      have r784 := R_eq z783
      refine r_icmp_ne (tgt := 70) S dX12_logLine_61 (by decide) (fun c785 => ?_) (fun c785 => ?_)
      ·
        have r786 : R (0) (39) v9 := ⟨by omega, by omega⟩
        have r787 : R (0) (156) v16 := ⟨by omega, by omega⟩
        refine r_aload_n S dX12_logLine_70 rfl (lv_at hl 2 rfl) ?_
        refine r_get (K := 38) (v := .ref (G.2.2.2.1 135)) S X24 (Nat.le_of_ble_eq_true rfl) rfl lk12_40_10 (fun _ => ⟨_, rfl, rfl⟩) dX12_logLine_71 ?_
        refine r_iload_n S dX12_logLine_74 rfl (lv_at hl 1 rfl) ?_
        refine r_iload_n S dX12_logLine_75 rfl (lv_at hl 0 rfl) ?_
        refine r_ast (n := 160) (K := 42) S X24 (Nat.le_of_ble_eq_true rfl) rfl (fun _ _ => rfl) (ix_of r787 rfl) dX12_logLine_76 (fun t789 H lc M790 X791 => ?_)
        have I792 := Inv_mu hI M790 (R_any v778)
        have F793 : Fr [(131, 15), (131, 16), (131, 4), (131, 11), (131, 12), (131, 13), (131, 14), (131, 18), (131, 21)] [135, 331] τ t789 := Fr_cell Fr_rfl M790 (by decide)
        refine r_aload_n S dX12_logLine_77 rfl (lv_at hl 2 rfl) ?_
        refine r_kv (q_V (As := []) (rest := []) (K := 38) (ci := 10) S X791 (c_X12_skip_q l G t789 I792 bb nb 400 t.2.2 (MT_st (MG_fr hR ((M790.2 131 3 (Or.inl (by decide))).trans rfl) ((M790.2 131 4 (Or.inl (by decide))).trans rfl) ((M790.2 131 5 (Or.inl (by decide))).trans rfl) ((M790.2 131 11 (Or.inl (by decide))).trans rfl) ((M790.2 131 12 (Or.inl (by decide))).trans rfl) ((M790.2 131 14 (Or.inl (by decide))).trans rfl) (fun j => ((M790.2 132 j (Or.inl (by decide))).trans rfl)) (fun j => ((M790.2 331 j (Or.inl (by decide))).trans rfl)) ((M790.2 133 0 (Or.inl (by decide))).trans rfl) ((M790.2 133 1 (Or.inl (by decide))).trans rfl) (fun j => ((M790.2 336 j (Or.inl (by decide))).trans rfl)) (fun j => ((M790.2 337 j (Or.inl (by decide))).trans rfl))).1 (Or.inl p777.1)).1 (MT_st (MG_fr hR ((M790.2 131 3 (Or.inl (by decide))).trans rfl) ((M790.2 131 4 (Or.inl (by decide))).trans rfl) ((M790.2 131 5 (Or.inl (by decide))).trans rfl) ((M790.2 131 11 (Or.inl (by decide))).trans rfl) ((M790.2 131 12 (Or.inl (by decide))).trans rfl) ((M790.2 131 14 (Or.inl (by decide))).trans rfl) (fun j => ((M790.2 132 j (Or.inl (by decide))).trans rfl)) (fun j => ((M790.2 331 j (Or.inl (by decide))).trans rfl)) ((M790.2 133 0 (Or.inl (by decide))).trans rfl) ((M790.2 133 1 (Or.inl (by decide))).trans rfl) (fun j => ((M790.2 336 j (Or.inl (by decide))).trans rfl)) (fun j => ((M790.2 337 j (Or.inl (by decide))).trans rfl))).1 (Or.inl p777.1)).2.1 (MT_st (MG_fr hR ((M790.2 131 3 (Or.inl (by decide))).trans rfl) ((M790.2 131 4 (Or.inl (by decide))).trans rfl) ((M790.2 131 5 (Or.inl (by decide))).trans rfl) ((M790.2 131 11 (Or.inl (by decide))).trans rfl) ((M790.2 131 12 (Or.inl (by decide))).trans rfl) ((M790.2 131 14 (Or.inl (by decide))).trans rfl) (fun j => ((M790.2 132 j (Or.inl (by decide))).trans rfl)) (fun j => ((M790.2 331 j (Or.inl (by decide))).trans rfl)) ((M790.2 133 0 (Or.inl (by decide))).trans rfl) ((M790.2 133 1 (Or.inl (by decide))).trans rfl) (fun j => ((M790.2 336 j (Or.inl (by decide))).trans rfl)) (fun j => ((M790.2 337 j (Or.inl (by decide))).trans rfl))).1 (Or.inl p777.1)).2.2) ck12_186 (Nat.le_of_ble_eq_true rfl) rfl (fun _ => ⟨_, rfl⟩) ⟨_, _, rfl⟩ ⟨Nat.le_of_ble_eq_true rfl, Nat.le_of_ble_eq_true rfl⟩ rfl hl.1 rfl (Nat.le_of_ble_eq_true rfl) dX12_logLine_78 ⟨Nat.le_refl 0, Nat.le_refl 0⟩) X791 (fun t796 H lc q794 X795 => ?_)
        unfold po_X12_skip_q at q794
        obtain ⟨q797, q798, q799, q800, q801, q802, q803⟩ := q794
        have F804 : Fr [(131, 15), (131, 16), (131, 4), (131, 11), (131, 12), (131, 13), (131, 14), (131, 18), (131, 21)] [135, 331] τ t796 := Fr_call F793 q798 (by decide)
        obtain ⟨v805, z806⟩ : ∃ x, t796 131 4 = x := ⟨_, rfl⟩
        rw [z806] at q799
        obtain ⟨v807, z808⟩ : ∃ x, t796 131 11 = x := ⟨_, rfl⟩
        rw [z808] at q800
        have e809 := congrArg Int32.toInt ((M790.2 131 4 (Or.inl (by decide))).trans z4)
        have e810 := congrArg Int32.toInt z806
        have e811 := congrArg Int32.toInt ((M790.2 131 4 (Or.inl (by decide))).trans z4)
        have e812 := congrArg Int32.toInt z806
        have e813 := congrArg Int32.toInt ((M790.2 131 11 (Or.inl (by decide))).trans z7)
        have e814 := congrArg Int32.toInt z808
        have hR815 : MG bb nb 400 an mn t796 (nx bb nb 400 t) := ⟨q803, NR_fr hR.2 ((q798 133 0 (by decide)).trans ((M790.2 133 0 (Or.inl (by decide))).trans rfl)) ((q798 133 1 (by decide)).trans ((M790.2 133 1 (Or.inl (by decide))).trans rfl)) (fun j => ((q798 336 j (by simp [fz])).trans ((M790.2 336 j (Or.inl (by decide))).trans rfl))) (fun j => ((q798 337 j (by simp [fz])).trans ((M790.2 337 j (Or.inl (by decide))).trans rfl)))⟩
        refine r_iload_n S dX12_logLine_81 rfl (lv_at hl 0 rfl) ?_
        refine r_if_ne (tgt := 93) S dX12_logLine_82 (by decide) (fun c816 => ?_) (fun c816 => ?_)
        ·
          exfalso; omega
        ·
          refine r_aload_n S dX12_logLine_85 rfl (lv_at hl 2 rfl) ?_
          refine r_iload_n S dX12_logLine_86 rfl (lv_at hl 1 rfl) ?_
          refine r_iconst S dX12_logLine_87 (by decide) (fun v817 z818 => ?_)
          have r819 := R_eq z818
          refine r_iadd S dX12_logLine_88 (fun v820 z821 => ?_)
          obtain ⟨e822, r823⟩ := i_add (lo := 1) (hi := 157) z821 r787 r819 rfl
          refine r_ki (q_V (As := [.int v820]) (rest := []) (K := 38) (ci := 10) S X795 (c_X12_readSet_t l G t796 q797 v820 r823 (by rw [((q798 131 15 (by decide)).trans ((M790.2 131 15 (Or.inl (by decide))).trans z2))]; exact R_of hf_0 rfl) bb nb an mn (nx bb nb 400 t) hR815 ) ck12_388 (Nat.le_of_ble_eq_true rfl) rfl (fun _ => ⟨_, rfl⟩) ⟨_, _, rfl⟩ ⟨Nat.le_of_ble_eq_true rfl, Nat.le_of_ble_eq_true rfl⟩ rfl hl.1 rfl (Nat.le_of_ble_eq_true rfl) dX12_logLine_89 ⟨Nat.le_refl 0, Nat.le_refl 0⟩) X795 (fun v827 t826 H lc q824 X825 => ?_)
          unfold po_X12_readSet_t at q824
          obtain ⟨q828, q829, q830, q831, q832, q833, q834, q835, q836, q837, q838⟩ := q824
          have F839 : Fr [(131, 15), (131, 16), (131, 4), (131, 11), (131, 12), (131, 13), (131, 14), (131, 18), (131, 21)] [135, 331] τ t826 := Fr_call F804 q829 (by decide)
          obtain ⟨v840, z841⟩ : ∃ x, t826 131 4 = x := ⟨_, rfl⟩
          rw [z841] at q832
          obtain ⟨v842, z843⟩ : ∃ x, t826 131 11 = x := ⟨_, rfl⟩
          rw [z843] at q833
          have e844 := congrArg Int32.toInt z806
          have e845 := congrArg Int32.toInt z841
          have e846 := congrArg Int32.toInt z806
          have e847 := congrArg Int32.toInt z841
          have e848 := congrArg Int32.toInt z808
          have e849 := congrArg Int32.toInt z843
          exact r_ret S hr hlk X825 ⟨q828, F839, q830, (fun h => ⟨(by rw [((q829 131 37 (by decide)).trans ((q798 131 37 (by decide)).trans ((M790.2 131 37 (Or.inl (by decide))).trans z10)))]; exact R_of r786 rfl), (q831 h)⟩), (by rw [z841]; exact R_of q832 rfl), (by rw [z843]; exact R_of q833 rfl), (by have h1_0 := congrArg Int32.toInt z841; have h2_0 := congrArg Int32.toInt z4; omega), (fun j hj => by have ht := congrArg Int32.toInt z10; exact ((q835 j (by have q := tn (i := v820) (by omega); omega)).trans ((q798 135 j (by simp [fz])).trans ((M790.2 135 j (Or.inr (by have q := tn (i := v16) (by omega); omega))).trans rfl)))), (fun h => by have ht := congrArg Int32.toInt z10; have hn : (4 * (τ 131 37).toInt).toNat = v16.toNatClampNeg + 0 := (by have q := tn (i := v16) (by omega); omega); have k1 : v820.toNatClampNeg = v16.toNatClampNeg + 0 + 1 := tnk 1 (by omega) (by omega); rw [hn]; unfold MBr; have e0 := (show t826 135 (v16.toNatClampNeg + 0) = v778 from ((q835 (v16.toNatClampNeg + 0) (by omega)).trans ((q798 135 (v16.toNatClampNeg + 0) (by simp [fz])).trans rfl)).trans (at_k (f := t789 135) M790.1 (by omega))); have e1 := q836 h; rw [k1] at e1; exact Or.inl ⟨by rw [e0]; omega, e1.1, e1.2⟩), (by have h1_0 := congrArg Int32.toInt z841; have h2_0 := congrArg Int32.toInt z4; have h1_1 := congrArg Int32.toInt z843; have h2_1 := congrArg Int32.toInt z7; omega), (by rw [((sLg_8 p777).trans (cif_neg (show ¬ 40 ≤ ln by omega)))]; exact q838)⟩ (nr_bool (R_of (lo := 0) (hi := 1) q830 rfl)) dX12_logLine_92
      ·
        have r850 : R (40) (40) v9 := ⟨by omega, by omega⟩
        refine r_aload_n S dX12_logLine_64 rfl (lv_at hl 2 rfl) ?_
        refine r_iconst S dX12_logLine_65 (by decide) (fun v851 z852 => ?_)
        have r853 := R_eq z852
        refine r_ki (q_V (As := [.int v851]) (rest := []) (K := 38) (ci := 10) S X24 (c_X12_bad_q l G τ hI v851 (R_of (lo := -2147483648) (hi := 2147483647) r853 rfl)) ck12_183 (Nat.le_of_ble_eq_true rfl) rfl (fun _ => ⟨_, rfl⟩) ⟨_, _, rfl⟩ ⟨Nat.le_of_ble_eq_true rfl, Nat.le_of_ble_eq_true rfl⟩ rfl hl.1 rfl (Nat.le_of_ble_eq_true rfl) dX12_logLine_66 ⟨Nat.le_refl 0, Nat.le_refl 0⟩) X24 (fun v857 t856 H lc q854 X855 => ?_)
        unfold po_X12_bad_q at q854
        obtain ⟨q858, q859, q860, q861⟩ := q854
        have F862 : Fr [(131, 15), (131, 16), (131, 4), (131, 11), (131, 12), (131, 13), (131, 14), (131, 18), (131, 21)] [135, 331] τ t856 := Fr_call Fr_rfl q859 (by decide)
        exact r_ret S hr hlk X855 ⟨q858, F862, (R_of q860 rfl), (fun h => by exfalso; omega), (by rw [((q859 131 4 (by decide)).trans z4)]; exact R_of r5 rfl), (by rw [((q859 131 11 (by decide)).trans z7)]; exact R_of r8 rfl), (by have h1_0 := congrArg Int32.toInt ((q859 131 4 (by decide)).trans z4); have h2_0 := congrArg Int32.toInt z4; omega), (fun j hj => by have ht := congrArg Int32.toInt z10; exact ((q859 135 j (by simp [fz])).trans rfl)), (fun h => by exfalso; omega), (by have h1_0 := congrArg Int32.toInt ((q859 131 4 (by decide)).trans z4); have h2_0 := congrArg Int32.toInt z4; have h1_1 := congrArg Int32.toInt ((q859 131 11 (by decide)).trans z7); have h2_1 := congrArg Int32.toInt z7; omega), (QM_b ((sLg_8 p777).trans (cif_pos (by omega))) (by omega) (by rw [q861.1]; omega) (by rw [q861.2]; exact MG_at hR))⟩ (nr_bool (R_of (lo := 0) (hi := 1) q860 rfl)) dX12_logLine_69
def po_X12_log_q (τ : Tau)  (a0 : Int32)  (bb : Nat → Int) (nb : Nat) (an mn : List (List Int)) (r : Int32) (u : Tau) : Prop := Inv u ∧ Fr [(131, 0), (131, 15), (131, 16), (131, 4), (131, 11), (131, 12), (131, 13), (131, 14), (131, 2), (131, 3), (131, 5), (131, 18), (131, 21), (131, 24), (131, 37), (131, 39), (133, 125), (133, 126), (133, 127), (133, 128), (133, 129), (133, 130), (133, 131), (133, 132), (133, 133), (133, 134), (133, 135), (133, 136), (133, 137), (133, 138), (133, 139), (133, 140), (133, 141), (133, 142), (133, 143), (133, 144), (133, 145), (133, 146), (133, 147), (133, 148), (133, 149), (133, 150), (133, 151), (133, 152), (133, 153), (133, 154), (133, 155), (133, 156), (133, 157), (133, 158), (133, 159), (133, 160), (133, 161), (133, 162), (133, 163), (133, 164), (133, 165), (133, 166), (133, 167), (133, 168), (133, 169), (133, 170), (133, 171), (133, 172), (133, 173), (133, 174), (133, 175), (133, 176), (133, 177), (133, 178), (133, 179), (133, 180), (133, 181), (133, 182), (133, 183), (133, 184), (133, 185), (133, 186), (133, 187), (133, 188), (133, 189), (133, 190), (133, 191), (133, 192), (133, 193), (133, 194), (133, 195), (133, 196), (133, 197), (133, 198), (133, 199), (133, 200), (133, 201), (133, 202), (133, 203), (133, 204), (133, 205), (133, 206), (133, 207), (133, 208), (133, 209), (133, 210), (133, 211), (133, 212), (133, 213), (133, 214), (133, 215), (133, 216), (133, 217), (133, 218), (133, 219), (133, 220), (133, 221), (133, 222), (133, 223), (133, 224), (133, 225), (133, 226), (133, 227), (133, 228), (133, 229), (133, 230), (133, 231), (133, 232), (133, 233), (133, 234), (133, 235), (133, 236), (133, 237), (133, 238), (133, 239), (133, 240), (133, 241), (133, 242), (133, 243), (133, 244), (133, 245), (133, 246), (133, 247), (133, 248), (133, 249), (133, 250), (133, 251), (133, 252), (133, 253), (133, 254), (133, 255), (133, 256), (133, 257), (133, 258), (133, 259), (133, 260), (133, 261), (133, 262), (133, 263), (133, 264), (133, 265), (133, 266), (133, 267), (133, 268), (133, 269), (133, 270), (133, 271), (133, 272), (133, 273), (133, 274), (133, 275), (133, 276), (133, 277), (133, 278), (133, 279), (133, 280), (133, 281), (133, 282), (133, 283), (133, 284), (133, 285), (133, 286), (133, 287), (133, 288), (133, 289), (133, 290), (133, 291), (133, 292), (133, 293), (133, 294), (133, 295), (133, 296), (133, 297), (133, 298), (133, 299), (133, 300), (133, 301), (133, 302), (133, 303), (133, 304), (133, 305), (133, 306), (133, 307), (133, 308), (133, 309), (133, 310), (133, 311), (133, 312), (133, 313), (133, 314), (133, 315), (133, 316), (133, 317), (133, 318), (133, 319), (133, 320), (133, 321), (133, 322), (133, 323), (133, 324), (133, 325), (133, 326), (133, 327), (133, 328), (133, 329), (133, 330), (133, 331)] [135, 138, 139, 147, 331] τ u ∧ (0 ≤ a0.toInt ∧ a0.toInt ≤ 1 → (u 131 2).toInt = 0) ∧ (a0.toInt < 0 ∨ 1 < a0.toInt → (u 131 2).toInt = (τ 131 2).toInt) ∧ ((0 ≤ a0.toInt ∧ a0.toInt ≤ 1 → QL (sLo bb nb an mn) (u 131 15).toInt) ∧ (a0.toInt < 0 ∨ 1 < a0.toInt → u 131 15 = τ 131 15))
set_option maxHeartbeats 4000000 in
set_option maxRecDepth 100000 in
theorem c_X12_log_q (l : Launch) (G : Gx) (τ : Tau) (hI : Inv τ) (a0 : Int32) (h_a0 : R (-2147483648) (2147483647) a0) (bb : Nat → Int) (nb : Nat) (an mn : List (List Int)) (hB0 : MB0 bb nb τ) (hNR : NMM τ 133 0 136 0 an ∧ NMM τ 133 1 136 9 mn ∧ RS τ) : Ci l G yX12_log cX12_log 5 (some .int) 7 162 [.ref (G.2.2.2.1 131), .int a0] τ (po_X12_log_q τ  a0  bb nb an mn) := by
  unfold Ci
  refine C_of (own := RX12) (by decide) rfl (Nat.le_of_ble_eq_true rfl) ?_
  intro p e s m below meth c ls S hr hlk X hl
  have hl : lv_has ls 5 [(0, .ref (G.2.2.2.1 131)), (1, .int a0)] := hl
  obtain ⟨v1, z2⟩ : ∃ x, τ 131 2 = x := ⟨_, rfl⟩
  have r3 : R (0) (940) v1 := rd hI rfl z2
  refine r_aload_n S dX12_log_0 rfl (lv_at hl 0 rfl) ?_
  refine r_iconst S dX12_log_1 (by decide) (fun v4 z5 => ?_)
  have r6 := R_eq z5
  refine r_put (K := 38) (ty := .int) S X (Nat.le_of_ble_eq_true rfl) rfl lk12_1_10 (fun _ => ⟨_, rfl, Nat.le_of_ble_eq_true rfl, rfl⟩) (fun _ _ _ h => by cases h; exact ⟨rfl, rfl⟩) rfl rfl dX12_log_2 (fun t7 H lc M8 X9 => ?_)
  have I10 := Inv_mu hI M8 (R_any v4)
  have F11 : Fr [(131, 0), (131, 15), (131, 16), (131, 4), (131, 11), (131, 12), (131, 13), (131, 14), (131, 2), (131, 3), (131, 5), (131, 18), (131, 21), (131, 24), (131, 37), (131, 39), (133, 125), (133, 126), (133, 127), (133, 128), (133, 129), (133, 130), (133, 131), (133, 132), (133, 133), (133, 134), (133, 135), (133, 136), (133, 137), (133, 138), (133, 139), (133, 140), (133, 141), (133, 142), (133, 143), (133, 144), (133, 145), (133, 146), (133, 147), (133, 148), (133, 149), (133, 150), (133, 151), (133, 152), (133, 153), (133, 154), (133, 155), (133, 156), (133, 157), (133, 158), (133, 159), (133, 160), (133, 161), (133, 162), (133, 163), (133, 164), (133, 165), (133, 166), (133, 167), (133, 168), (133, 169), (133, 170), (133, 171), (133, 172), (133, 173), (133, 174), (133, 175), (133, 176), (133, 177), (133, 178), (133, 179), (133, 180), (133, 181), (133, 182), (133, 183), (133, 184), (133, 185), (133, 186), (133, 187), (133, 188), (133, 189), (133, 190), (133, 191), (133, 192), (133, 193), (133, 194), (133, 195), (133, 196), (133, 197), (133, 198), (133, 199), (133, 200), (133, 201), (133, 202), (133, 203), (133, 204), (133, 205), (133, 206), (133, 207), (133, 208), (133, 209), (133, 210), (133, 211), (133, 212), (133, 213), (133, 214), (133, 215), (133, 216), (133, 217), (133, 218), (133, 219), (133, 220), (133, 221), (133, 222), (133, 223), (133, 224), (133, 225), (133, 226), (133, 227), (133, 228), (133, 229), (133, 230), (133, 231), (133, 232), (133, 233), (133, 234), (133, 235), (133, 236), (133, 237), (133, 238), (133, 239), (133, 240), (133, 241), (133, 242), (133, 243), (133, 244), (133, 245), (133, 246), (133, 247), (133, 248), (133, 249), (133, 250), (133, 251), (133, 252), (133, 253), (133, 254), (133, 255), (133, 256), (133, 257), (133, 258), (133, 259), (133, 260), (133, 261), (133, 262), (133, 263), (133, 264), (133, 265), (133, 266), (133, 267), (133, 268), (133, 269), (133, 270), (133, 271), (133, 272), (133, 273), (133, 274), (133, 275), (133, 276), (133, 277), (133, 278), (133, 279), (133, 280), (133, 281), (133, 282), (133, 283), (133, 284), (133, 285), (133, 286), (133, 287), (133, 288), (133, 289), (133, 290), (133, 291), (133, 292), (133, 293), (133, 294), (133, 295), (133, 296), (133, 297), (133, 298), (133, 299), (133, 300), (133, 301), (133, 302), (133, 303), (133, 304), (133, 305), (133, 306), (133, 307), (133, 308), (133, 309), (133, 310), (133, 311), (133, 312), (133, 313), (133, 314), (133, 315), (133, 316), (133, 317), (133, 318), (133, 319), (133, 320), (133, 321), (133, 322), (133, 323), (133, 324), (133, 325), (133, 326), (133, 327), (133, 328), (133, 329), (133, 330), (133, 331)] [135, 138, 139, 147, 331] τ t7 := Fr_mu Fr_rfl M8 (by decide)
  refine r_iload_n S dX12_log_5 rfl (lv_at hl 1 rfl) ?_
  refine r_iconst S dX12_log_6 (by decide) (fun v12 z13 => ?_)
  have r14 := R_eq z13
  refine r_iconst S dX12_log_7 (by decide) (fun v15 z16 => ?_)
  have r17 := R_eq z16
  refine r_ki (q_S (As := [.int a0, .int v12, .int v15]) (rest := []) S X9 (c_X12_isIn_x l G t7 I10 a0 v12 v15 h_a0 (R_of (lo := -2147483648) (hi := 2147483647) r14 rfl) (R_of (lo := -2147483648) (hi := 2147483647) r17 rfl)) ck12_189 ⟨Nat.le_of_ble_eq_true rfl, Nat.le_of_ble_eq_true rfl⟩ rfl hl.1 rfl (Nat.le_of_ble_eq_true rfl) dX12_log_8 ⟨Nat.le_refl 0, Nat.le_refl 0⟩) X9 (fun v21 t20 H lc q18 X19 => ?_)
  unfold po_X12_isIn_x at q18
  obtain ⟨q22, q23, q24, q25⟩ := q18
  rw [q22] at X19
  refine r_if_ne (tgt := 18) S dX12_log_11 (by decide) (fun c26 => ?_) (fun c26 => ?_)
  ·
    have r27 : R (1) (1) v21 := ⟨by omega, by omega⟩
    obtain ⟨p28, p29⟩ := q24 (by omega)
    have r30 : R (0) (1) a0 := ⟨by omega, by omega⟩
    refine r_aload_n S dX12_log_18 rfl (lv_at hl 0 rfl) ?_
    refine r_sipush S dX12_log_19 (by decide) (fun v31 z32 => ?_)
    have r33 := R_eq z32
    refine r_kv (q_V (As := [.int v31]) (rest := []) (K := 38) (ci := 10) S X19 (c_X12_taken_q l G t7 I10 v31 (R_of (lo := 0) (hi := 940) r33 rfl)) ck12_237 (Nat.le_of_ble_eq_true rfl) rfl (fun _ => ⟨_, rfl⟩) ⟨_, _, rfl⟩ ⟨Nat.le_of_ble_eq_true rfl, Nat.le_of_ble_eq_true rfl⟩ rfl hl.1 rfl (Nat.le_of_ble_eq_true rfl) dX12_log_22 ⟨Nat.le_refl 0, Nat.le_refl 0⟩) X19 (fun t36 H lc q34 X35 => ?_)
    unfold po_X12_taken_q at q34
    obtain ⟨q37, q38, q39, q40, q41, q42⟩ := q34
    have F43 : Fr [(131, 0), (131, 15), (131, 16), (131, 4), (131, 11), (131, 12), (131, 13), (131, 14), (131, 2), (131, 3), (131, 5), (131, 18), (131, 21), (131, 24), (131, 37), (131, 39), (133, 125), (133, 126), (133, 127), (133, 128), (133, 129), (133, 130), (133, 131), (133, 132), (133, 133), (133, 134), (133, 135), (133, 136), (133, 137), (133, 138), (133, 139), (133, 140), (133, 141), (133, 142), (133, 143), (133, 144), (133, 145), (133, 146), (133, 147), (133, 148), (133, 149), (133, 150), (133, 151), (133, 152), (133, 153), (133, 154), (133, 155), (133, 156), (133, 157), (133, 158), (133, 159), (133, 160), (133, 161), (133, 162), (133, 163), (133, 164), (133, 165), (133, 166), (133, 167), (133, 168), (133, 169), (133, 170), (133, 171), (133, 172), (133, 173), (133, 174), (133, 175), (133, 176), (133, 177), (133, 178), (133, 179), (133, 180), (133, 181), (133, 182), (133, 183), (133, 184), (133, 185), (133, 186), (133, 187), (133, 188), (133, 189), (133, 190), (133, 191), (133, 192), (133, 193), (133, 194), (133, 195), (133, 196), (133, 197), (133, 198), (133, 199), (133, 200), (133, 201), (133, 202), (133, 203), (133, 204), (133, 205), (133, 206), (133, 207), (133, 208), (133, 209), (133, 210), (133, 211), (133, 212), (133, 213), (133, 214), (133, 215), (133, 216), (133, 217), (133, 218), (133, 219), (133, 220), (133, 221), (133, 222), (133, 223), (133, 224), (133, 225), (133, 226), (133, 227), (133, 228), (133, 229), (133, 230), (133, 231), (133, 232), (133, 233), (133, 234), (133, 235), (133, 236), (133, 237), (133, 238), (133, 239), (133, 240), (133, 241), (133, 242), (133, 243), (133, 244), (133, 245), (133, 246), (133, 247), (133, 248), (133, 249), (133, 250), (133, 251), (133, 252), (133, 253), (133, 254), (133, 255), (133, 256), (133, 257), (133, 258), (133, 259), (133, 260), (133, 261), (133, 262), (133, 263), (133, 264), (133, 265), (133, 266), (133, 267), (133, 268), (133, 269), (133, 270), (133, 271), (133, 272), (133, 273), (133, 274), (133, 275), (133, 276), (133, 277), (133, 278), (133, 279), (133, 280), (133, 281), (133, 282), (133, 283), (133, 284), (133, 285), (133, 286), (133, 287), (133, 288), (133, 289), (133, 290), (133, 291), (133, 292), (133, 293), (133, 294), (133, 295), (133, 296), (133, 297), (133, 298), (133, 299), (133, 300), (133, 301), (133, 302), (133, 303), (133, 304), (133, 305), (133, 306), (133, 307), (133, 308), (133, 309), (133, 310), (133, 311), (133, 312), (133, 313), (133, 314), (133, 315), (133, 316), (133, 317), (133, 318), (133, 319), (133, 320), (133, 321), (133, 322), (133, 323), (133, 324), (133, 325), (133, 326), (133, 327), (133, 328), (133, 329), (133, 330), (133, 331)] [135, 138, 139, 147, 331] τ t36 := Fr_call F11 q38 (by decide)
    obtain ⟨v44, z45⟩ : ∃ x, t36 131 2 = x := ⟨_, rfl⟩
    rw [z45] at q39
    obtain ⟨v46, z47⟩ : ∃ x, t36 131 4 = x := ⟨_, rfl⟩
    rw [z47] at q41
    refine r_aload_n S dX12_log_25 rfl (lv_at hl 0 rfl) ?_
    refine r_iconst S dX12_log_26 (by decide) (fun v48 z49 => ?_)
    have r50 := R_eq z49
    refine r_put (K := 38) (ty := .int) S X35 (Nat.le_of_ble_eq_true rfl) rfl lk12_174_10 (fun _ => ⟨_, rfl, Nat.le_of_ble_eq_true rfl, rfl⟩) (fun _ _ _ h => by cases h; exact ⟨rfl, rfl⟩) rfl rfl dX12_log_27 (fun t51 H lc M52 X53 => ?_)
    have I54 := Inv_mu q37 M52 (R_any v48)
    have F55 : Fr [(131, 0), (131, 15), (131, 16), (131, 4), (131, 11), (131, 12), (131, 13), (131, 14), (131, 2), (131, 3), (131, 5), (131, 18), (131, 21), (131, 24), (131, 37), (131, 39), (133, 125), (133, 126), (133, 127), (133, 128), (133, 129), (133, 130), (133, 131), (133, 132), (133, 133), (133, 134), (133, 135), (133, 136), (133, 137), (133, 138), (133, 139), (133, 140), (133, 141), (133, 142), (133, 143), (133, 144), (133, 145), (133, 146), (133, 147), (133, 148), (133, 149), (133, 150), (133, 151), (133, 152), (133, 153), (133, 154), (133, 155), (133, 156), (133, 157), (133, 158), (133, 159), (133, 160), (133, 161), (133, 162), (133, 163), (133, 164), (133, 165), (133, 166), (133, 167), (133, 168), (133, 169), (133, 170), (133, 171), (133, 172), (133, 173), (133, 174), (133, 175), (133, 176), (133, 177), (133, 178), (133, 179), (133, 180), (133, 181), (133, 182), (133, 183), (133, 184), (133, 185), (133, 186), (133, 187), (133, 188), (133, 189), (133, 190), (133, 191), (133, 192), (133, 193), (133, 194), (133, 195), (133, 196), (133, 197), (133, 198), (133, 199), (133, 200), (133, 201), (133, 202), (133, 203), (133, 204), (133, 205), (133, 206), (133, 207), (133, 208), (133, 209), (133, 210), (133, 211), (133, 212), (133, 213), (133, 214), (133, 215), (133, 216), (133, 217), (133, 218), (133, 219), (133, 220), (133, 221), (133, 222), (133, 223), (133, 224), (133, 225), (133, 226), (133, 227), (133, 228), (133, 229), (133, 230), (133, 231), (133, 232), (133, 233), (133, 234), (133, 235), (133, 236), (133, 237), (133, 238), (133, 239), (133, 240), (133, 241), (133, 242), (133, 243), (133, 244), (133, 245), (133, 246), (133, 247), (133, 248), (133, 249), (133, 250), (133, 251), (133, 252), (133, 253), (133, 254), (133, 255), (133, 256), (133, 257), (133, 258), (133, 259), (133, 260), (133, 261), (133, 262), (133, 263), (133, 264), (133, 265), (133, 266), (133, 267), (133, 268), (133, 269), (133, 270), (133, 271), (133, 272), (133, 273), (133, 274), (133, 275), (133, 276), (133, 277), (133, 278), (133, 279), (133, 280), (133, 281), (133, 282), (133, 283), (133, 284), (133, 285), (133, 286), (133, 287), (133, 288), (133, 289), (133, 290), (133, 291), (133, 292), (133, 293), (133, 294), (133, 295), (133, 296), (133, 297), (133, 298), (133, 299), (133, 300), (133, 301), (133, 302), (133, 303), (133, 304), (133, 305), (133, 306), (133, 307), (133, 308), (133, 309), (133, 310), (133, 311), (133, 312), (133, 313), (133, 314), (133, 315), (133, 316), (133, 317), (133, 318), (133, 319), (133, 320), (133, 321), (133, 322), (133, 323), (133, 324), (133, 325), (133, 326), (133, 327), (133, 328), (133, 329), (133, 330), (133, 331)] [135, 138, 139, 147, 331] τ t51 := Fr_mu F43 M52 (by decide)
    refine r_aload_n S dX12_log_30 rfl (lv_at hl 0 rfl) ?_
    refine r_iconst S dX12_log_31 (by decide) (fun v56 z57 => ?_)
    have r58 := R_eq z57
    refine r_put (K := 38) (ty := .int) S X53 (Nat.le_of_ble_eq_true rfl) rfl lk12_385_10 (fun _ => ⟨_, rfl, Nat.le_of_ble_eq_true rfl, rfl⟩) (fun _ _ _ h => by cases h; exact ⟨rfl, rfl⟩) rfl rfl dX12_log_32 (fun t59 H lc M60 X61 => ?_)
    have I62 := Inv_mu I54 M60 (show Rg (kd 131) 37 v56 from (R_of (lo := 0) (hi := 40) r58 rfl))
    have F63 : Fr [(131, 0), (131, 15), (131, 16), (131, 4), (131, 11), (131, 12), (131, 13), (131, 14), (131, 2), (131, 3), (131, 5), (131, 18), (131, 21), (131, 24), (131, 37), (131, 39), (133, 125), (133, 126), (133, 127), (133, 128), (133, 129), (133, 130), (133, 131), (133, 132), (133, 133), (133, 134), (133, 135), (133, 136), (133, 137), (133, 138), (133, 139), (133, 140), (133, 141), (133, 142), (133, 143), (133, 144), (133, 145), (133, 146), (133, 147), (133, 148), (133, 149), (133, 150), (133, 151), (133, 152), (133, 153), (133, 154), (133, 155), (133, 156), (133, 157), (133, 158), (133, 159), (133, 160), (133, 161), (133, 162), (133, 163), (133, 164), (133, 165), (133, 166), (133, 167), (133, 168), (133, 169), (133, 170), (133, 171), (133, 172), (133, 173), (133, 174), (133, 175), (133, 176), (133, 177), (133, 178), (133, 179), (133, 180), (133, 181), (133, 182), (133, 183), (133, 184), (133, 185), (133, 186), (133, 187), (133, 188), (133, 189), (133, 190), (133, 191), (133, 192), (133, 193), (133, 194), (133, 195), (133, 196), (133, 197), (133, 198), (133, 199), (133, 200), (133, 201), (133, 202), (133, 203), (133, 204), (133, 205), (133, 206), (133, 207), (133, 208), (133, 209), (133, 210), (133, 211), (133, 212), (133, 213), (133, 214), (133, 215), (133, 216), (133, 217), (133, 218), (133, 219), (133, 220), (133, 221), (133, 222), (133, 223), (133, 224), (133, 225), (133, 226), (133, 227), (133, 228), (133, 229), (133, 230), (133, 231), (133, 232), (133, 233), (133, 234), (133, 235), (133, 236), (133, 237), (133, 238), (133, 239), (133, 240), (133, 241), (133, 242), (133, 243), (133, 244), (133, 245), (133, 246), (133, 247), (133, 248), (133, 249), (133, 250), (133, 251), (133, 252), (133, 253), (133, 254), (133, 255), (133, 256), (133, 257), (133, 258), (133, 259), (133, 260), (133, 261), (133, 262), (133, 263), (133, 264), (133, 265), (133, 266), (133, 267), (133, 268), (133, 269), (133, 270), (133, 271), (133, 272), (133, 273), (133, 274), (133, 275), (133, 276), (133, 277), (133, 278), (133, 279), (133, 280), (133, 281), (133, 282), (133, 283), (133, 284), (133, 285), (133, 286), (133, 287), (133, 288), (133, 289), (133, 290), (133, 291), (133, 292), (133, 293), (133, 294), (133, 295), (133, 296), (133, 297), (133, 298), (133, 299), (133, 300), (133, 301), (133, 302), (133, 303), (133, 304), (133, 305), (133, 306), (133, 307), (133, 308), (133, 309), (133, 310), (133, 311), (133, 312), (133, 313), (133, 314), (133, 315), (133, 316), (133, 317), (133, 318), (133, 319), (133, 320), (133, 321), (133, 322), (133, 323), (133, 324), (133, 325), (133, 326), (133, 327), (133, 328), (133, 329), (133, 330), (133, 331)] [135, 138, 139, 147, 331] τ t59 := Fr_mu F55 M60 (by decide)
    refine r_aload_n S dX12_log_35 rfl (lv_at hl 0 rfl) ?_
    refine r_kv (q_V (As := []) (rest := []) (K := 38) (ci := 10) S X61 (c_X12_skip_q l G t59 I62 bb nb 400 0 ⟨by have q := congrArg Int32.toInt ((M60.2 131 3 (Or.inr (by decide))).trans ((M52.2 131 3 (Or.inr (by decide))).trans (q40.trans ((M8.2 131 2 (Or.inr (by decide))).trans z2)))); have q2 := congrArg Int32.toInt z2; have q3 := hB0.1; omega, hB0.2.1, by rw [((M60.2 131 5 (Or.inr (by decide))).trans ((M52.2 131 5 (Or.inr (by decide))).trans q42))]; omega, fun j hj => by rw [(fun j => F63 132 j (by simp [fz])) j]; exact hB0.2.2 j hj⟩ (by rw [((M60.2 131 4 (Or.inr (by decide))).trans ((M52.2 131 4 (Or.inr (by decide))).trans z47))]; omega) (Nat.zero_le _)) ck12_186 (Nat.le_of_ble_eq_true rfl) rfl (fun _ => ⟨_, rfl⟩) ⟨_, _, rfl⟩ ⟨Nat.le_of_ble_eq_true rfl, Nat.le_of_ble_eq_true rfl⟩ rfl hl.1 rfl (Nat.le_of_ble_eq_true rfl) dX12_log_36 ⟨Nat.le_refl 0, Nat.le_refl 0⟩) X61 (fun t66 H lc q64 X65 => ?_)
    unfold po_X12_skip_q at q64
    obtain ⟨q67, q68, q69, q70, q71, q72, q73⟩ := q64
    have F74 : Fr [(131, 0), (131, 15), (131, 16), (131, 4), (131, 11), (131, 12), (131, 13), (131, 14), (131, 2), (131, 3), (131, 5), (131, 18), (131, 21), (131, 24), (131, 37), (131, 39), (133, 125), (133, 126), (133, 127), (133, 128), (133, 129), (133, 130), (133, 131), (133, 132), (133, 133), (133, 134), (133, 135), (133, 136), (133, 137), (133, 138), (133, 139), (133, 140), (133, 141), (133, 142), (133, 143), (133, 144), (133, 145), (133, 146), (133, 147), (133, 148), (133, 149), (133, 150), (133, 151), (133, 152), (133, 153), (133, 154), (133, 155), (133, 156), (133, 157), (133, 158), (133, 159), (133, 160), (133, 161), (133, 162), (133, 163), (133, 164), (133, 165), (133, 166), (133, 167), (133, 168), (133, 169), (133, 170), (133, 171), (133, 172), (133, 173), (133, 174), (133, 175), (133, 176), (133, 177), (133, 178), (133, 179), (133, 180), (133, 181), (133, 182), (133, 183), (133, 184), (133, 185), (133, 186), (133, 187), (133, 188), (133, 189), (133, 190), (133, 191), (133, 192), (133, 193), (133, 194), (133, 195), (133, 196), (133, 197), (133, 198), (133, 199), (133, 200), (133, 201), (133, 202), (133, 203), (133, 204), (133, 205), (133, 206), (133, 207), (133, 208), (133, 209), (133, 210), (133, 211), (133, 212), (133, 213), (133, 214), (133, 215), (133, 216), (133, 217), (133, 218), (133, 219), (133, 220), (133, 221), (133, 222), (133, 223), (133, 224), (133, 225), (133, 226), (133, 227), (133, 228), (133, 229), (133, 230), (133, 231), (133, 232), (133, 233), (133, 234), (133, 235), (133, 236), (133, 237), (133, 238), (133, 239), (133, 240), (133, 241), (133, 242), (133, 243), (133, 244), (133, 245), (133, 246), (133, 247), (133, 248), (133, 249), (133, 250), (133, 251), (133, 252), (133, 253), (133, 254), (133, 255), (133, 256), (133, 257), (133, 258), (133, 259), (133, 260), (133, 261), (133, 262), (133, 263), (133, 264), (133, 265), (133, 266), (133, 267), (133, 268), (133, 269), (133, 270), (133, 271), (133, 272), (133, 273), (133, 274), (133, 275), (133, 276), (133, 277), (133, 278), (133, 279), (133, 280), (133, 281), (133, 282), (133, 283), (133, 284), (133, 285), (133, 286), (133, 287), (133, 288), (133, 289), (133, 290), (133, 291), (133, 292), (133, 293), (133, 294), (133, 295), (133, 296), (133, 297), (133, 298), (133, 299), (133, 300), (133, 301), (133, 302), (133, 303), (133, 304), (133, 305), (133, 306), (133, 307), (133, 308), (133, 309), (133, 310), (133, 311), (133, 312), (133, 313), (133, 314), (133, 315), (133, 316), (133, 317), (133, 318), (133, 319), (133, 320), (133, 321), (133, 322), (133, 323), (133, 324), (133, 325), (133, 326), (133, 327), (133, 328), (133, 329), (133, 330), (133, 331)] [135, 138, 139, 147, 331] τ t66 := Fr_call F63 q68 (by decide)
    obtain ⟨v75, z76⟩ : ∃ x, t66 131 4 = x := ⟨_, rfl⟩
    rw [z76] at q69
    obtain ⟨v77, z78⟩ : ∃ x, t66 131 11 = x := ⟨_, rfl⟩
    rw [z78] at q70
    have e79 := congrArg Int32.toInt ((M60.2 131 4 (Or.inr (by decide))).trans ((M52.2 131 4 (Or.inr (by decide))).trans z47))
    have e80 := congrArg Int32.toInt z76
    have e81 := congrArg Int32.toInt ((M60.2 131 4 (Or.inr (by decide))).trans ((M52.2 131 4 (Or.inr (by decide))).trans z47))
    have e82 := congrArg Int32.toInt z76
    have e83 := congrArg Int32.toInt z78
    have hR84 : MG bb nb 400 an mn t66 (lex bb nb 400 0) := ⟨q73, NR_fr hNR ((q68 133 0 (by decide)).trans ((M60.2 133 0 (Or.inl (by decide))).trans ((M52.2 133 0 (Or.inl (by decide))).trans ((q38 133 0 (by decide)).trans ((M8.2 133 0 (Or.inl (by decide))).trans rfl))))) ((q68 133 1 (by decide)).trans ((M60.2 133 1 (Or.inl (by decide))).trans ((M52.2 133 1 (Or.inl (by decide))).trans ((q38 133 1 (by decide)).trans ((M8.2 133 1 (Or.inl (by decide))).trans rfl))))) (fun j => ((q68 336 j (by simp [fz])).trans ((M60.2 336 j (Or.inl (by decide))).trans ((M52.2 336 j (Or.inl (by decide))).trans ((q38 336 j (by simp [fz])).trans ((M8.2 336 j (Or.inl (by decide))).trans rfl)))))) (fun j => ((q68 337 j (by simp [fz])).trans ((M60.2 337 j (Or.inl (by decide))).trans ((M52.2 337 j (Or.inl (by decide))).trans ((q38 337 j (by simp [fz])).trans ((M8.2 337 j (Or.inl (by decide))).trans rfl))))))⟩
    have L1690 : ∀ (n : Nat) (t1670 : Tau) (H : Heap) (lc : List Loc) (ls : Array Slot) (f1678 : Int32) (f1681 : Int32) (f1684 : Int32) (f1687 : Int32), Xd G s H lc t1670 → Inv t1670 → Fr [(131, 0), (131, 15), (131, 16), (131, 4), (131, 11), (131, 12), (131, 13), (131, 14), (131, 2), (131, 3), (131, 5), (131, 18), (131, 21), (131, 24), (131, 37), (131, 39), (133, 125), (133, 126), (133, 127), (133, 128), (133, 129), (133, 130), (133, 131), (133, 132), (133, 133), (133, 134), (133, 135), (133, 136), (133, 137), (133, 138), (133, 139), (133, 140), (133, 141), (133, 142), (133, 143), (133, 144), (133, 145), (133, 146), (133, 147), (133, 148), (133, 149), (133, 150), (133, 151), (133, 152), (133, 153), (133, 154), (133, 155), (133, 156), (133, 157), (133, 158), (133, 159), (133, 160), (133, 161), (133, 162), (133, 163), (133, 164), (133, 165), (133, 166), (133, 167), (133, 168), (133, 169), (133, 170), (133, 171), (133, 172), (133, 173), (133, 174), (133, 175), (133, 176), (133, 177), (133, 178), (133, 179), (133, 180), (133, 181), (133, 182), (133, 183), (133, 184), (133, 185), (133, 186), (133, 187), (133, 188), (133, 189), (133, 190), (133, 191), (133, 192), (133, 193), (133, 194), (133, 195), (133, 196), (133, 197), (133, 198), (133, 199), (133, 200), (133, 201), (133, 202), (133, 203), (133, 204), (133, 205), (133, 206), (133, 207), (133, 208), (133, 209), (133, 210), (133, 211), (133, 212), (133, 213), (133, 214), (133, 215), (133, 216), (133, 217), (133, 218), (133, 219), (133, 220), (133, 221), (133, 222), (133, 223), (133, 224), (133, 225), (133, 226), (133, 227), (133, 228), (133, 229), (133, 230), (133, 231), (133, 232), (133, 233), (133, 234), (133, 235), (133, 236), (133, 237), (133, 238), (133, 239), (133, 240), (133, 241), (133, 242), (133, 243), (133, 244), (133, 245), (133, 246), (133, 247), (133, 248), (133, 249), (133, 250), (133, 251), (133, 252), (133, 253), (133, 254), (133, 255), (133, 256), (133, 257), (133, 258), (133, 259), (133, 260), (133, 261), (133, 262), (133, 263), (133, 264), (133, 265), (133, 266), (133, 267), (133, 268), (133, 269), (133, 270), (133, 271), (133, 272), (133, 273), (133, 274), (133, 275), (133, 276), (133, 277), (133, 278), (133, 279), (133, 280), (133, 281), (133, 282), (133, 283), (133, 284), (133, 285), (133, 286), (133, 287), (133, 288), (133, 289), (133, 290), (133, 291), (133, 292), (133, 293), (133, 294), (133, 295), (133, 296), (133, 297), (133, 298), (133, 299), (133, 300), (133, 301), (133, 302), (133, 303), (133, 304), (133, 305), (133, 306), (133, 307), (133, 308), (133, 309), (133, 310), (133, 311), (133, 312), (133, 313), (133, 314), (133, 315), (133, 316), (133, 317), (133, 318), (133, 319), (133, 320), (133, 321), (133, 322), (133, 323), (133, 324), (133, 325), (133, 326), (133, 327), (133, 328), (133, 329), (133, 330), (133, 331)] [135, 138, 139, 147, 331] τ t1670 → t1670 131 0 = v4 → t1670 131 2 = v44 → t1670 131 3 = v1 → t1670 131 5 = v31 → t1670 131 15 = f1678 → R (0) (0) f1678 → t1670 131 37 = f1681 → R (0) (40) f1681 → t1670 131 4 = f1684 → R (0) (940) f1684 → t1670 131 11 = f1687 → R (0) (4) f1687 → RW t1670 f1681 → (∃ tc : Tk, MG bb nb 400 an mn t1670 tc ∧ lRd bb nb 400 an mn (41 - (f1681).toInt.toNat) tc (f1681).toInt.toNat = lRd bb nb 400 an mn 41 (lex bb nb 400 0) 0) → 0 ≤ (f1681).toInt ∧ (f1681).toInt ≤ 40 → lv_has ls 5 [(0, .ref (G.2.2.2.1 131)), (1, .int a0)] → (940 - f1684.toInt).toNat < n → W p l e (Rm 7 162) s m ([.ref (G.2.2.2.1 131), .int a0] : List Value).toArray below meth c H lc 0 0 (MQ below (va_Qi (po_X12_log_q τ  a0  bb nb an mn) (Bs G) G.2.2.2.2) ([.ref (G.2.2.2.1 131), .int a0] : List Value).toArray s 0 0 G.2.2.2.2) (F0 m 39 ls []) := by
      intro n
      induction n with
      | zero => intros; omega
      | succ n ih1694 =>
        intro t1670 H lc ls f1678 f1681 f1684 f1687 X1673 I1671 F1672 z1674 z1675 z1676 z1677 z1680 r1679 z1683 r1682 z1686 r1685 z1689 r1688 x1691 x1692 x1693 hl hm
        obtain ⟨tc1695, hR1696, he1697⟩ := x1692
        have r1698 : R (0) (40) f1681 := ⟨by omega, by omega⟩
        refine r_aload_n S dX12_log_39 rfl (lv_at hl 0 rfl) ?_
        refine r_geti (K := 38) S X1673 (Nat.le_of_ble_eq_true rfl) rfl lk12_157_10 (fun _ => ⟨_, rfl, rfl⟩) z1689 dX12_log_40 ?_
        refine r_if_eq (tgt := 83) S dX12_log_43 (by decide) (fun c1699 => ?_) (fun c1699 => ?_)
        ·
          have r1700 : R (0) (0) f1687 := ⟨by omega, by omega⟩
          refine r_aload_n S dX12_log_83 rfl (lv_at hl 0 rfl) ?_
          refine r_kv (q_V (As := []) (rest := []) (K := 38) (ci := 10) S X1673 (c_X12_tries l G t1670 I1671 ) ck12_379 (Nat.le_of_ble_eq_true rfl) rfl (fun _ => ⟨_, rfl⟩) ⟨_, _, rfl⟩ ⟨Nat.le_of_ble_eq_true rfl, Nat.le_of_ble_eq_true rfl⟩ rfl hl.1 rfl (Nat.le_of_ble_eq_true rfl) dX12_log_84 ⟨Nat.le_refl 0, Nat.le_refl 0⟩) X1673 (fun t1703 H lc q1701 X1702 => ?_)
          unfold po_X12_tries at q1701
          obtain ⟨q1704, q1705⟩ := q1701
          have F1706 : Fr [(131, 0), (131, 15), (131, 16), (131, 4), (131, 11), (131, 12), (131, 13), (131, 14), (131, 2), (131, 3), (131, 5), (131, 18), (131, 21), (131, 24), (131, 37), (131, 39), (133, 125), (133, 126), (133, 127), (133, 128), (133, 129), (133, 130), (133, 131), (133, 132), (133, 133), (133, 134), (133, 135), (133, 136), (133, 137), (133, 138), (133, 139), (133, 140), (133, 141), (133, 142), (133, 143), (133, 144), (133, 145), (133, 146), (133, 147), (133, 148), (133, 149), (133, 150), (133, 151), (133, 152), (133, 153), (133, 154), (133, 155), (133, 156), (133, 157), (133, 158), (133, 159), (133, 160), (133, 161), (133, 162), (133, 163), (133, 164), (133, 165), (133, 166), (133, 167), (133, 168), (133, 169), (133, 170), (133, 171), (133, 172), (133, 173), (133, 174), (133, 175), (133, 176), (133, 177), (133, 178), (133, 179), (133, 180), (133, 181), (133, 182), (133, 183), (133, 184), (133, 185), (133, 186), (133, 187), (133, 188), (133, 189), (133, 190), (133, 191), (133, 192), (133, 193), (133, 194), (133, 195), (133, 196), (133, 197), (133, 198), (133, 199), (133, 200), (133, 201), (133, 202), (133, 203), (133, 204), (133, 205), (133, 206), (133, 207), (133, 208), (133, 209), (133, 210), (133, 211), (133, 212), (133, 213), (133, 214), (133, 215), (133, 216), (133, 217), (133, 218), (133, 219), (133, 220), (133, 221), (133, 222), (133, 223), (133, 224), (133, 225), (133, 226), (133, 227), (133, 228), (133, 229), (133, 230), (133, 231), (133, 232), (133, 233), (133, 234), (133, 235), (133, 236), (133, 237), (133, 238), (133, 239), (133, 240), (133, 241), (133, 242), (133, 243), (133, 244), (133, 245), (133, 246), (133, 247), (133, 248), (133, 249), (133, 250), (133, 251), (133, 252), (133, 253), (133, 254), (133, 255), (133, 256), (133, 257), (133, 258), (133, 259), (133, 260), (133, 261), (133, 262), (133, 263), (133, 264), (133, 265), (133, 266), (133, 267), (133, 268), (133, 269), (133, 270), (133, 271), (133, 272), (133, 273), (133, 274), (133, 275), (133, 276), (133, 277), (133, 278), (133, 279), (133, 280), (133, 281), (133, 282), (133, 283), (133, 284), (133, 285), (133, 286), (133, 287), (133, 288), (133, 289), (133, 290), (133, 291), (133, 292), (133, 293), (133, 294), (133, 295), (133, 296), (133, 297), (133, 298), (133, 299), (133, 300), (133, 301), (133, 302), (133, 303), (133, 304), (133, 305), (133, 306), (133, 307), (133, 308), (133, 309), (133, 310), (133, 311), (133, 312), (133, 313), (133, 314), (133, 315), (133, 316), (133, 317), (133, 318), (133, 319), (133, 320), (133, 321), (133, 322), (133, 323), (133, 324), (133, 325), (133, 326), (133, 327), (133, 328), (133, 329), (133, 330), (133, 331)] [135, 138, 139, 147, 331] τ t1703 := Fr_call F1672 q1705 (by decide)
          refine r_iconst S dX12_log_87 (by decide) (fun v1707 z1708 => ?_)
          have r1709 := R_eq z1708
          refine r_istore_n (lv' := [(2, .int v1707), (0, .ref (G.2.2.2.1 131)), (1, .int a0)]) S dX12_log_88 rfl hl (by decide) rfl (fun ls hl => ?_)
          have L1875 : ∀ (n : Nat) (t1863 : Tau) (H : Heap) (lc : List Loc) (ls : Array Slot) (i1861 : Int32), Xd G s H lc t1863 → Inv t1863 → Fr [(131, 0), (131, 15), (131, 16), (131, 4), (131, 11), (131, 12), (131, 13), (131, 14), (131, 2), (131, 3), (131, 5), (131, 18), (131, 21), (131, 24), (131, 37), (131, 39), (133, 125), (133, 126), (133, 127), (133, 128), (133, 129), (133, 130), (133, 131), (133, 132), (133, 133), (133, 134), (133, 135), (133, 136), (133, 137), (133, 138), (133, 139), (133, 140), (133, 141), (133, 142), (133, 143), (133, 144), (133, 145), (133, 146), (133, 147), (133, 148), (133, 149), (133, 150), (133, 151), (133, 152), (133, 153), (133, 154), (133, 155), (133, 156), (133, 157), (133, 158), (133, 159), (133, 160), (133, 161), (133, 162), (133, 163), (133, 164), (133, 165), (133, 166), (133, 167), (133, 168), (133, 169), (133, 170), (133, 171), (133, 172), (133, 173), (133, 174), (133, 175), (133, 176), (133, 177), (133, 178), (133, 179), (133, 180), (133, 181), (133, 182), (133, 183), (133, 184), (133, 185), (133, 186), (133, 187), (133, 188), (133, 189), (133, 190), (133, 191), (133, 192), (133, 193), (133, 194), (133, 195), (133, 196), (133, 197), (133, 198), (133, 199), (133, 200), (133, 201), (133, 202), (133, 203), (133, 204), (133, 205), (133, 206), (133, 207), (133, 208), (133, 209), (133, 210), (133, 211), (133, 212), (133, 213), (133, 214), (133, 215), (133, 216), (133, 217), (133, 218), (133, 219), (133, 220), (133, 221), (133, 222), (133, 223), (133, 224), (133, 225), (133, 226), (133, 227), (133, 228), (133, 229), (133, 230), (133, 231), (133, 232), (133, 233), (133, 234), (133, 235), (133, 236), (133, 237), (133, 238), (133, 239), (133, 240), (133, 241), (133, 242), (133, 243), (133, 244), (133, 245), (133, 246), (133, 247), (133, 248), (133, 249), (133, 250), (133, 251), (133, 252), (133, 253), (133, 254), (133, 255), (133, 256), (133, 257), (133, 258), (133, 259), (133, 260), (133, 261), (133, 262), (133, 263), (133, 264), (133, 265), (133, 266), (133, 267), (133, 268), (133, 269), (133, 270), (133, 271), (133, 272), (133, 273), (133, 274), (133, 275), (133, 276), (133, 277), (133, 278), (133, 279), (133, 280), (133, 281), (133, 282), (133, 283), (133, 284), (133, 285), (133, 286), (133, 287), (133, 288), (133, 289), (133, 290), (133, 291), (133, 292), (133, 293), (133, 294), (133, 295), (133, 296), (133, 297), (133, 298), (133, 299), (133, 300), (133, 301), (133, 302), (133, 303), (133, 304), (133, 305), (133, 306), (133, 307), (133, 308), (133, 309), (133, 310), (133, 311), (133, 312), (133, 313), (133, 314), (133, 315), (133, 316), (133, 317), (133, 318), (133, 319), (133, 320), (133, 321), (133, 322), (133, 323), (133, 324), (133, 325), (133, 326), (133, 327), (133, 328), (133, 329), (133, 330), (133, 331)] [135, 138, 139, 147, 331] τ t1863 → R (0) (4) i1861 → t1863 131 0 = v4 → t1863 131 2 = v44 → t1863 131 3 = v1 → t1863 131 5 = v31 → t1863 131 15 = f1678 → t1863 131 37 = f1681 → t1863 131 4 = f1684 → t1863 131 11 = f1687 → RW t1863 f1681 → lv_has ls 5 [(0, .ref (G.2.2.2.1 131)), (1, .int a0), (2, .int i1861)] → (4 - i1861.toInt).toNat < n → W p l e (Rm 7 162) s m ([.ref (G.2.2.2.1 131), .int a0] : List Value).toArray below meth c H lc 0 0 (MQ below (va_Qi (po_X12_log_q τ  a0  bb nb an mn) (Bs G) G.2.2.2.2) ([.ref (G.2.2.2.1 131), .int a0] : List Value).toArray s 0 0 G.2.2.2.2) (F0 m 89 ls []) := by
            intro n
            induction n with
            | zero => intros; omega
            | succ n ih1877 =>
              intro t1863 H lc ls i1861 X1866 I1864 F1865 r1862 z1867 z1868 z1869 z1870 z1871 z1872 z1873 z1874 x1876 hl hm
              refine r_iload_n S dX12_log_89 rfl (lv_at hl 2 rfl) ?_
              refine r_iconst S dX12_log_90 (by decide) (fun v1878 z1879 => ?_)
              have r1880 := R_eq z1879
              refine r_icmp_ge (tgt := 107) S dX12_log_91 (by decide) (fun c1881 => ?_) (fun c1881 => ?_)
              ·
                have r1882 : R (4) (4) i1861 := ⟨by omega, by omega⟩
                refine r_aload_n S dX12_log_107 rfl (lv_at hl 0 rfl) ?_
                refine r_get (K := 38) (v := .ref (G.2.2.2.1 133)) S X1866 (Nat.le_of_ble_eq_true rfl) rfl lk12_33_10 (fun _ => ⟨_, rfl, rfl⟩) dX12_log_108 ?_
                refine r_sipush S dX12_log_111 (by decide) (fun v1883 z1884 => ?_)
                have r1885 := R_eq z1884
                refine r_aldn (n := 513) (K := 40) S X1866 (Nat.le_of_ble_eq_true rfl) rfl (fun _ => rfl) (ix_of r1885 rfl) dX12_log_114 (fun v1886 z1887 => ?_)
                have r1889 := R_any v1886
                refine r_istore_n (lv' := [(2, .int v1886), (0, .ref (G.2.2.2.1 131)), (1, .int a0)]) S dX12_log_115 rfl hl (by decide) rfl (fun ls hl => ?_)
                refine r_iconst S dX12_log_116 (by decide) (fun v1890 z1891 => ?_)
                have r1892 := R_eq z1891
                refine r_istore_n (lv' := [(3, .int v1890), (2, .int v1886), (0, .ref (G.2.2.2.1 131)), (1, .int a0)]) S dX12_log_117 rfl hl (by decide) rfl (fun ls hl => ?_)
                refine r_iconst S dX12_log_118 (by decide) (fun v1893 z1894 => ?_)
                have r1895 := R_eq z1894
                refine r_istore (lv' := [(4, .int v1893), (3, .int v1890), (2, .int v1886), (0, .ref (G.2.2.2.1 131)), (1, .int a0)]) S dX12_log_119 hl (by decide) rfl (fun ls hl => ?_)
                have L3809 : ∀ (n : Nat) (t3797 : Tau) (H : Heap) (lc : List Loc) (ls : Array Slot) (i3793 : Int32) (i3795 : Int32), Xd G s H lc t3797 → Inv t3797 → Fr [(131, 0), (131, 15), (131, 16), (131, 4), (131, 11), (131, 12), (131, 13), (131, 14), (131, 2), (131, 3), (131, 5), (131, 18), (131, 21), (131, 24), (131, 37), (131, 39), (133, 125), (133, 126), (133, 127), (133, 128), (133, 129), (133, 130), (133, 131), (133, 132), (133, 133), (133, 134), (133, 135), (133, 136), (133, 137), (133, 138), (133, 139), (133, 140), (133, 141), (133, 142), (133, 143), (133, 144), (133, 145), (133, 146), (133, 147), (133, 148), (133, 149), (133, 150), (133, 151), (133, 152), (133, 153), (133, 154), (133, 155), (133, 156), (133, 157), (133, 158), (133, 159), (133, 160), (133, 161), (133, 162), (133, 163), (133, 164), (133, 165), (133, 166), (133, 167), (133, 168), (133, 169), (133, 170), (133, 171), (133, 172), (133, 173), (133, 174), (133, 175), (133, 176), (133, 177), (133, 178), (133, 179), (133, 180), (133, 181), (133, 182), (133, 183), (133, 184), (133, 185), (133, 186), (133, 187), (133, 188), (133, 189), (133, 190), (133, 191), (133, 192), (133, 193), (133, 194), (133, 195), (133, 196), (133, 197), (133, 198), (133, 199), (133, 200), (133, 201), (133, 202), (133, 203), (133, 204), (133, 205), (133, 206), (133, 207), (133, 208), (133, 209), (133, 210), (133, 211), (133, 212), (133, 213), (133, 214), (133, 215), (133, 216), (133, 217), (133, 218), (133, 219), (133, 220), (133, 221), (133, 222), (133, 223), (133, 224), (133, 225), (133, 226), (133, 227), (133, 228), (133, 229), (133, 230), (133, 231), (133, 232), (133, 233), (133, 234), (133, 235), (133, 236), (133, 237), (133, 238), (133, 239), (133, 240), (133, 241), (133, 242), (133, 243), (133, 244), (133, 245), (133, 246), (133, 247), (133, 248), (133, 249), (133, 250), (133, 251), (133, 252), (133, 253), (133, 254), (133, 255), (133, 256), (133, 257), (133, 258), (133, 259), (133, 260), (133, 261), (133, 262), (133, 263), (133, 264), (133, 265), (133, 266), (133, 267), (133, 268), (133, 269), (133, 270), (133, 271), (133, 272), (133, 273), (133, 274), (133, 275), (133, 276), (133, 277), (133, 278), (133, 279), (133, 280), (133, 281), (133, 282), (133, 283), (133, 284), (133, 285), (133, 286), (133, 287), (133, 288), (133, 289), (133, 290), (133, 291), (133, 292), (133, 293), (133, 294), (133, 295), (133, 296), (133, 297), (133, 298), (133, 299), (133, 300), (133, 301), (133, 302), (133, 303), (133, 304), (133, 305), (133, 306), (133, 307), (133, 308), (133, 309), (133, 310), (133, 311), (133, 312), (133, 313), (133, 314), (133, 315), (133, 316), (133, 317), (133, 318), (133, 319), (133, 320), (133, 321), (133, 322), (133, 323), (133, 324), (133, 325), (133, 326), (133, 327), (133, 328), (133, 329), (133, 330), (133, 331)] [135, 138, 139, 147, 331] τ t3797 → R (-1) (39) i3793 → R (0) (40) i3795 → t3797 131 0 = v4 → t3797 131 2 = v44 → t3797 131 3 = v1 → t3797 131 5 = v31 → t3797 131 15 = f1678 → t3797 131 37 = f1681 → t3797 131 4 = f1684 → t3797 131 11 = f1687 → RW t3797 f1681 → lv_has ls 5 [(0, .ref (G.2.2.2.1 131)), (1, .int a0), (2, .int v1886), (3, .int i3793), (4, .int i3795)] → (40 - i3795.toInt).toNat < n → W p l e (Rm 7 162) s m ([.ref (G.2.2.2.1 131), .int a0] : List Value).toArray below meth c H lc 0 0 (MQ below (va_Qi (po_X12_log_q τ  a0  bb nb an mn) (Bs G) G.2.2.2.2) ([.ref (G.2.2.2.1 131), .int a0] : List Value).toArray s 0 0 G.2.2.2.2) (F0 m 121 ls []) := by
                  intro n
                  induction n with
                  | zero => intros; omega
                  | succ n ih3811 =>
                    intro t3797 H lc ls i3793 i3795 X3800 I3798 F3799 r3794 r3796 z3801 z3802 z3803 z3804 z3805 z3806 z3807 z3808 x3810 hl hm
                    refine r_iload S dX12_log_121 (lv_at hl 4 rfl) ?_
                    refine r_aload_n S dX12_log_123 rfl (lv_at hl 0 rfl) ?_
                    refine r_geti (K := 38) S X3800 (Nat.le_of_ble_eq_true rfl) rfl lk12_385_10 (fun _ => ⟨_, rfl, rfl⟩) z3806 dX12_log_124 ?_
                    refine r_icmp_ge (tgt := 217) S dX12_log_127 (by decide) (fun c3812 => ?_) (fun c3812 => ?_)
                    ·
                      refine r_aload_n S dX12_log_217 rfl (lv_at hl 0 rfl) ?_
                      refine r_get (K := 38) (v := .ref (G.2.2.2.1 147)) S X3800 (Nat.le_of_ble_eq_true rfl) rfl lk12_81_10 (fun _ => ⟨_, rfl, rfl⟩) dX12_log_218 ?_
                      refine r_iconst S dX12_log_221 (by decide) (fun v3813 z3814 => ?_)
                      have r3815 := R_eq z3814
                      refine r_aload_n S dX12_log_222 rfl (lv_at hl 0 rfl) ?_
                      refine r_get (K := 38) (v := .ref (G.2.2.2.1 133)) S X3800 (Nat.le_of_ble_eq_true rfl) rfl lk12_33_10 (fun _ => ⟨_, rfl, rfl⟩) dX12_log_223 ?_
                      refine r_sipush S dX12_log_226 (by decide) (fun v3816 z3817 => ?_)
                      have r3818 := R_eq z3817
                      refine r_aldn (n := 513) (K := 40) S X3800 (Nat.le_of_ble_eq_true rfl) rfl (fun _ => rfl) (ix_of r3818 rfl) dX12_log_229 (fun v3819 z3820 => ?_)
                      have r3822 := R_any v3819
                      refine r_iload_n S dX12_log_230 rfl (lv_at hl 2 rfl) ?_
                      refine r_isub S dX12_log_231 (fun v3823 z3824 => ?_)
                      have r3825 := R_any v3823
                      refine r_ast (n := 4) (K := 54) S X3800 (Nat.le_of_ble_eq_true rfl) rfl (fun _ _ => rfl) (ix_of r3815 rfl) dX12_log_232 (fun t3826 H lc M3827 X3828 => ?_)
                      have I3829 := Inv_mu I3798 M3827 (R_any v3823)
                      have F3830 : Fr [(131, 0), (131, 15), (131, 16), (131, 4), (131, 11), (131, 12), (131, 13), (131, 14), (131, 2), (131, 3), (131, 5), (131, 18), (131, 21), (131, 24), (131, 37), (131, 39), (133, 125), (133, 126), (133, 127), (133, 128), (133, 129), (133, 130), (133, 131), (133, 132), (133, 133), (133, 134), (133, 135), (133, 136), (133, 137), (133, 138), (133, 139), (133, 140), (133, 141), (133, 142), (133, 143), (133, 144), (133, 145), (133, 146), (133, 147), (133, 148), (133, 149), (133, 150), (133, 151), (133, 152), (133, 153), (133, 154), (133, 155), (133, 156), (133, 157), (133, 158), (133, 159), (133, 160), (133, 161), (133, 162), (133, 163), (133, 164), (133, 165), (133, 166), (133, 167), (133, 168), (133, 169), (133, 170), (133, 171), (133, 172), (133, 173), (133, 174), (133, 175), (133, 176), (133, 177), (133, 178), (133, 179), (133, 180), (133, 181), (133, 182), (133, 183), (133, 184), (133, 185), (133, 186), (133, 187), (133, 188), (133, 189), (133, 190), (133, 191), (133, 192), (133, 193), (133, 194), (133, 195), (133, 196), (133, 197), (133, 198), (133, 199), (133, 200), (133, 201), (133, 202), (133, 203), (133, 204), (133, 205), (133, 206), (133, 207), (133, 208), (133, 209), (133, 210), (133, 211), (133, 212), (133, 213), (133, 214), (133, 215), (133, 216), (133, 217), (133, 218), (133, 219), (133, 220), (133, 221), (133, 222), (133, 223), (133, 224), (133, 225), (133, 226), (133, 227), (133, 228), (133, 229), (133, 230), (133, 231), (133, 232), (133, 233), (133, 234), (133, 235), (133, 236), (133, 237), (133, 238), (133, 239), (133, 240), (133, 241), (133, 242), (133, 243), (133, 244), (133, 245), (133, 246), (133, 247), (133, 248), (133, 249), (133, 250), (133, 251), (133, 252), (133, 253), (133, 254), (133, 255), (133, 256), (133, 257), (133, 258), (133, 259), (133, 260), (133, 261), (133, 262), (133, 263), (133, 264), (133, 265), (133, 266), (133, 267), (133, 268), (133, 269), (133, 270), (133, 271), (133, 272), (133, 273), (133, 274), (133, 275), (133, 276), (133, 277), (133, 278), (133, 279), (133, 280), (133, 281), (133, 282), (133, 283), (133, 284), (133, 285), (133, 286), (133, 287), (133, 288), (133, 289), (133, 290), (133, 291), (133, 292), (133, 293), (133, 294), (133, 295), (133, 296), (133, 297), (133, 298), (133, 299), (133, 300), (133, 301), (133, 302), (133, 303), (133, 304), (133, 305), (133, 306), (133, 307), (133, 308), (133, 309), (133, 310), (133, 311), (133, 312), (133, 313), (133, 314), (133, 315), (133, 316), (133, 317), (133, 318), (133, 319), (133, 320), (133, 321), (133, 322), (133, 323), (133, 324), (133, 325), (133, 326), (133, 327), (133, 328), (133, 329), (133, 330), (133, 331)] [135, 138, 139, 147, 331] τ t3826 := Fr_cell F3799 M3827 (by decide)
                      refine r_aload_n S dX12_log_233 rfl (lv_at hl 0 rfl) ?_
                      refine r_get (K := 38) (v := .ref (G.2.2.2.1 147)) S X3828 (Nat.le_of_ble_eq_true rfl) rfl lk12_81_10 (fun _ => ⟨_, rfl, rfl⟩) dX12_log_234 ?_
                      refine r_iconst S dX12_log_237 (by decide) (fun v3831 z3832 => ?_)
                      have r3833 := R_eq z3832
                      refine r_aload_n S dX12_log_238 rfl (lv_at hl 0 rfl) ?_
                      refine r_get (K := 38) (v := .ref (G.2.2.2.1 133)) S X3828 (Nat.le_of_ble_eq_true rfl) rfl lk12_33_10 (fun _ => ⟨_, rfl, rfl⟩) dX12_log_239 ?_
                      refine r_sipush S dX12_log_242 (by decide) (fun v3834 z3835 => ?_)
                      have r3836 := R_eq z3835
                      refine r_aldn (n := 513) (K := 40) S X3828 (Nat.le_of_ble_eq_true rfl) rfl (fun _ => rfl) (ix_of r3836 rfl) dX12_log_245 (fun v3837 z3838 => ?_)
                      have r3839 : R (0) (1023) v3837 := rds (K := 40) (a := 129) (n := 1) I3829 rfl z3838 (R_of r3836 rfl) (by decide +kernel)
                      refine r_ast (n := 4) (K := 54) S X3828 (Nat.le_of_ble_eq_true rfl) rfl (fun _ _ => rfl) (ix_of r3833 rfl) dX12_log_246 (fun t3840 H lc M3841 X3842 => ?_)
                      have I3843 := Inv_mu I3829 M3841 (R_any v3837)
                      have F3844 : Fr [(131, 0), (131, 15), (131, 16), (131, 4), (131, 11), (131, 12), (131, 13), (131, 14), (131, 2), (131, 3), (131, 5), (131, 18), (131, 21), (131, 24), (131, 37), (131, 39), (133, 125), (133, 126), (133, 127), (133, 128), (133, 129), (133, 130), (133, 131), (133, 132), (133, 133), (133, 134), (133, 135), (133, 136), (133, 137), (133, 138), (133, 139), (133, 140), (133, 141), (133, 142), (133, 143), (133, 144), (133, 145), (133, 146), (133, 147), (133, 148), (133, 149), (133, 150), (133, 151), (133, 152), (133, 153), (133, 154), (133, 155), (133, 156), (133, 157), (133, 158), (133, 159), (133, 160), (133, 161), (133, 162), (133, 163), (133, 164), (133, 165), (133, 166), (133, 167), (133, 168), (133, 169), (133, 170), (133, 171), (133, 172), (133, 173), (133, 174), (133, 175), (133, 176), (133, 177), (133, 178), (133, 179), (133, 180), (133, 181), (133, 182), (133, 183), (133, 184), (133, 185), (133, 186), (133, 187), (133, 188), (133, 189), (133, 190), (133, 191), (133, 192), (133, 193), (133, 194), (133, 195), (133, 196), (133, 197), (133, 198), (133, 199), (133, 200), (133, 201), (133, 202), (133, 203), (133, 204), (133, 205), (133, 206), (133, 207), (133, 208), (133, 209), (133, 210), (133, 211), (133, 212), (133, 213), (133, 214), (133, 215), (133, 216), (133, 217), (133, 218), (133, 219), (133, 220), (133, 221), (133, 222), (133, 223), (133, 224), (133, 225), (133, 226), (133, 227), (133, 228), (133, 229), (133, 230), (133, 231), (133, 232), (133, 233), (133, 234), (133, 235), (133, 236), (133, 237), (133, 238), (133, 239), (133, 240), (133, 241), (133, 242), (133, 243), (133, 244), (133, 245), (133, 246), (133, 247), (133, 248), (133, 249), (133, 250), (133, 251), (133, 252), (133, 253), (133, 254), (133, 255), (133, 256), (133, 257), (133, 258), (133, 259), (133, 260), (133, 261), (133, 262), (133, 263), (133, 264), (133, 265), (133, 266), (133, 267), (133, 268), (133, 269), (133, 270), (133, 271), (133, 272), (133, 273), (133, 274), (133, 275), (133, 276), (133, 277), (133, 278), (133, 279), (133, 280), (133, 281), (133, 282), (133, 283), (133, 284), (133, 285), (133, 286), (133, 287), (133, 288), (133, 289), (133, 290), (133, 291), (133, 292), (133, 293), (133, 294), (133, 295), (133, 296), (133, 297), (133, 298), (133, 299), (133, 300), (133, 301), (133, 302), (133, 303), (133, 304), (133, 305), (133, 306), (133, 307), (133, 308), (133, 309), (133, 310), (133, 311), (133, 312), (133, 313), (133, 314), (133, 315), (133, 316), (133, 317), (133, 318), (133, 319), (133, 320), (133, 321), (133, 322), (133, 323), (133, 324), (133, 325), (133, 326), (133, 327), (133, 328), (133, 329), (133, 330), (133, 331)] [135, 138, 139, 147, 331] τ t3840 := Fr_cell F3830 M3841 (by decide)
                      refine r_aload_n S dX12_log_247 rfl (lv_at hl 0 rfl) ?_
                      refine r_iconst S dX12_log_248 (by decide) (fun v3845 z3846 => ?_)
                      have r3847 := R_eq z3846
                      refine r_put (K := 38) (ty := .boolean) S X3842 (Nat.le_of_ble_eq_true rfl) rfl lk12_401_10 (fun _ => ⟨_, rfl, Nat.le_of_ble_eq_true rfl, rfl⟩) (fun _ _ _ h => by cases h; exact ⟨rfl, rfl⟩) (nr_bool (R_of (lo := 0) (hi := 1) r3847 rfl)) (ft_bool (R_of (lo := 0) (hi := 1) r3847 rfl)) dX12_log_249 (fun t3848 H lc M3849 X3850 => ?_)
                      have I3851 := Inv_mu I3843 M3849 (show Rg (kd 131) 39 v3845 from (R_of (lo := 0) (hi := 1) r3847 rfl))
                      have F3852 : Fr [(131, 0), (131, 15), (131, 16), (131, 4), (131, 11), (131, 12), (131, 13), (131, 14), (131, 2), (131, 3), (131, 5), (131, 18), (131, 21), (131, 24), (131, 37), (131, 39), (133, 125), (133, 126), (133, 127), (133, 128), (133, 129), (133, 130), (133, 131), (133, 132), (133, 133), (133, 134), (133, 135), (133, 136), (133, 137), (133, 138), (133, 139), (133, 140), (133, 141), (133, 142), (133, 143), (133, 144), (133, 145), (133, 146), (133, 147), (133, 148), (133, 149), (133, 150), (133, 151), (133, 152), (133, 153), (133, 154), (133, 155), (133, 156), (133, 157), (133, 158), (133, 159), (133, 160), (133, 161), (133, 162), (133, 163), (133, 164), (133, 165), (133, 166), (133, 167), (133, 168), (133, 169), (133, 170), (133, 171), (133, 172), (133, 173), (133, 174), (133, 175), (133, 176), (133, 177), (133, 178), (133, 179), (133, 180), (133, 181), (133, 182), (133, 183), (133, 184), (133, 185), (133, 186), (133, 187), (133, 188), (133, 189), (133, 190), (133, 191), (133, 192), (133, 193), (133, 194), (133, 195), (133, 196), (133, 197), (133, 198), (133, 199), (133, 200), (133, 201), (133, 202), (133, 203), (133, 204), (133, 205), (133, 206), (133, 207), (133, 208), (133, 209), (133, 210), (133, 211), (133, 212), (133, 213), (133, 214), (133, 215), (133, 216), (133, 217), (133, 218), (133, 219), (133, 220), (133, 221), (133, 222), (133, 223), (133, 224), (133, 225), (133, 226), (133, 227), (133, 228), (133, 229), (133, 230), (133, 231), (133, 232), (133, 233), (133, 234), (133, 235), (133, 236), (133, 237), (133, 238), (133, 239), (133, 240), (133, 241), (133, 242), (133, 243), (133, 244), (133, 245), (133, 246), (133, 247), (133, 248), (133, 249), (133, 250), (133, 251), (133, 252), (133, 253), (133, 254), (133, 255), (133, 256), (133, 257), (133, 258), (133, 259), (133, 260), (133, 261), (133, 262), (133, 263), (133, 264), (133, 265), (133, 266), (133, 267), (133, 268), (133, 269), (133, 270), (133, 271), (133, 272), (133, 273), (133, 274), (133, 275), (133, 276), (133, 277), (133, 278), (133, 279), (133, 280), (133, 281), (133, 282), (133, 283), (133, 284), (133, 285), (133, 286), (133, 287), (133, 288), (133, 289), (133, 290), (133, 291), (133, 292), (133, 293), (133, 294), (133, 295), (133, 296), (133, 297), (133, 298), (133, 299), (133, 300), (133, 301), (133, 302), (133, 303), (133, 304), (133, 305), (133, 306), (133, 307), (133, 308), (133, 309), (133, 310), (133, 311), (133, 312), (133, 313), (133, 314), (133, 315), (133, 316), (133, 317), (133, 318), (133, 319), (133, 320), (133, 321), (133, 322), (133, 323), (133, 324), (133, 325), (133, 326), (133, 327), (133, 328), (133, 329), (133, 330), (133, 331)] [135, 138, 139, 147, 331] τ t3848 := Fr_mu F3844 M3849 (by decide)
                      refine r_iload_n S dX12_log_252 rfl (lv_at hl 1 rfl) ?_
                      refine r_iconst S dX12_log_253 (by decide) (fun v3853 z3854 => ?_)
                      have r3855 := R_eq z3854
                      refine r_icmp_ne (tgt := 312) S dX12_log_254 (by decide) (fun c3856 => ?_) (fun c3856 => ?_)
                      ·
                        have r3857 : R (0) (0) a0 := ⟨by omega, by omega⟩
                        refine r_iload_n S dX12_log_312 rfl (lv_at hl 1 rfl) ?_
                        refine r_if_ne (tgt := 320) S dX12_log_313 (by decide) (fun c3858 => ?_) (fun c3858 => ?_)
                        ·
                          exfalso; omega
                        ·
                          refine r_aload_n S dX12_log_316 rfl (lv_at hl 0 rfl) ?_
                          refine r_kv (q_V (As := []) (rest := []) (K := 38) (ci := 10) S X3850 (c_X12_back l G t3848 I3851 ) ck12_382 (Nat.le_of_ble_eq_true rfl) rfl (fun _ => ⟨_, rfl⟩) ⟨_, _, rfl⟩ ⟨Nat.le_of_ble_eq_true rfl, Nat.le_of_ble_eq_true rfl⟩ rfl hl.1 rfl (Nat.le_of_ble_eq_true rfl) dX12_log_317 ⟨Nat.le_refl 0, Nat.le_refl 0⟩) X3850 (fun t3861 H lc q3859 X3860 => ?_)
                          unfold po_X12_back at q3859
                          obtain ⟨q3862, q3863⟩ := q3859
                          have F3864 : Fr [(131, 0), (131, 15), (131, 16), (131, 4), (131, 11), (131, 12), (131, 13), (131, 14), (131, 2), (131, 3), (131, 5), (131, 18), (131, 21), (131, 24), (131, 37), (131, 39), (133, 125), (133, 126), (133, 127), (133, 128), (133, 129), (133, 130), (133, 131), (133, 132), (133, 133), (133, 134), (133, 135), (133, 136), (133, 137), (133, 138), (133, 139), (133, 140), (133, 141), (133, 142), (133, 143), (133, 144), (133, 145), (133, 146), (133, 147), (133, 148), (133, 149), (133, 150), (133, 151), (133, 152), (133, 153), (133, 154), (133, 155), (133, 156), (133, 157), (133, 158), (133, 159), (133, 160), (133, 161), (133, 162), (133, 163), (133, 164), (133, 165), (133, 166), (133, 167), (133, 168), (133, 169), (133, 170), (133, 171), (133, 172), (133, 173), (133, 174), (133, 175), (133, 176), (133, 177), (133, 178), (133, 179), (133, 180), (133, 181), (133, 182), (133, 183), (133, 184), (133, 185), (133, 186), (133, 187), (133, 188), (133, 189), (133, 190), (133, 191), (133, 192), (133, 193), (133, 194), (133, 195), (133, 196), (133, 197), (133, 198), (133, 199), (133, 200), (133, 201), (133, 202), (133, 203), (133, 204), (133, 205), (133, 206), (133, 207), (133, 208), (133, 209), (133, 210), (133, 211), (133, 212), (133, 213), (133, 214), (133, 215), (133, 216), (133, 217), (133, 218), (133, 219), (133, 220), (133, 221), (133, 222), (133, 223), (133, 224), (133, 225), (133, 226), (133, 227), (133, 228), (133, 229), (133, 230), (133, 231), (133, 232), (133, 233), (133, 234), (133, 235), (133, 236), (133, 237), (133, 238), (133, 239), (133, 240), (133, 241), (133, 242), (133, 243), (133, 244), (133, 245), (133, 246), (133, 247), (133, 248), (133, 249), (133, 250), (133, 251), (133, 252), (133, 253), (133, 254), (133, 255), (133, 256), (133, 257), (133, 258), (133, 259), (133, 260), (133, 261), (133, 262), (133, 263), (133, 264), (133, 265), (133, 266), (133, 267), (133, 268), (133, 269), (133, 270), (133, 271), (133, 272), (133, 273), (133, 274), (133, 275), (133, 276), (133, 277), (133, 278), (133, 279), (133, 280), (133, 281), (133, 282), (133, 283), (133, 284), (133, 285), (133, 286), (133, 287), (133, 288), (133, 289), (133, 290), (133, 291), (133, 292), (133, 293), (133, 294), (133, 295), (133, 296), (133, 297), (133, 298), (133, 299), (133, 300), (133, 301), (133, 302), (133, 303), (133, 304), (133, 305), (133, 306), (133, 307), (133, 308), (133, 309), (133, 310), (133, 311), (133, 312), (133, 313), (133, 314), (133, 315), (133, 316), (133, 317), (133, 318), (133, 319), (133, 320), (133, 321), (133, 322), (133, 323), (133, 324), (133, 325), (133, 326), (133, 327), (133, 328), (133, 329), (133, 330), (133, 331)] [135, 138, 139, 147, 331] τ t3861 := Fr_call F3852 q3863 (by decide)
                          refine r_iload_n S dX12_log_320 rfl (lv_at hl 3 rfl) ?_
                          exact r_ret S hr hlk X3860 ⟨q3862, F3864, (by have h1_0 := congrArg Int32.toInt ((q3863 131 2 (by decide)).trans ((M3849.2 131 2 (Or.inr (by decide))).trans ((M3841.2 131 2 (Or.inl (by decide))).trans ((M3827.2 131 2 (Or.inl (by decide))).trans z3802)))); have h2_0 := congrArg Int32.toInt z2; omega), (by have h1_0 := congrArg Int32.toInt ((q3863 131 2 (by decide)).trans ((M3849.2 131 2 (Or.inr (by decide))).trans ((M3841.2 131 2 (Or.inl (by decide))).trans ((M3827.2 131 2 (Or.inl (by decide))).trans z3802)))); have h2_0 := congrArg Int32.toInt z2; omega), ⟨fun _ => QL_r (by rw [sLo_d, ← he1697]; exact lRd_e (by have q := MT_k hR1696.1; rw [z1689] at q; omega)) (by have q := congrArg Int32.toInt ((q3863 131 15 (by decide)).trans ((M3849.2 131 15 (Or.inr (by decide))).trans ((M3841.2 131 15 (Or.inl (by decide))).trans ((M3827.2 131 15 (Or.inl (by decide))).trans z3805)))); omega), fun h => by exfalso; omega⟩⟩ rfl dX12_log_321
                      ·
                        have r3865 : R (1) (1) a0 := ⟨by omega, by omega⟩
                        refine r_aload_n S dX12_log_257 rfl (lv_at hl 0 rfl) ?_
                        refine r_get (K := 38) (v := .ref (G.2.2.2.1 147)) S X3850 (Nat.le_of_ble_eq_true rfl) rfl lk12_81_10 (fun _ => ⟨_, rfl, rfl⟩) dX12_log_258 ?_
                        refine r_iconst S dX12_log_261 (by decide) (fun v3866 z3867 => ?_)
                        have r3868 := R_eq z3867
                        refine r_aldn (n := 4) (K := 54) S X3850 (Nat.le_of_ble_eq_true rfl) rfl (fun _ => rfl) (ix_of r3868 rfl) dX12_log_262 (fun v3869 z3870 => ?_)
                        have r3872 := R_any v3869
                        refine r_if_le (tgt := 312) S dX12_log_263 (by decide) (fun c3873 => ?_) (fun c3873 => ?_)
                        ·
                          have r3874 : R (-2147483648) (0) v3869 := ⟨by omega, by omega⟩
                          refine r_iload_n S dX12_log_312 rfl (lv_at hl 1 rfl) ?_
                          refine r_if_ne (tgt := 320) S dX12_log_313 (by decide) (fun c3875 => ?_) (fun c3875 => ?_)
                          ·
                            refine r_iload_n S dX12_log_320 rfl (lv_at hl 3 rfl) ?_
                            exact r_ret S hr hlk X3850 ⟨I3851, F3852, (by have h1_0 := congrArg Int32.toInt ((M3849.2 131 2 (Or.inr (by decide))).trans ((M3841.2 131 2 (Or.inl (by decide))).trans ((M3827.2 131 2 (Or.inl (by decide))).trans z3802))); have h2_0 := congrArg Int32.toInt z2; omega), (by have h1_0 := congrArg Int32.toInt ((M3849.2 131 2 (Or.inr (by decide))).trans ((M3841.2 131 2 (Or.inl (by decide))).trans ((M3827.2 131 2 (Or.inl (by decide))).trans z3802))); have h2_0 := congrArg Int32.toInt z2; omega), ⟨fun _ => QL_r (by rw [sLo_d, ← he1697]; exact lRd_e (by have q := MT_k hR1696.1; rw [z1689] at q; omega)) (by have q := congrArg Int32.toInt ((M3849.2 131 15 (Or.inr (by decide))).trans ((M3841.2 131 15 (Or.inl (by decide))).trans ((M3827.2 131 15 (Or.inl (by decide))).trans z3805))); omega), fun h => by exfalso; omega⟩⟩ rfl dX12_log_321
                          ·
                            exfalso; omega
                        ·
                          have r3876 : R (1) (2147483647) v3869 := ⟨by omega, by omega⟩
                          refine r_aload_n S dX12_log_266 rfl (lv_at hl 0 rfl) ?_
                          refine r_kv (q_V (As := []) (rest := []) (K := 38) (ci := 10) S X3850 (c_X12_keep_x l G t3848 I3851 ) ck12_302 (Nat.le_of_ble_eq_true rfl) rfl (fun _ => ⟨_, rfl⟩) ⟨_, _, rfl⟩ ⟨Nat.le_of_ble_eq_true rfl, Nat.le_of_ble_eq_true rfl⟩ rfl hl.1 rfl (Nat.le_of_ble_eq_true rfl) dX12_log_267 ⟨Nat.le_refl 0, Nat.le_refl 0⟩) X3850 (fun t3879 H lc q3877 X3878 => ?_)
                          unfold po_X12_keep_x at q3877
                          obtain ⟨q3880, q3881, q3882⟩ := q3877
                          have F3883 : Fr [(131, 0), (131, 15), (131, 16), (131, 4), (131, 11), (131, 12), (131, 13), (131, 14), (131, 2), (131, 3), (131, 5), (131, 18), (131, 21), (131, 24), (131, 37), (131, 39), (133, 125), (133, 126), (133, 127), (133, 128), (133, 129), (133, 130), (133, 131), (133, 132), (133, 133), (133, 134), (133, 135), (133, 136), (133, 137), (133, 138), (133, 139), (133, 140), (133, 141), (133, 142), (133, 143), (133, 144), (133, 145), (133, 146), (133, 147), (133, 148), (133, 149), (133, 150), (133, 151), (133, 152), (133, 153), (133, 154), (133, 155), (133, 156), (133, 157), (133, 158), (133, 159), (133, 160), (133, 161), (133, 162), (133, 163), (133, 164), (133, 165), (133, 166), (133, 167), (133, 168), (133, 169), (133, 170), (133, 171), (133, 172), (133, 173), (133, 174), (133, 175), (133, 176), (133, 177), (133, 178), (133, 179), (133, 180), (133, 181), (133, 182), (133, 183), (133, 184), (133, 185), (133, 186), (133, 187), (133, 188), (133, 189), (133, 190), (133, 191), (133, 192), (133, 193), (133, 194), (133, 195), (133, 196), (133, 197), (133, 198), (133, 199), (133, 200), (133, 201), (133, 202), (133, 203), (133, 204), (133, 205), (133, 206), (133, 207), (133, 208), (133, 209), (133, 210), (133, 211), (133, 212), (133, 213), (133, 214), (133, 215), (133, 216), (133, 217), (133, 218), (133, 219), (133, 220), (133, 221), (133, 222), (133, 223), (133, 224), (133, 225), (133, 226), (133, 227), (133, 228), (133, 229), (133, 230), (133, 231), (133, 232), (133, 233), (133, 234), (133, 235), (133, 236), (133, 237), (133, 238), (133, 239), (133, 240), (133, 241), (133, 242), (133, 243), (133, 244), (133, 245), (133, 246), (133, 247), (133, 248), (133, 249), (133, 250), (133, 251), (133, 252), (133, 253), (133, 254), (133, 255), (133, 256), (133, 257), (133, 258), (133, 259), (133, 260), (133, 261), (133, 262), (133, 263), (133, 264), (133, 265), (133, 266), (133, 267), (133, 268), (133, 269), (133, 270), (133, 271), (133, 272), (133, 273), (133, 274), (133, 275), (133, 276), (133, 277), (133, 278), (133, 279), (133, 280), (133, 281), (133, 282), (133, 283), (133, 284), (133, 285), (133, 286), (133, 287), (133, 288), (133, 289), (133, 290), (133, 291), (133, 292), (133, 293), (133, 294), (133, 295), (133, 296), (133, 297), (133, 298), (133, 299), (133, 300), (133, 301), (133, 302), (133, 303), (133, 304), (133, 305), (133, 306), (133, 307), (133, 308), (133, 309), (133, 310), (133, 311), (133, 312), (133, 313), (133, 314), (133, 315), (133, 316), (133, 317), (133, 318), (133, 319), (133, 320), (133, 321), (133, 322), (133, 323), (133, 324), (133, 325), (133, 326), (133, 327), (133, 328), (133, 329), (133, 330), (133, 331)] [135, 138, 139, 147, 331] τ t3879 := Fr_call F3852 q3881 (by decide)
                          obtain ⟨v3884, z3885⟩ : ∃ x, t3879 131 24 = x := ⟨_, rfl⟩
                          rw [z3885] at q3882
                          refine r_iconst S dX12_log_270 (by decide) (fun v3886 z3887 => ?_)
                          have r3888 := R_eq z3887
                          refine r_istore (lv' := [(4, .int v3886), (0, .ref (G.2.2.2.1 131)), (1, .int a0), (2, .int v1886), (3, .int i3793)]) S dX12_log_271 hl (by decide) rfl (fun ls hl => ?_)
                          have L5257 : ∀ (n : Nat) (t5241 : Tau) (H : Heap) (lc : List Loc) (ls : Array Slot) (i5239 : Int32), Xd G s H lc t5241 → Inv t5241 → Fr [(131, 0), (131, 15), (131, 16), (131, 4), (131, 11), (131, 12), (131, 13), (131, 14), (131, 2), (131, 3), (131, 5), (131, 18), (131, 21), (131, 24), (131, 37), (131, 39), (133, 125), (133, 126), (133, 127), (133, 128), (133, 129), (133, 130), (133, 131), (133, 132), (133, 133), (133, 134), (133, 135), (133, 136), (133, 137), (133, 138), (133, 139), (133, 140), (133, 141), (133, 142), (133, 143), (133, 144), (133, 145), (133, 146), (133, 147), (133, 148), (133, 149), (133, 150), (133, 151), (133, 152), (133, 153), (133, 154), (133, 155), (133, 156), (133, 157), (133, 158), (133, 159), (133, 160), (133, 161), (133, 162), (133, 163), (133, 164), (133, 165), (133, 166), (133, 167), (133, 168), (133, 169), (133, 170), (133, 171), (133, 172), (133, 173), (133, 174), (133, 175), (133, 176), (133, 177), (133, 178), (133, 179), (133, 180), (133, 181), (133, 182), (133, 183), (133, 184), (133, 185), (133, 186), (133, 187), (133, 188), (133, 189), (133, 190), (133, 191), (133, 192), (133, 193), (133, 194), (133, 195), (133, 196), (133, 197), (133, 198), (133, 199), (133, 200), (133, 201), (133, 202), (133, 203), (133, 204), (133, 205), (133, 206), (133, 207), (133, 208), (133, 209), (133, 210), (133, 211), (133, 212), (133, 213), (133, 214), (133, 215), (133, 216), (133, 217), (133, 218), (133, 219), (133, 220), (133, 221), (133, 222), (133, 223), (133, 224), (133, 225), (133, 226), (133, 227), (133, 228), (133, 229), (133, 230), (133, 231), (133, 232), (133, 233), (133, 234), (133, 235), (133, 236), (133, 237), (133, 238), (133, 239), (133, 240), (133, 241), (133, 242), (133, 243), (133, 244), (133, 245), (133, 246), (133, 247), (133, 248), (133, 249), (133, 250), (133, 251), (133, 252), (133, 253), (133, 254), (133, 255), (133, 256), (133, 257), (133, 258), (133, 259), (133, 260), (133, 261), (133, 262), (133, 263), (133, 264), (133, 265), (133, 266), (133, 267), (133, 268), (133, 269), (133, 270), (133, 271), (133, 272), (133, 273), (133, 274), (133, 275), (133, 276), (133, 277), (133, 278), (133, 279), (133, 280), (133, 281), (133, 282), (133, 283), (133, 284), (133, 285), (133, 286), (133, 287), (133, 288), (133, 289), (133, 290), (133, 291), (133, 292), (133, 293), (133, 294), (133, 295), (133, 296), (133, 297), (133, 298), (133, 299), (133, 300), (133, 301), (133, 302), (133, 303), (133, 304), (133, 305), (133, 306), (133, 307), (133, 308), (133, 309), (133, 310), (133, 311), (133, 312), (133, 313), (133, 314), (133, 315), (133, 316), (133, 317), (133, 318), (133, 319), (133, 320), (133, 321), (133, 322), (133, 323), (133, 324), (133, 325), (133, 326), (133, 327), (133, 328), (133, 329), (133, 330), (133, 331)] [135, 138, 139, 147, 331] τ t5241 → R (0) (207) i5239 → t5241 131 0 = v4 → t5241 131 2 = v44 → t5241 131 3 = v1 → t5241 131 5 = v31 → t5241 131 15 = f1678 → t5241 131 37 = f1681 → t5241 131 4 = f1684 → t5241 131 11 = f1687 → t5241 133 128 = v3819 → t5241 133 129 = v3837 → t5241 131 39 = v3845 → t5241 131 24 = v3884 → lv_has ls 5 [(0, .ref (G.2.2.2.1 131)), (1, .int a0), (3, .int i3793), (4, .int i5239)] → (207 - i5239.toInt).toNat < n → W p l e (Rm 7 162) s m ([.ref (G.2.2.2.1 131), .int a0] : List Value).toArray below meth c H lc 0 0 (MQ below (va_Qi (po_X12_log_q τ  a0  bb nb an mn) (Bs G) G.2.2.2.2) ([.ref (G.2.2.2.1 131), .int a0] : List Value).toArray s 0 0 G.2.2.2.2) (F0 m 273 ls []) := by
                            intro n
                            induction n with
                            | zero => intros; omega
                            | succ n ih5258 =>
                              intro t5241 H lc ls i5239 X5244 I5242 F5243 r5240 z5245 z5246 z5247 z5248 z5249 z5250 z5251 z5252 z5253 z5254 z5255 z5256 hl hm
                              refine r_iload S dX12_log_273 (lv_at hl 3 rfl) ?_
                              refine r_sipush S dX12_log_275 (by decide) (fun v5259 z5260 => ?_)
                              have r5261 := R_eq z5260
                              refine r_icmp_ge (tgt := 312) S dX12_log_278 (by decide) (fun c5262 => ?_) (fun c5262 => ?_)
                              ·
                                have r5263 : R (207) (207) i5239 := ⟨by omega, by omega⟩
                                refine r_iload_n S dX12_log_312 rfl (lv_at hl 1 rfl) ?_
                                refine r_if_ne (tgt := 320) S dX12_log_313 (by decide) (fun c5264 => ?_) (fun c5264 => ?_)
                                ·
                                  refine r_iload_n S dX12_log_320 rfl (lv_at hl 2 rfl) ?_
                                  exact r_ret S hr hlk X5244 ⟨I5242, F5243, (by have h1_0 := congrArg Int32.toInt z5246; have h2_0 := congrArg Int32.toInt z2; omega), (by have h1_0 := congrArg Int32.toInt z5246; have h2_0 := congrArg Int32.toInt z2; omega), ⟨fun _ => QL_r (by rw [sLo_d, ← he1697]; exact lRd_e (by have q := MT_k hR1696.1; rw [z1689] at q; omega)) (by have q := congrArg Int32.toInt z5249; omega), fun h => by exfalso; omega⟩⟩ rfl dX12_log_321
                                ·
                                  exfalso; omega
                              ·
                                have r5265 : R (0) (206) i5239 := ⟨by omega, by omega⟩
                                refine r_aload_n S dX12_log_281 rfl (lv_at hl 0 rfl) ?_
                                refine r_get (K := 38) (v := .ref (G.2.2.2.1 138)) S X5244 (Nat.le_of_ble_eq_true rfl) rfl lk12_50_10 (fun _ => ⟨_, rfl, rfl⟩) dX12_log_282 ?_
                                refine r_sipush S dX12_log_285 (by decide) (fun v5266 z5267 => ?_)
                                have r5268 := R_eq z5267
                                refine r_aload_n S dX12_log_288 rfl (lv_at hl 0 rfl) ?_
                                refine r_geti (K := 38) S X5244 (Nat.le_of_ble_eq_true rfl) rfl lk12_249_10 (fun _ => ⟨_, rfl, rfl⟩) z5256 dX12_log_289 ?_
                                refine r_iconst S dX12_log_292 (by decide) (fun v5269 z5270 => ?_)
                                have r5271 := R_eq z5270
                                refine r_isub S dX12_log_293 (fun v5272 z5273 => ?_)
                                obtain ⟨e5274, r5275⟩ := i_sub (lo := 0) (hi := 7) z5273 q3882 r5271 rfl
                                refine r_imul S dX12_log_294 (fun v5276 z5277 => ?_)
                                obtain ⟨e5278, r5279⟩ := i_mul (lo := 0) (hi := 1449) z5277 r5268 r5275 rfl rfl
                                have e5280 : v5276.toInt = 207 * v5272.toInt := by rw [e5278, show v5266.toInt = 207 by omega]
                                refine r_iload S dX12_log_295 (lv_at hl 3 rfl) ?_
                                refine r_iadd S dX12_log_297 (fun v5281 z5282 => ?_)
                                obtain ⟨e5283, r5284⟩ := i_add (lo := 0) (hi := 1655) z5282 r5279 r5265 rfl
                                refine r_aload_n S dX12_log_298 rfl (lv_at hl 0 rfl) ?_
                                refine r_get (K := 38) (v := .ref (G.2.2.2.1 139)) S X5244 (Nat.le_of_ble_eq_true rfl) rfl lk12_53_10 (fun _ => ⟨_, rfl, rfl⟩) dX12_log_299 ?_
                                refine r_iload S dX12_log_302 (lv_at hl 3 rfl) ?_
                                refine r_aldn (n := 207) (K := 46) S X5244 (Nat.le_of_ble_eq_true rfl) rfl (fun _ => rfl) (ix_of r5265 rfl) dX12_log_304 (fun v5285 z5286 => ?_)
                                have r5288 := R_any v5285
                                have g5289 : Rg 46 i5239.toNatClampNeg v5285 := rd I5242 rfl z5286
                                refine r_ast (n := 1656) (K := 45) S X5244 (Nat.le_of_ble_eq_true rfl) rfl (fun _ _ => rfl) (ix_of r5284 rfl) dX12_log_305 (fun t5290 H lc M5291 X5292 => ?_)
                                have I5293 := Inv_mu I5242 M5291 (show Rg (kd 138) _ v5285 from seg_to (K := 45) (K2 := 46) (c := 0) (m := 207) (U := 8) (n := 207) (u := v5272) (k := i5239) g5289 (R_of r5275 rfl) (R_of r5265 rfl) (by omega) (by omega) (by decide +kernel))
                                have F5294 : Fr [(131, 0), (131, 15), (131, 16), (131, 4), (131, 11), (131, 12), (131, 13), (131, 14), (131, 2), (131, 3), (131, 5), (131, 18), (131, 21), (131, 24), (131, 37), (131, 39), (133, 125), (133, 126), (133, 127), (133, 128), (133, 129), (133, 130), (133, 131), (133, 132), (133, 133), (133, 134), (133, 135), (133, 136), (133, 137), (133, 138), (133, 139), (133, 140), (133, 141), (133, 142), (133, 143), (133, 144), (133, 145), (133, 146), (133, 147), (133, 148), (133, 149), (133, 150), (133, 151), (133, 152), (133, 153), (133, 154), (133, 155), (133, 156), (133, 157), (133, 158), (133, 159), (133, 160), (133, 161), (133, 162), (133, 163), (133, 164), (133, 165), (133, 166), (133, 167), (133, 168), (133, 169), (133, 170), (133, 171), (133, 172), (133, 173), (133, 174), (133, 175), (133, 176), (133, 177), (133, 178), (133, 179), (133, 180), (133, 181), (133, 182), (133, 183), (133, 184), (133, 185), (133, 186), (133, 187), (133, 188), (133, 189), (133, 190), (133, 191), (133, 192), (133, 193), (133, 194), (133, 195), (133, 196), (133, 197), (133, 198), (133, 199), (133, 200), (133, 201), (133, 202), (133, 203), (133, 204), (133, 205), (133, 206), (133, 207), (133, 208), (133, 209), (133, 210), (133, 211), (133, 212), (133, 213), (133, 214), (133, 215), (133, 216), (133, 217), (133, 218), (133, 219), (133, 220), (133, 221), (133, 222), (133, 223), (133, 224), (133, 225), (133, 226), (133, 227), (133, 228), (133, 229), (133, 230), (133, 231), (133, 232), (133, 233), (133, 234), (133, 235), (133, 236), (133, 237), (133, 238), (133, 239), (133, 240), (133, 241), (133, 242), (133, 243), (133, 244), (133, 245), (133, 246), (133, 247), (133, 248), (133, 249), (133, 250), (133, 251), (133, 252), (133, 253), (133, 254), (133, 255), (133, 256), (133, 257), (133, 258), (133, 259), (133, 260), (133, 261), (133, 262), (133, 263), (133, 264), (133, 265), (133, 266), (133, 267), (133, 268), (133, 269), (133, 270), (133, 271), (133, 272), (133, 273), (133, 274), (133, 275), (133, 276), (133, 277), (133, 278), (133, 279), (133, 280), (133, 281), (133, 282), (133, 283), (133, 284), (133, 285), (133, 286), (133, 287), (133, 288), (133, 289), (133, 290), (133, 291), (133, 292), (133, 293), (133, 294), (133, 295), (133, 296), (133, 297), (133, 298), (133, 299), (133, 300), (133, 301), (133, 302), (133, 303), (133, 304), (133, 305), (133, 306), (133, 307), (133, 308), (133, 309), (133, 310), (133, 311), (133, 312), (133, 313), (133, 314), (133, 315), (133, 316), (133, 317), (133, 318), (133, 319), (133, 320), (133, 321), (133, 322), (133, 323), (133, 324), (133, 325), (133, 326), (133, 327), (133, 328), (133, 329), (133, 330), (133, 331)] [135, 138, 139, 147, 331] τ t5290 := Fr_cell F5243 M5291 (by decide)
                                refine r_iinc (k := 3) S dX12_log_306 hl rfl (by decide) (by decide) (fun v5295 d5296 ls z5297 z5298 hl => ?_)
                                obtain ⟨e5299, r5300⟩ := i_add (lo := 1) (hi := 207) z5297 r5265 (R_eq z5298) rfl
                                have hl : lv_has ls 5 [(4, .int v5295), (0, .ref (G.2.2.2.1 131)), (1, .int a0), (3, .int i3793)] := hl
                                refine r_goto (tgt := 273) S dX12_log_309 (by decide) ?_
                                exact ih5258 t5290 _ _ _ v5295 X5292 I5293 F5294 (R_of r5300 rfl) ((M5291.2 131 0 (Or.inl (by decide))).trans z5245) ((M5291.2 131 2 (Or.inl (by decide))).trans z5246) ((M5291.2 131 3 (Or.inl (by decide))).trans z5247) ((M5291.2 131 5 (Or.inl (by decide))).trans z5248) ((M5291.2 131 15 (Or.inl (by decide))).trans z5249) ((M5291.2 131 37 (Or.inl (by decide))).trans z5250) ((M5291.2 131 4 (Or.inl (by decide))).trans z5251) ((M5291.2 131 11 (Or.inl (by decide))).trans z5252) ((M5291.2 133 128 (Or.inl (by decide))).trans z5253) ((M5291.2 133 129 (Or.inl (by decide))).trans z5254) ((M5291.2 131 39 (Or.inl (by decide))).trans z5255) ((M5291.2 131 24 (Or.inl (by decide))).trans z5256) (lv_sub hl [1, 2, 3, 0] rfl) (by omega)
                          exact L5257 _ t3879 _ _ _ v3886 X3878 q3880 F3883 (R_of r3888 rfl) ((q3881 131 0 (by decide)).trans ((M3849.2 131 0 (Or.inr (by decide))).trans ((M3841.2 131 0 (Or.inl (by decide))).trans ((M3827.2 131 0 (Or.inl (by decide))).trans z3801)))) ((q3881 131 2 (by decide)).trans ((M3849.2 131 2 (Or.inr (by decide))).trans ((M3841.2 131 2 (Or.inl (by decide))).trans ((M3827.2 131 2 (Or.inl (by decide))).trans z3802)))) ((q3881 131 3 (by decide)).trans ((M3849.2 131 3 (Or.inr (by decide))).trans ((M3841.2 131 3 (Or.inl (by decide))).trans ((M3827.2 131 3 (Or.inl (by decide))).trans z3803)))) ((q3881 131 5 (by decide)).trans ((M3849.2 131 5 (Or.inr (by decide))).trans ((M3841.2 131 5 (Or.inl (by decide))).trans ((M3827.2 131 5 (Or.inl (by decide))).trans z3804)))) ((q3881 131 15 (by decide)).trans ((M3849.2 131 15 (Or.inr (by decide))).trans ((M3841.2 131 15 (Or.inl (by decide))).trans ((M3827.2 131 15 (Or.inl (by decide))).trans z3805)))) ((q3881 131 37 (by decide)).trans ((M3849.2 131 37 (Or.inr (by decide))).trans ((M3841.2 131 37 (Or.inl (by decide))).trans ((M3827.2 131 37 (Or.inl (by decide))).trans z3806)))) ((q3881 131 4 (by decide)).trans ((M3849.2 131 4 (Or.inr (by decide))).trans ((M3841.2 131 4 (Or.inl (by decide))).trans ((M3827.2 131 4 (Or.inl (by decide))).trans z3807)))) ((q3881 131 11 (by decide)).trans ((M3849.2 131 11 (Or.inr (by decide))).trans ((M3841.2 131 11 (Or.inl (by decide))).trans ((M3827.2 131 11 (Or.inl (by decide))).trans z3808)))) ((q3881 133 128 (by decide)).trans ((M3849.2 133 128 (Or.inl (by decide))).trans ((M3841.2 133 128 (Or.inl (by decide))).trans ((M3827.2 133 128 (Or.inl (by decide))).trans (zc (n := 128) (by omega) z3820))))) ((q3881 133 129 (by decide)).trans ((M3849.2 133 129 (Or.inl (by decide))).trans ((M3841.2 133 129 (Or.inl (by decide))).trans (zc (n := 129) (by omega) z3838)))) ((q3881 131 39 (by decide)).trans M3849.1) z3885 (lv_sub hl [1, 2, 4, 0] rfl) (Nat.lt_succ_self _)
                    ·
                      have r5301 : R (0) (39) i3795 := ⟨by omega, by omega⟩
                      have r5302 : R (1) (40) f1681 := ⟨by omega, by omega⟩
                      refine r_iload_n S dX12_log_130 rfl (lv_at hl 3 rfl) ?_
                      refine r_if_ge (tgt := 217) S dX12_log_131 (by decide) (fun c5303 => ?_) (fun c5303 => ?_)
                      ·
                        have r5304 : R (0) (39) i3793 := ⟨by omega, by omega⟩
                        refine r_aload_n S dX12_log_217 rfl (lv_at hl 0 rfl) ?_
                        refine r_get (K := 38) (v := .ref (G.2.2.2.1 147)) S X3800 (Nat.le_of_ble_eq_true rfl) rfl lk12_81_10 (fun _ => ⟨_, rfl, rfl⟩) dX12_log_218 ?_
                        refine r_iconst S dX12_log_221 (by decide) (fun v5305 z5306 => ?_)
                        have r5307 := R_eq z5306
                        refine r_aload_n S dX12_log_222 rfl (lv_at hl 0 rfl) ?_
                        refine r_get (K := 38) (v := .ref (G.2.2.2.1 133)) S X3800 (Nat.le_of_ble_eq_true rfl) rfl lk12_33_10 (fun _ => ⟨_, rfl, rfl⟩) dX12_log_223 ?_
                        refine r_sipush S dX12_log_226 (by decide) (fun v5308 z5309 => ?_)
                        have r5310 := R_eq z5309
                        refine r_aldn (n := 513) (K := 40) S X3800 (Nat.le_of_ble_eq_true rfl) rfl (fun _ => rfl) (ix_of r5310 rfl) dX12_log_229 (fun v5311 z5312 => ?_)
                        have r5314 := R_any v5311
                        refine r_iload_n S dX12_log_230 rfl (lv_at hl 2 rfl) ?_
                        refine r_isub S dX12_log_231 (fun v5315 z5316 => ?_)
                        have r5317 := R_any v5315
                        refine r_ast (n := 4) (K := 54) S X3800 (Nat.le_of_ble_eq_true rfl) rfl (fun _ _ => rfl) (ix_of r5307 rfl) dX12_log_232 (fun t5318 H lc M5319 X5320 => ?_)
                        have I5321 := Inv_mu I3798 M5319 (R_any v5315)
                        have F5322 : Fr [(131, 0), (131, 15), (131, 16), (131, 4), (131, 11), (131, 12), (131, 13), (131, 14), (131, 2), (131, 3), (131, 5), (131, 18), (131, 21), (131, 24), (131, 37), (131, 39), (133, 125), (133, 126), (133, 127), (133, 128), (133, 129), (133, 130), (133, 131), (133, 132), (133, 133), (133, 134), (133, 135), (133, 136), (133, 137), (133, 138), (133, 139), (133, 140), (133, 141), (133, 142), (133, 143), (133, 144), (133, 145), (133, 146), (133, 147), (133, 148), (133, 149), (133, 150), (133, 151), (133, 152), (133, 153), (133, 154), (133, 155), (133, 156), (133, 157), (133, 158), (133, 159), (133, 160), (133, 161), (133, 162), (133, 163), (133, 164), (133, 165), (133, 166), (133, 167), (133, 168), (133, 169), (133, 170), (133, 171), (133, 172), (133, 173), (133, 174), (133, 175), (133, 176), (133, 177), (133, 178), (133, 179), (133, 180), (133, 181), (133, 182), (133, 183), (133, 184), (133, 185), (133, 186), (133, 187), (133, 188), (133, 189), (133, 190), (133, 191), (133, 192), (133, 193), (133, 194), (133, 195), (133, 196), (133, 197), (133, 198), (133, 199), (133, 200), (133, 201), (133, 202), (133, 203), (133, 204), (133, 205), (133, 206), (133, 207), (133, 208), (133, 209), (133, 210), (133, 211), (133, 212), (133, 213), (133, 214), (133, 215), (133, 216), (133, 217), (133, 218), (133, 219), (133, 220), (133, 221), (133, 222), (133, 223), (133, 224), (133, 225), (133, 226), (133, 227), (133, 228), (133, 229), (133, 230), (133, 231), (133, 232), (133, 233), (133, 234), (133, 235), (133, 236), (133, 237), (133, 238), (133, 239), (133, 240), (133, 241), (133, 242), (133, 243), (133, 244), (133, 245), (133, 246), (133, 247), (133, 248), (133, 249), (133, 250), (133, 251), (133, 252), (133, 253), (133, 254), (133, 255), (133, 256), (133, 257), (133, 258), (133, 259), (133, 260), (133, 261), (133, 262), (133, 263), (133, 264), (133, 265), (133, 266), (133, 267), (133, 268), (133, 269), (133, 270), (133, 271), (133, 272), (133, 273), (133, 274), (133, 275), (133, 276), (133, 277), (133, 278), (133, 279), (133, 280), (133, 281), (133, 282), (133, 283), (133, 284), (133, 285), (133, 286), (133, 287), (133, 288), (133, 289), (133, 290), (133, 291), (133, 292), (133, 293), (133, 294), (133, 295), (133, 296), (133, 297), (133, 298), (133, 299), (133, 300), (133, 301), (133, 302), (133, 303), (133, 304), (133, 305), (133, 306), (133, 307), (133, 308), (133, 309), (133, 310), (133, 311), (133, 312), (133, 313), (133, 314), (133, 315), (133, 316), (133, 317), (133, 318), (133, 319), (133, 320), (133, 321), (133, 322), (133, 323), (133, 324), (133, 325), (133, 326), (133, 327), (133, 328), (133, 329), (133, 330), (133, 331)] [135, 138, 139, 147, 331] τ t5318 := Fr_cell F3799 M5319 (by decide)
                        refine r_aload_n S dX12_log_233 rfl (lv_at hl 0 rfl) ?_
                        refine r_get (K := 38) (v := .ref (G.2.2.2.1 147)) S X5320 (Nat.le_of_ble_eq_true rfl) rfl lk12_81_10 (fun _ => ⟨_, rfl, rfl⟩) dX12_log_234 ?_
                        refine r_iconst S dX12_log_237 (by decide) (fun v5323 z5324 => ?_)
                        have r5325 := R_eq z5324
                        refine r_aload_n S dX12_log_238 rfl (lv_at hl 0 rfl) ?_
                        refine r_get (K := 38) (v := .ref (G.2.2.2.1 133)) S X5320 (Nat.le_of_ble_eq_true rfl) rfl lk12_33_10 (fun _ => ⟨_, rfl, rfl⟩) dX12_log_239 ?_
                        refine r_sipush S dX12_log_242 (by decide) (fun v5326 z5327 => ?_)
                        have r5328 := R_eq z5327
                        refine r_aldn (n := 513) (K := 40) S X5320 (Nat.le_of_ble_eq_true rfl) rfl (fun _ => rfl) (ix_of r5328 rfl) dX12_log_245 (fun v5329 z5330 => ?_)
                        have r5331 : R (0) (1023) v5329 := rds (K := 40) (a := 129) (n := 1) I5321 rfl z5330 (R_of r5328 rfl) (by decide +kernel)
                        refine r_ast (n := 4) (K := 54) S X5320 (Nat.le_of_ble_eq_true rfl) rfl (fun _ _ => rfl) (ix_of r5325 rfl) dX12_log_246 (fun t5332 H lc M5333 X5334 => ?_)
                        have I5335 := Inv_mu I5321 M5333 (R_any v5329)
                        have F5336 : Fr [(131, 0), (131, 15), (131, 16), (131, 4), (131, 11), (131, 12), (131, 13), (131, 14), (131, 2), (131, 3), (131, 5), (131, 18), (131, 21), (131, 24), (131, 37), (131, 39), (133, 125), (133, 126), (133, 127), (133, 128), (133, 129), (133, 130), (133, 131), (133, 132), (133, 133), (133, 134), (133, 135), (133, 136), (133, 137), (133, 138), (133, 139), (133, 140), (133, 141), (133, 142), (133, 143), (133, 144), (133, 145), (133, 146), (133, 147), (133, 148), (133, 149), (133, 150), (133, 151), (133, 152), (133, 153), (133, 154), (133, 155), (133, 156), (133, 157), (133, 158), (133, 159), (133, 160), (133, 161), (133, 162), (133, 163), (133, 164), (133, 165), (133, 166), (133, 167), (133, 168), (133, 169), (133, 170), (133, 171), (133, 172), (133, 173), (133, 174), (133, 175), (133, 176), (133, 177), (133, 178), (133, 179), (133, 180), (133, 181), (133, 182), (133, 183), (133, 184), (133, 185), (133, 186), (133, 187), (133, 188), (133, 189), (133, 190), (133, 191), (133, 192), (133, 193), (133, 194), (133, 195), (133, 196), (133, 197), (133, 198), (133, 199), (133, 200), (133, 201), (133, 202), (133, 203), (133, 204), (133, 205), (133, 206), (133, 207), (133, 208), (133, 209), (133, 210), (133, 211), (133, 212), (133, 213), (133, 214), (133, 215), (133, 216), (133, 217), (133, 218), (133, 219), (133, 220), (133, 221), (133, 222), (133, 223), (133, 224), (133, 225), (133, 226), (133, 227), (133, 228), (133, 229), (133, 230), (133, 231), (133, 232), (133, 233), (133, 234), (133, 235), (133, 236), (133, 237), (133, 238), (133, 239), (133, 240), (133, 241), (133, 242), (133, 243), (133, 244), (133, 245), (133, 246), (133, 247), (133, 248), (133, 249), (133, 250), (133, 251), (133, 252), (133, 253), (133, 254), (133, 255), (133, 256), (133, 257), (133, 258), (133, 259), (133, 260), (133, 261), (133, 262), (133, 263), (133, 264), (133, 265), (133, 266), (133, 267), (133, 268), (133, 269), (133, 270), (133, 271), (133, 272), (133, 273), (133, 274), (133, 275), (133, 276), (133, 277), (133, 278), (133, 279), (133, 280), (133, 281), (133, 282), (133, 283), (133, 284), (133, 285), (133, 286), (133, 287), (133, 288), (133, 289), (133, 290), (133, 291), (133, 292), (133, 293), (133, 294), (133, 295), (133, 296), (133, 297), (133, 298), (133, 299), (133, 300), (133, 301), (133, 302), (133, 303), (133, 304), (133, 305), (133, 306), (133, 307), (133, 308), (133, 309), (133, 310), (133, 311), (133, 312), (133, 313), (133, 314), (133, 315), (133, 316), (133, 317), (133, 318), (133, 319), (133, 320), (133, 321), (133, 322), (133, 323), (133, 324), (133, 325), (133, 326), (133, 327), (133, 328), (133, 329), (133, 330), (133, 331)] [135, 138, 139, 147, 331] τ t5332 := Fr_cell F5322 M5333 (by decide)
                        refine r_aload_n S dX12_log_247 rfl (lv_at hl 0 rfl) ?_
                        refine r_iconst S dX12_log_248 (by decide) (fun v5337 z5338 => ?_)
                        have r5339 := R_eq z5338
                        refine r_put (K := 38) (ty := .boolean) S X5334 (Nat.le_of_ble_eq_true rfl) rfl lk12_401_10 (fun _ => ⟨_, rfl, Nat.le_of_ble_eq_true rfl, rfl⟩) (fun _ _ _ h => by cases h; exact ⟨rfl, rfl⟩) (nr_bool (R_of (lo := 0) (hi := 1) r5339 rfl)) (ft_bool (R_of (lo := 0) (hi := 1) r5339 rfl)) dX12_log_249 (fun t5340 H lc M5341 X5342 => ?_)
                        have I5343 := Inv_mu I5335 M5341 (show Rg (kd 131) 39 v5337 from (R_of (lo := 0) (hi := 1) r5339 rfl))
                        have F5344 : Fr [(131, 0), (131, 15), (131, 16), (131, 4), (131, 11), (131, 12), (131, 13), (131, 14), (131, 2), (131, 3), (131, 5), (131, 18), (131, 21), (131, 24), (131, 37), (131, 39), (133, 125), (133, 126), (133, 127), (133, 128), (133, 129), (133, 130), (133, 131), (133, 132), (133, 133), (133, 134), (133, 135), (133, 136), (133, 137), (133, 138), (133, 139), (133, 140), (133, 141), (133, 142), (133, 143), (133, 144), (133, 145), (133, 146), (133, 147), (133, 148), (133, 149), (133, 150), (133, 151), (133, 152), (133, 153), (133, 154), (133, 155), (133, 156), (133, 157), (133, 158), (133, 159), (133, 160), (133, 161), (133, 162), (133, 163), (133, 164), (133, 165), (133, 166), (133, 167), (133, 168), (133, 169), (133, 170), (133, 171), (133, 172), (133, 173), (133, 174), (133, 175), (133, 176), (133, 177), (133, 178), (133, 179), (133, 180), (133, 181), (133, 182), (133, 183), (133, 184), (133, 185), (133, 186), (133, 187), (133, 188), (133, 189), (133, 190), (133, 191), (133, 192), (133, 193), (133, 194), (133, 195), (133, 196), (133, 197), (133, 198), (133, 199), (133, 200), (133, 201), (133, 202), (133, 203), (133, 204), (133, 205), (133, 206), (133, 207), (133, 208), (133, 209), (133, 210), (133, 211), (133, 212), (133, 213), (133, 214), (133, 215), (133, 216), (133, 217), (133, 218), (133, 219), (133, 220), (133, 221), (133, 222), (133, 223), (133, 224), (133, 225), (133, 226), (133, 227), (133, 228), (133, 229), (133, 230), (133, 231), (133, 232), (133, 233), (133, 234), (133, 235), (133, 236), (133, 237), (133, 238), (133, 239), (133, 240), (133, 241), (133, 242), (133, 243), (133, 244), (133, 245), (133, 246), (133, 247), (133, 248), (133, 249), (133, 250), (133, 251), (133, 252), (133, 253), (133, 254), (133, 255), (133, 256), (133, 257), (133, 258), (133, 259), (133, 260), (133, 261), (133, 262), (133, 263), (133, 264), (133, 265), (133, 266), (133, 267), (133, 268), (133, 269), (133, 270), (133, 271), (133, 272), (133, 273), (133, 274), (133, 275), (133, 276), (133, 277), (133, 278), (133, 279), (133, 280), (133, 281), (133, 282), (133, 283), (133, 284), (133, 285), (133, 286), (133, 287), (133, 288), (133, 289), (133, 290), (133, 291), (133, 292), (133, 293), (133, 294), (133, 295), (133, 296), (133, 297), (133, 298), (133, 299), (133, 300), (133, 301), (133, 302), (133, 303), (133, 304), (133, 305), (133, 306), (133, 307), (133, 308), (133, 309), (133, 310), (133, 311), (133, 312), (133, 313), (133, 314), (133, 315), (133, 316), (133, 317), (133, 318), (133, 319), (133, 320), (133, 321), (133, 322), (133, 323), (133, 324), (133, 325), (133, 326), (133, 327), (133, 328), (133, 329), (133, 330), (133, 331)] [135, 138, 139, 147, 331] τ t5340 := Fr_mu F5336 M5341 (by decide)
                        refine r_iload_n S dX12_log_252 rfl (lv_at hl 1 rfl) ?_
                        refine r_iconst S dX12_log_253 (by decide) (fun v5345 z5346 => ?_)
                        have r5347 := R_eq z5346
                        refine r_icmp_ne (tgt := 312) S dX12_log_254 (by decide) (fun c5348 => ?_) (fun c5348 => ?_)
                        ·
                          have r5349 : R (0) (0) a0 := ⟨by omega, by omega⟩
                          refine r_iload_n S dX12_log_312 rfl (lv_at hl 1 rfl) ?_
                          refine r_if_ne (tgt := 320) S dX12_log_313 (by decide) (fun c5350 => ?_) (fun c5350 => ?_)
                          ·
                            exfalso; omega
                          ·
                            refine r_aload_n S dX12_log_316 rfl (lv_at hl 0 rfl) ?_
                            refine r_kv (q_V (As := []) (rest := []) (K := 38) (ci := 10) S X5342 (c_X12_back l G t5340 I5343 ) ck12_382 (Nat.le_of_ble_eq_true rfl) rfl (fun _ => ⟨_, rfl⟩) ⟨_, _, rfl⟩ ⟨Nat.le_of_ble_eq_true rfl, Nat.le_of_ble_eq_true rfl⟩ rfl hl.1 rfl (Nat.le_of_ble_eq_true rfl) dX12_log_317 ⟨Nat.le_refl 0, Nat.le_refl 0⟩) X5342 (fun t5353 H lc q5351 X5352 => ?_)
                            unfold po_X12_back at q5351
                            obtain ⟨q5354, q5355⟩ := q5351
                            have F5356 : Fr [(131, 0), (131, 15), (131, 16), (131, 4), (131, 11), (131, 12), (131, 13), (131, 14), (131, 2), (131, 3), (131, 5), (131, 18), (131, 21), (131, 24), (131, 37), (131, 39), (133, 125), (133, 126), (133, 127), (133, 128), (133, 129), (133, 130), (133, 131), (133, 132), (133, 133), (133, 134), (133, 135), (133, 136), (133, 137), (133, 138), (133, 139), (133, 140), (133, 141), (133, 142), (133, 143), (133, 144), (133, 145), (133, 146), (133, 147), (133, 148), (133, 149), (133, 150), (133, 151), (133, 152), (133, 153), (133, 154), (133, 155), (133, 156), (133, 157), (133, 158), (133, 159), (133, 160), (133, 161), (133, 162), (133, 163), (133, 164), (133, 165), (133, 166), (133, 167), (133, 168), (133, 169), (133, 170), (133, 171), (133, 172), (133, 173), (133, 174), (133, 175), (133, 176), (133, 177), (133, 178), (133, 179), (133, 180), (133, 181), (133, 182), (133, 183), (133, 184), (133, 185), (133, 186), (133, 187), (133, 188), (133, 189), (133, 190), (133, 191), (133, 192), (133, 193), (133, 194), (133, 195), (133, 196), (133, 197), (133, 198), (133, 199), (133, 200), (133, 201), (133, 202), (133, 203), (133, 204), (133, 205), (133, 206), (133, 207), (133, 208), (133, 209), (133, 210), (133, 211), (133, 212), (133, 213), (133, 214), (133, 215), (133, 216), (133, 217), (133, 218), (133, 219), (133, 220), (133, 221), (133, 222), (133, 223), (133, 224), (133, 225), (133, 226), (133, 227), (133, 228), (133, 229), (133, 230), (133, 231), (133, 232), (133, 233), (133, 234), (133, 235), (133, 236), (133, 237), (133, 238), (133, 239), (133, 240), (133, 241), (133, 242), (133, 243), (133, 244), (133, 245), (133, 246), (133, 247), (133, 248), (133, 249), (133, 250), (133, 251), (133, 252), (133, 253), (133, 254), (133, 255), (133, 256), (133, 257), (133, 258), (133, 259), (133, 260), (133, 261), (133, 262), (133, 263), (133, 264), (133, 265), (133, 266), (133, 267), (133, 268), (133, 269), (133, 270), (133, 271), (133, 272), (133, 273), (133, 274), (133, 275), (133, 276), (133, 277), (133, 278), (133, 279), (133, 280), (133, 281), (133, 282), (133, 283), (133, 284), (133, 285), (133, 286), (133, 287), (133, 288), (133, 289), (133, 290), (133, 291), (133, 292), (133, 293), (133, 294), (133, 295), (133, 296), (133, 297), (133, 298), (133, 299), (133, 300), (133, 301), (133, 302), (133, 303), (133, 304), (133, 305), (133, 306), (133, 307), (133, 308), (133, 309), (133, 310), (133, 311), (133, 312), (133, 313), (133, 314), (133, 315), (133, 316), (133, 317), (133, 318), (133, 319), (133, 320), (133, 321), (133, 322), (133, 323), (133, 324), (133, 325), (133, 326), (133, 327), (133, 328), (133, 329), (133, 330), (133, 331)] [135, 138, 139, 147, 331] τ t5353 := Fr_call F5344 q5355 (by decide)
                            refine r_iload_n S dX12_log_320 rfl (lv_at hl 3 rfl) ?_
                            exact r_ret S hr hlk X5352 ⟨q5354, F5356, (by have h1_0 := congrArg Int32.toInt ((q5355 131 2 (by decide)).trans ((M5341.2 131 2 (Or.inr (by decide))).trans ((M5333.2 131 2 (Or.inl (by decide))).trans ((M5319.2 131 2 (Or.inl (by decide))).trans z3802)))); have h2_0 := congrArg Int32.toInt z2; omega), (by have h1_0 := congrArg Int32.toInt ((q5355 131 2 (by decide)).trans ((M5341.2 131 2 (Or.inr (by decide))).trans ((M5333.2 131 2 (Or.inl (by decide))).trans ((M5319.2 131 2 (Or.inl (by decide))).trans z3802)))); have h2_0 := congrArg Int32.toInt z2; omega), ⟨fun _ => QL_r (by rw [sLo_d, ← he1697]; exact lRd_e (by have q := MT_k hR1696.1; rw [z1689] at q; omega)) (by have q := congrArg Int32.toInt ((q5355 131 15 (by decide)).trans ((M5341.2 131 15 (Or.inr (by decide))).trans ((M5333.2 131 15 (Or.inl (by decide))).trans ((M5319.2 131 15 (Or.inl (by decide))).trans z3805)))); omega), fun h => by exfalso; omega⟩⟩ rfl dX12_log_321
                        ·
                          have r5357 : R (1) (1) a0 := ⟨by omega, by omega⟩
                          refine r_aload_n S dX12_log_257 rfl (lv_at hl 0 rfl) ?_
                          refine r_get (K := 38) (v := .ref (G.2.2.2.1 147)) S X5342 (Nat.le_of_ble_eq_true rfl) rfl lk12_81_10 (fun _ => ⟨_, rfl, rfl⟩) dX12_log_258 ?_
                          refine r_iconst S dX12_log_261 (by decide) (fun v5358 z5359 => ?_)
                          have r5360 := R_eq z5359
                          refine r_aldn (n := 4) (K := 54) S X5342 (Nat.le_of_ble_eq_true rfl) rfl (fun _ => rfl) (ix_of r5360 rfl) dX12_log_262 (fun v5361 z5362 => ?_)
                          have r5364 := R_any v5361
                          refine r_if_le (tgt := 312) S dX12_log_263 (by decide) (fun c5365 => ?_) (fun c5365 => ?_)
                          ·
                            have r5366 : R (-2147483648) (0) v5361 := ⟨by omega, by omega⟩
                            refine r_iload_n S dX12_log_312 rfl (lv_at hl 1 rfl) ?_
                            refine r_if_ne (tgt := 320) S dX12_log_313 (by decide) (fun c5367 => ?_) (fun c5367 => ?_)
                            ·
                              refine r_iload_n S dX12_log_320 rfl (lv_at hl 3 rfl) ?_
                              exact r_ret S hr hlk X5342 ⟨I5343, F5344, (by have h1_0 := congrArg Int32.toInt ((M5341.2 131 2 (Or.inr (by decide))).trans ((M5333.2 131 2 (Or.inl (by decide))).trans ((M5319.2 131 2 (Or.inl (by decide))).trans z3802))); have h2_0 := congrArg Int32.toInt z2; omega), (by have h1_0 := congrArg Int32.toInt ((M5341.2 131 2 (Or.inr (by decide))).trans ((M5333.2 131 2 (Or.inl (by decide))).trans ((M5319.2 131 2 (Or.inl (by decide))).trans z3802))); have h2_0 := congrArg Int32.toInt z2; omega), ⟨fun _ => QL_r (by rw [sLo_d, ← he1697]; exact lRd_e (by have q := MT_k hR1696.1; rw [z1689] at q; omega)) (by have q := congrArg Int32.toInt ((M5341.2 131 15 (Or.inr (by decide))).trans ((M5333.2 131 15 (Or.inl (by decide))).trans ((M5319.2 131 15 (Or.inl (by decide))).trans z3805))); omega), fun h => by exfalso; omega⟩⟩ rfl dX12_log_321
                            ·
                              exfalso; omega
                          ·
                            have r5368 : R (1) (2147483647) v5361 := ⟨by omega, by omega⟩
                            refine r_aload_n S dX12_log_266 rfl (lv_at hl 0 rfl) ?_
                            refine r_kv (q_V (As := []) (rest := []) (K := 38) (ci := 10) S X5342 (c_X12_keep_x l G t5340 I5343 ) ck12_302 (Nat.le_of_ble_eq_true rfl) rfl (fun _ => ⟨_, rfl⟩) ⟨_, _, rfl⟩ ⟨Nat.le_of_ble_eq_true rfl, Nat.le_of_ble_eq_true rfl⟩ rfl hl.1 rfl (Nat.le_of_ble_eq_true rfl) dX12_log_267 ⟨Nat.le_refl 0, Nat.le_refl 0⟩) X5342 (fun t5371 H lc q5369 X5370 => ?_)
                            unfold po_X12_keep_x at q5369
                            obtain ⟨q5372, q5373, q5374⟩ := q5369
                            have F5375 : Fr [(131, 0), (131, 15), (131, 16), (131, 4), (131, 11), (131, 12), (131, 13), (131, 14), (131, 2), (131, 3), (131, 5), (131, 18), (131, 21), (131, 24), (131, 37), (131, 39), (133, 125), (133, 126), (133, 127), (133, 128), (133, 129), (133, 130), (133, 131), (133, 132), (133, 133), (133, 134), (133, 135), (133, 136), (133, 137), (133, 138), (133, 139), (133, 140), (133, 141), (133, 142), (133, 143), (133, 144), (133, 145), (133, 146), (133, 147), (133, 148), (133, 149), (133, 150), (133, 151), (133, 152), (133, 153), (133, 154), (133, 155), (133, 156), (133, 157), (133, 158), (133, 159), (133, 160), (133, 161), (133, 162), (133, 163), (133, 164), (133, 165), (133, 166), (133, 167), (133, 168), (133, 169), (133, 170), (133, 171), (133, 172), (133, 173), (133, 174), (133, 175), (133, 176), (133, 177), (133, 178), (133, 179), (133, 180), (133, 181), (133, 182), (133, 183), (133, 184), (133, 185), (133, 186), (133, 187), (133, 188), (133, 189), (133, 190), (133, 191), (133, 192), (133, 193), (133, 194), (133, 195), (133, 196), (133, 197), (133, 198), (133, 199), (133, 200), (133, 201), (133, 202), (133, 203), (133, 204), (133, 205), (133, 206), (133, 207), (133, 208), (133, 209), (133, 210), (133, 211), (133, 212), (133, 213), (133, 214), (133, 215), (133, 216), (133, 217), (133, 218), (133, 219), (133, 220), (133, 221), (133, 222), (133, 223), (133, 224), (133, 225), (133, 226), (133, 227), (133, 228), (133, 229), (133, 230), (133, 231), (133, 232), (133, 233), (133, 234), (133, 235), (133, 236), (133, 237), (133, 238), (133, 239), (133, 240), (133, 241), (133, 242), (133, 243), (133, 244), (133, 245), (133, 246), (133, 247), (133, 248), (133, 249), (133, 250), (133, 251), (133, 252), (133, 253), (133, 254), (133, 255), (133, 256), (133, 257), (133, 258), (133, 259), (133, 260), (133, 261), (133, 262), (133, 263), (133, 264), (133, 265), (133, 266), (133, 267), (133, 268), (133, 269), (133, 270), (133, 271), (133, 272), (133, 273), (133, 274), (133, 275), (133, 276), (133, 277), (133, 278), (133, 279), (133, 280), (133, 281), (133, 282), (133, 283), (133, 284), (133, 285), (133, 286), (133, 287), (133, 288), (133, 289), (133, 290), (133, 291), (133, 292), (133, 293), (133, 294), (133, 295), (133, 296), (133, 297), (133, 298), (133, 299), (133, 300), (133, 301), (133, 302), (133, 303), (133, 304), (133, 305), (133, 306), (133, 307), (133, 308), (133, 309), (133, 310), (133, 311), (133, 312), (133, 313), (133, 314), (133, 315), (133, 316), (133, 317), (133, 318), (133, 319), (133, 320), (133, 321), (133, 322), (133, 323), (133, 324), (133, 325), (133, 326), (133, 327), (133, 328), (133, 329), (133, 330), (133, 331)] [135, 138, 139, 147, 331] τ t5371 := Fr_call F5344 q5373 (by decide)
                            obtain ⟨v5376, z5377⟩ : ∃ x, t5371 131 24 = x := ⟨_, rfl⟩
                            rw [z5377] at q5374
                            refine r_iconst S dX12_log_270 (by decide) (fun v5378 z5379 => ?_)
                            have r5380 := R_eq z5379
                            refine r_istore (lv' := [(4, .int v5378), (0, .ref (G.2.2.2.1 131)), (1, .int a0), (2, .int v1886), (3, .int i3793)]) S dX12_log_271 hl (by decide) rfl (fun ls hl => ?_)
                            have L6749 : ∀ (n : Nat) (t6733 : Tau) (H : Heap) (lc : List Loc) (ls : Array Slot) (i6731 : Int32), Xd G s H lc t6733 → Inv t6733 → Fr [(131, 0), (131, 15), (131, 16), (131, 4), (131, 11), (131, 12), (131, 13), (131, 14), (131, 2), (131, 3), (131, 5), (131, 18), (131, 21), (131, 24), (131, 37), (131, 39), (133, 125), (133, 126), (133, 127), (133, 128), (133, 129), (133, 130), (133, 131), (133, 132), (133, 133), (133, 134), (133, 135), (133, 136), (133, 137), (133, 138), (133, 139), (133, 140), (133, 141), (133, 142), (133, 143), (133, 144), (133, 145), (133, 146), (133, 147), (133, 148), (133, 149), (133, 150), (133, 151), (133, 152), (133, 153), (133, 154), (133, 155), (133, 156), (133, 157), (133, 158), (133, 159), (133, 160), (133, 161), (133, 162), (133, 163), (133, 164), (133, 165), (133, 166), (133, 167), (133, 168), (133, 169), (133, 170), (133, 171), (133, 172), (133, 173), (133, 174), (133, 175), (133, 176), (133, 177), (133, 178), (133, 179), (133, 180), (133, 181), (133, 182), (133, 183), (133, 184), (133, 185), (133, 186), (133, 187), (133, 188), (133, 189), (133, 190), (133, 191), (133, 192), (133, 193), (133, 194), (133, 195), (133, 196), (133, 197), (133, 198), (133, 199), (133, 200), (133, 201), (133, 202), (133, 203), (133, 204), (133, 205), (133, 206), (133, 207), (133, 208), (133, 209), (133, 210), (133, 211), (133, 212), (133, 213), (133, 214), (133, 215), (133, 216), (133, 217), (133, 218), (133, 219), (133, 220), (133, 221), (133, 222), (133, 223), (133, 224), (133, 225), (133, 226), (133, 227), (133, 228), (133, 229), (133, 230), (133, 231), (133, 232), (133, 233), (133, 234), (133, 235), (133, 236), (133, 237), (133, 238), (133, 239), (133, 240), (133, 241), (133, 242), (133, 243), (133, 244), (133, 245), (133, 246), (133, 247), (133, 248), (133, 249), (133, 250), (133, 251), (133, 252), (133, 253), (133, 254), (133, 255), (133, 256), (133, 257), (133, 258), (133, 259), (133, 260), (133, 261), (133, 262), (133, 263), (133, 264), (133, 265), (133, 266), (133, 267), (133, 268), (133, 269), (133, 270), (133, 271), (133, 272), (133, 273), (133, 274), (133, 275), (133, 276), (133, 277), (133, 278), (133, 279), (133, 280), (133, 281), (133, 282), (133, 283), (133, 284), (133, 285), (133, 286), (133, 287), (133, 288), (133, 289), (133, 290), (133, 291), (133, 292), (133, 293), (133, 294), (133, 295), (133, 296), (133, 297), (133, 298), (133, 299), (133, 300), (133, 301), (133, 302), (133, 303), (133, 304), (133, 305), (133, 306), (133, 307), (133, 308), (133, 309), (133, 310), (133, 311), (133, 312), (133, 313), (133, 314), (133, 315), (133, 316), (133, 317), (133, 318), (133, 319), (133, 320), (133, 321), (133, 322), (133, 323), (133, 324), (133, 325), (133, 326), (133, 327), (133, 328), (133, 329), (133, 330), (133, 331)] [135, 138, 139, 147, 331] τ t6733 → R (0) (207) i6731 → t6733 131 0 = v4 → t6733 131 2 = v44 → t6733 131 3 = v1 → t6733 131 5 = v31 → t6733 131 15 = f1678 → t6733 131 37 = f1681 → t6733 131 4 = f1684 → t6733 131 11 = f1687 → t6733 133 128 = v5311 → t6733 133 129 = v5329 → t6733 131 39 = v5337 → t6733 131 24 = v5376 → lv_has ls 5 [(0, .ref (G.2.2.2.1 131)), (1, .int a0), (3, .int i3793), (4, .int i6731)] → (207 - i6731.toInt).toNat < n → W p l e (Rm 7 162) s m ([.ref (G.2.2.2.1 131), .int a0] : List Value).toArray below meth c H lc 0 0 (MQ below (va_Qi (po_X12_log_q τ  a0  bb nb an mn) (Bs G) G.2.2.2.2) ([.ref (G.2.2.2.1 131), .int a0] : List Value).toArray s 0 0 G.2.2.2.2) (F0 m 273 ls []) := by
                              intro n
                              induction n with
                              | zero => intros; omega
                              | succ n ih6750 =>
                                intro t6733 H lc ls i6731 X6736 I6734 F6735 r6732 z6737 z6738 z6739 z6740 z6741 z6742 z6743 z6744 z6745 z6746 z6747 z6748 hl hm
                                refine r_iload S dX12_log_273 (lv_at hl 3 rfl) ?_
                                refine r_sipush S dX12_log_275 (by decide) (fun v6751 z6752 => ?_)
                                have r6753 := R_eq z6752
                                refine r_icmp_ge (tgt := 312) S dX12_log_278 (by decide) (fun c6754 => ?_) (fun c6754 => ?_)
                                ·
                                  have r6755 : R (207) (207) i6731 := ⟨by omega, by omega⟩
                                  refine r_iload_n S dX12_log_312 rfl (lv_at hl 1 rfl) ?_
                                  refine r_if_ne (tgt := 320) S dX12_log_313 (by decide) (fun c6756 => ?_) (fun c6756 => ?_)
                                  ·
                                    refine r_iload_n S dX12_log_320 rfl (lv_at hl 2 rfl) ?_
                                    exact r_ret S hr hlk X6736 ⟨I6734, F6735, (by have h1_0 := congrArg Int32.toInt z6738; have h2_0 := congrArg Int32.toInt z2; omega), (by have h1_0 := congrArg Int32.toInt z6738; have h2_0 := congrArg Int32.toInt z2; omega), ⟨fun _ => QL_r (by rw [sLo_d, ← he1697]; exact lRd_e (by have q := MT_k hR1696.1; rw [z1689] at q; omega)) (by have q := congrArg Int32.toInt z6741; omega), fun h => by exfalso; omega⟩⟩ rfl dX12_log_321
                                  ·
                                    exfalso; omega
                                ·
                                  have r6757 : R (0) (206) i6731 := ⟨by omega, by omega⟩
                                  refine r_aload_n S dX12_log_281 rfl (lv_at hl 0 rfl) ?_
                                  refine r_get (K := 38) (v := .ref (G.2.2.2.1 138)) S X6736 (Nat.le_of_ble_eq_true rfl) rfl lk12_50_10 (fun _ => ⟨_, rfl, rfl⟩) dX12_log_282 ?_
                                  refine r_sipush S dX12_log_285 (by decide) (fun v6758 z6759 => ?_)
                                  have r6760 := R_eq z6759
                                  refine r_aload_n S dX12_log_288 rfl (lv_at hl 0 rfl) ?_
                                  refine r_geti (K := 38) S X6736 (Nat.le_of_ble_eq_true rfl) rfl lk12_249_10 (fun _ => ⟨_, rfl, rfl⟩) z6748 dX12_log_289 ?_
                                  refine r_iconst S dX12_log_292 (by decide) (fun v6761 z6762 => ?_)
                                  have r6763 := R_eq z6762
                                  refine r_isub S dX12_log_293 (fun v6764 z6765 => ?_)
                                  obtain ⟨e6766, r6767⟩ := i_sub (lo := 0) (hi := 7) z6765 q5374 r6763 rfl
                                  refine r_imul S dX12_log_294 (fun v6768 z6769 => ?_)
                                  obtain ⟨e6770, r6771⟩ := i_mul (lo := 0) (hi := 1449) z6769 r6760 r6767 rfl rfl
                                  have e6772 : v6768.toInt = 207 * v6764.toInt := by rw [e6770, show v6758.toInt = 207 by omega]
                                  refine r_iload S dX12_log_295 (lv_at hl 3 rfl) ?_
                                  refine r_iadd S dX12_log_297 (fun v6773 z6774 => ?_)
                                  obtain ⟨e6775, r6776⟩ := i_add (lo := 0) (hi := 1655) z6774 r6771 r6757 rfl
                                  refine r_aload_n S dX12_log_298 rfl (lv_at hl 0 rfl) ?_
                                  refine r_get (K := 38) (v := .ref (G.2.2.2.1 139)) S X6736 (Nat.le_of_ble_eq_true rfl) rfl lk12_53_10 (fun _ => ⟨_, rfl, rfl⟩) dX12_log_299 ?_
                                  refine r_iload S dX12_log_302 (lv_at hl 3 rfl) ?_
                                  refine r_aldn (n := 207) (K := 46) S X6736 (Nat.le_of_ble_eq_true rfl) rfl (fun _ => rfl) (ix_of r6757 rfl) dX12_log_304 (fun v6777 z6778 => ?_)
                                  have r6780 := R_any v6777
                                  have g6781 : Rg 46 i6731.toNatClampNeg v6777 := rd I6734 rfl z6778
                                  refine r_ast (n := 1656) (K := 45) S X6736 (Nat.le_of_ble_eq_true rfl) rfl (fun _ _ => rfl) (ix_of r6776 rfl) dX12_log_305 (fun t6782 H lc M6783 X6784 => ?_)
                                  have I6785 := Inv_mu I6734 M6783 (show Rg (kd 138) _ v6777 from seg_to (K := 45) (K2 := 46) (c := 0) (m := 207) (U := 8) (n := 207) (u := v6764) (k := i6731) g6781 (R_of r6767 rfl) (R_of r6757 rfl) (by omega) (by omega) (by decide +kernel))
                                  have F6786 : Fr [(131, 0), (131, 15), (131, 16), (131, 4), (131, 11), (131, 12), (131, 13), (131, 14), (131, 2), (131, 3), (131, 5), (131, 18), (131, 21), (131, 24), (131, 37), (131, 39), (133, 125), (133, 126), (133, 127), (133, 128), (133, 129), (133, 130), (133, 131), (133, 132), (133, 133), (133, 134), (133, 135), (133, 136), (133, 137), (133, 138), (133, 139), (133, 140), (133, 141), (133, 142), (133, 143), (133, 144), (133, 145), (133, 146), (133, 147), (133, 148), (133, 149), (133, 150), (133, 151), (133, 152), (133, 153), (133, 154), (133, 155), (133, 156), (133, 157), (133, 158), (133, 159), (133, 160), (133, 161), (133, 162), (133, 163), (133, 164), (133, 165), (133, 166), (133, 167), (133, 168), (133, 169), (133, 170), (133, 171), (133, 172), (133, 173), (133, 174), (133, 175), (133, 176), (133, 177), (133, 178), (133, 179), (133, 180), (133, 181), (133, 182), (133, 183), (133, 184), (133, 185), (133, 186), (133, 187), (133, 188), (133, 189), (133, 190), (133, 191), (133, 192), (133, 193), (133, 194), (133, 195), (133, 196), (133, 197), (133, 198), (133, 199), (133, 200), (133, 201), (133, 202), (133, 203), (133, 204), (133, 205), (133, 206), (133, 207), (133, 208), (133, 209), (133, 210), (133, 211), (133, 212), (133, 213), (133, 214), (133, 215), (133, 216), (133, 217), (133, 218), (133, 219), (133, 220), (133, 221), (133, 222), (133, 223), (133, 224), (133, 225), (133, 226), (133, 227), (133, 228), (133, 229), (133, 230), (133, 231), (133, 232), (133, 233), (133, 234), (133, 235), (133, 236), (133, 237), (133, 238), (133, 239), (133, 240), (133, 241), (133, 242), (133, 243), (133, 244), (133, 245), (133, 246), (133, 247), (133, 248), (133, 249), (133, 250), (133, 251), (133, 252), (133, 253), (133, 254), (133, 255), (133, 256), (133, 257), (133, 258), (133, 259), (133, 260), (133, 261), (133, 262), (133, 263), (133, 264), (133, 265), (133, 266), (133, 267), (133, 268), (133, 269), (133, 270), (133, 271), (133, 272), (133, 273), (133, 274), (133, 275), (133, 276), (133, 277), (133, 278), (133, 279), (133, 280), (133, 281), (133, 282), (133, 283), (133, 284), (133, 285), (133, 286), (133, 287), (133, 288), (133, 289), (133, 290), (133, 291), (133, 292), (133, 293), (133, 294), (133, 295), (133, 296), (133, 297), (133, 298), (133, 299), (133, 300), (133, 301), (133, 302), (133, 303), (133, 304), (133, 305), (133, 306), (133, 307), (133, 308), (133, 309), (133, 310), (133, 311), (133, 312), (133, 313), (133, 314), (133, 315), (133, 316), (133, 317), (133, 318), (133, 319), (133, 320), (133, 321), (133, 322), (133, 323), (133, 324), (133, 325), (133, 326), (133, 327), (133, 328), (133, 329), (133, 330), (133, 331)] [135, 138, 139, 147, 331] τ t6782 := Fr_cell F6735 M6783 (by decide)
                                  refine r_iinc (k := 3) S dX12_log_306 hl rfl (by decide) (by decide) (fun v6787 d6788 ls z6789 z6790 hl => ?_)
                                  obtain ⟨e6791, r6792⟩ := i_add (lo := 1) (hi := 207) z6789 r6757 (R_eq z6790) rfl
                                  have hl : lv_has ls 5 [(4, .int v6787), (0, .ref (G.2.2.2.1 131)), (1, .int a0), (3, .int i3793)] := hl
                                  refine r_goto (tgt := 273) S dX12_log_309 (by decide) ?_
                                  exact ih6750 t6782 _ _ _ v6787 X6784 I6785 F6786 (R_of r6792 rfl) ((M6783.2 131 0 (Or.inl (by decide))).trans z6737) ((M6783.2 131 2 (Or.inl (by decide))).trans z6738) ((M6783.2 131 3 (Or.inl (by decide))).trans z6739) ((M6783.2 131 5 (Or.inl (by decide))).trans z6740) ((M6783.2 131 15 (Or.inl (by decide))).trans z6741) ((M6783.2 131 37 (Or.inl (by decide))).trans z6742) ((M6783.2 131 4 (Or.inl (by decide))).trans z6743) ((M6783.2 131 11 (Or.inl (by decide))).trans z6744) ((M6783.2 133 128 (Or.inl (by decide))).trans z6745) ((M6783.2 133 129 (Or.inl (by decide))).trans z6746) ((M6783.2 131 39 (Or.inl (by decide))).trans z6747) ((M6783.2 131 24 (Or.inl (by decide))).trans z6748) (lv_sub hl [1, 2, 3, 0] rfl) (by omega)
                            exact L6749 _ t5371 _ _ _ v5378 X5370 q5372 F5375 (R_of r5380 rfl) ((q5373 131 0 (by decide)).trans ((M5341.2 131 0 (Or.inr (by decide))).trans ((M5333.2 131 0 (Or.inl (by decide))).trans ((M5319.2 131 0 (Or.inl (by decide))).trans z3801)))) ((q5373 131 2 (by decide)).trans ((M5341.2 131 2 (Or.inr (by decide))).trans ((M5333.2 131 2 (Or.inl (by decide))).trans ((M5319.2 131 2 (Or.inl (by decide))).trans z3802)))) ((q5373 131 3 (by decide)).trans ((M5341.2 131 3 (Or.inr (by decide))).trans ((M5333.2 131 3 (Or.inl (by decide))).trans ((M5319.2 131 3 (Or.inl (by decide))).trans z3803)))) ((q5373 131 5 (by decide)).trans ((M5341.2 131 5 (Or.inr (by decide))).trans ((M5333.2 131 5 (Or.inl (by decide))).trans ((M5319.2 131 5 (Or.inl (by decide))).trans z3804)))) ((q5373 131 15 (by decide)).trans ((M5341.2 131 15 (Or.inr (by decide))).trans ((M5333.2 131 15 (Or.inl (by decide))).trans ((M5319.2 131 15 (Or.inl (by decide))).trans z3805)))) ((q5373 131 37 (by decide)).trans ((M5341.2 131 37 (Or.inr (by decide))).trans ((M5333.2 131 37 (Or.inl (by decide))).trans ((M5319.2 131 37 (Or.inl (by decide))).trans z3806)))) ((q5373 131 4 (by decide)).trans ((M5341.2 131 4 (Or.inr (by decide))).trans ((M5333.2 131 4 (Or.inl (by decide))).trans ((M5319.2 131 4 (Or.inl (by decide))).trans z3807)))) ((q5373 131 11 (by decide)).trans ((M5341.2 131 11 (Or.inr (by decide))).trans ((M5333.2 131 11 (Or.inl (by decide))).trans ((M5319.2 131 11 (Or.inl (by decide))).trans z3808)))) ((q5373 133 128 (by decide)).trans ((M5341.2 133 128 (Or.inl (by decide))).trans ((M5333.2 133 128 (Or.inl (by decide))).trans ((M5319.2 133 128 (Or.inl (by decide))).trans (zc (n := 128) (by omega) z5312))))) ((q5373 133 129 (by decide)).trans ((M5341.2 133 129 (Or.inl (by decide))).trans ((M5333.2 133 129 (Or.inl (by decide))).trans (zc (n := 129) (by omega) z5330)))) ((q5373 131 39 (by decide)).trans M5341.1) z5377 (lv_sub hl [1, 2, 4, 0] rfl) (Nat.lt_succ_self _)
                      ·
                        have r6793 : R (-1) (-1) i3793 := ⟨by omega, by omega⟩
                        refine r_aload_n S dX12_log_134 rfl (lv_at hl 0 rfl) ?_
                        refine r_get (K := 38) (v := .ref (G.2.2.2.1 147)) S X3800 (Nat.le_of_ble_eq_true rfl) rfl lk12_81_10 (fun _ => ⟨_, rfl, rfl⟩) dX12_log_135 ?_
                        refine r_iconst S dX12_log_138 (by decide) (fun v6794 z6795 => ?_)
                        have r6796 := R_eq z6795
                        refine r_aload_n S dX12_log_139 rfl (lv_at hl 0 rfl) ?_
                        refine r_aload_n S dX12_log_140 rfl (lv_at hl 0 rfl) ?_
                        refine r_get (K := 38) (v := .ref (G.2.2.2.1 135)) S X3800 (Nat.le_of_ble_eq_true rfl) rfl lk12_40_10 (fun _ => ⟨_, rfl, rfl⟩) dX12_log_141 ?_
                        refine r_iconst S dX12_log_144 (by decide) (fun v6797 z6798 => ?_)
                        have r6799 := R_eq z6798
                        refine r_iload S dX12_log_145 (lv_at hl 4 rfl) ?_
                        refine r_imul S dX12_log_147 (fun v6800 z6801 => ?_)
                        obtain ⟨e6802, r6803⟩ := i_mul (lo := 0) (hi := 156) z6801 r6799 r5301 rfl rfl
                        have e6804 : v6800.toInt = 4 * i3795.toInt := by rw [e6802, show v6797.toInt = 4 by omega]
                        refine r_aldn (n := 160) (K := 42) S X3800 (Nat.le_of_ble_eq_true rfl) rfl (fun _ => rfl) (ix_of r6803 rfl) dX12_log_148 (fun v6805 z6806 => ?_)
                        have r6808 := R_any v6805
                        refine r_aload_n S dX12_log_149 rfl (lv_at hl 0 rfl) ?_
                        refine r_get (K := 38) (v := .ref (G.2.2.2.1 135)) S X3800 (Nat.le_of_ble_eq_true rfl) rfl lk12_40_10 (fun _ => ⟨_, rfl, rfl⟩) dX12_log_150 ?_
                        refine r_iconst S dX12_log_153 (by decide) (fun v6809 z6810 => ?_)
                        have r6811 := R_eq z6810
                        refine r_iload S dX12_log_154 (lv_at hl 4 rfl) ?_
                        refine r_imul S dX12_log_156 (fun v6812 z6813 => ?_)
                        obtain ⟨e6814, r6815⟩ := i_mul (lo := 0) (hi := 156) z6813 r6811 r5301 rfl rfl
                        have e6816 : v6812.toInt = 4 * i3795.toInt := by rw [e6814, show v6809.toInt = 4 by omega]
                        refine r_iconst S dX12_log_157 (by decide) (fun v6817 z6818 => ?_)
                        have r6819 := R_eq z6818
                        refine r_iadd S dX12_log_158 (fun v6820 z6821 => ?_)
                        obtain ⟨e6822, r6823⟩ := i_add (lo := 1) (hi := 157) z6821 r6815 r6819 rfl
                        refine r_aldn (n := 160) (K := 42) S X3800 (Nat.le_of_ble_eq_true rfl) rfl (fun _ => rfl) (ix_of r6823 rfl) dX12_log_159 (fun v6824 z6825 => ?_)
                        have r6827 := R_any v6824
                        refine r_aload_n S dX12_log_160 rfl (lv_at hl 0 rfl) ?_
                        refine r_get (K := 38) (v := .ref (G.2.2.2.1 135)) S X3800 (Nat.le_of_ble_eq_true rfl) rfl lk12_40_10 (fun _ => ⟨_, rfl, rfl⟩) dX12_log_161 ?_
                        refine r_iconst S dX12_log_164 (by decide) (fun v6828 z6829 => ?_)
                        have r6830 := R_eq z6829
                        refine r_iload S dX12_log_165 (lv_at hl 4 rfl) ?_
                        refine r_imul S dX12_log_167 (fun v6831 z6832 => ?_)
                        obtain ⟨e6833, r6834⟩ := i_mul (lo := 0) (hi := 156) z6832 r6830 r5301 rfl rfl
                        have e6835 : v6831.toInt = 4 * i3795.toInt := by rw [e6833, show v6828.toInt = 4 by omega]
                        refine r_iconst S dX12_log_168 (by decide) (fun v6836 z6837 => ?_)
                        have r6838 := R_eq z6837
                        refine r_iadd S dX12_log_169 (fun v6839 z6840 => ?_)
                        obtain ⟨e6841, r6842⟩ := i_add (lo := 2) (hi := 158) z6840 r6834 r6838 rfl
                        refine r_aldn (n := 160) (K := 42) S X3800 (Nat.le_of_ble_eq_true rfl) rfl (fun _ => rfl) (ix_of r6842 rfl) dX12_log_170 (fun v6843 z6844 => ?_)
                        have r6846 := R_any v6843
                        refine r_aload_n S dX12_log_171 rfl (lv_at hl 0 rfl) ?_
                        refine r_get (K := 38) (v := .ref (G.2.2.2.1 135)) S X3800 (Nat.le_of_ble_eq_true rfl) rfl lk12_40_10 (fun _ => ⟨_, rfl, rfl⟩) dX12_log_172 ?_
                        refine r_iconst S dX12_log_175 (by decide) (fun v6847 z6848 => ?_)
                        have r6849 := R_eq z6848
                        refine r_iload S dX12_log_176 (lv_at hl 4 rfl) ?_
                        refine r_imul S dX12_log_178 (fun v6850 z6851 => ?_)
                        obtain ⟨e6852, r6853⟩ := i_mul (lo := 0) (hi := 156) z6851 r6849 r5301 rfl rfl
                        have e6854 : v6850.toInt = 4 * i3795.toInt := by rw [e6852, show v6847.toInt = 4 by omega]
                        refine r_iconst S dX12_log_179 (by decide) (fun v6855 z6856 => ?_)
                        have r6857 := R_eq z6856
                        refine r_iadd S dX12_log_180 (fun v6858 z6859 => ?_)
                        obtain ⟨e6860, r6861⟩ := i_add (lo := 3) (hi := 159) z6859 r6853 r6857 rfl
                        refine r_aldn (n := 160) (K := 42) S X3800 (Nat.le_of_ble_eq_true rfl) rfl (fun _ => rfl) (ix_of r6861 rfl) dX12_log_181 (fun v6862 z6863 => ?_)
                        have r6865 := R_any v6862
                        refine r_ki (q_V (As := [.int v6805, .int v6824, .int v6843, .int v6862]) (rest := [.int v6794, .ref (G.2.2.2.1 147)]) (K := 38) (ci := 10) S X3800 (c_X12_does l G t3797 I3798 v6805 v6824 v6843 v6862 r6808 r6827 r6846 r6865 (RW_at x3810 (i := i3795) ⟨by omega, by omega⟩ z6806 z6825 z6844 z6863 (by omega) (by omega) (by omega) (by omega))) ck12_397 (Nat.le_of_ble_eq_true rfl) rfl (fun _ => ⟨_, rfl⟩) ⟨_, _, rfl⟩ ⟨Nat.le_of_ble_eq_true rfl, Nat.le_of_ble_eq_true rfl⟩ rfl hl.1 rfl (Nat.le_of_ble_eq_true rfl) dX12_log_182 ⟨Nat.le_refl 0, Nat.le_refl 0⟩) X3800 (fun v6869 t6868 H lc q6866 X6867 => ?_)
                        unfold po_X12_does at q6866
                        obtain ⟨q6870, q6871⟩ := q6866
                        have F6872 : Fr [(131, 0), (131, 15), (131, 16), (131, 4), (131, 11), (131, 12), (131, 13), (131, 14), (131, 2), (131, 3), (131, 5), (131, 18), (131, 21), (131, 24), (131, 37), (131, 39), (133, 125), (133, 126), (133, 127), (133, 128), (133, 129), (133, 130), (133, 131), (133, 132), (133, 133), (133, 134), (133, 135), (133, 136), (133, 137), (133, 138), (133, 139), (133, 140), (133, 141), (133, 142), (133, 143), (133, 144), (133, 145), (133, 146), (133, 147), (133, 148), (133, 149), (133, 150), (133, 151), (133, 152), (133, 153), (133, 154), (133, 155), (133, 156), (133, 157), (133, 158), (133, 159), (133, 160), (133, 161), (133, 162), (133, 163), (133, 164), (133, 165), (133, 166), (133, 167), (133, 168), (133, 169), (133, 170), (133, 171), (133, 172), (133, 173), (133, 174), (133, 175), (133, 176), (133, 177), (133, 178), (133, 179), (133, 180), (133, 181), (133, 182), (133, 183), (133, 184), (133, 185), (133, 186), (133, 187), (133, 188), (133, 189), (133, 190), (133, 191), (133, 192), (133, 193), (133, 194), (133, 195), (133, 196), (133, 197), (133, 198), (133, 199), (133, 200), (133, 201), (133, 202), (133, 203), (133, 204), (133, 205), (133, 206), (133, 207), (133, 208), (133, 209), (133, 210), (133, 211), (133, 212), (133, 213), (133, 214), (133, 215), (133, 216), (133, 217), (133, 218), (133, 219), (133, 220), (133, 221), (133, 222), (133, 223), (133, 224), (133, 225), (133, 226), (133, 227), (133, 228), (133, 229), (133, 230), (133, 231), (133, 232), (133, 233), (133, 234), (133, 235), (133, 236), (133, 237), (133, 238), (133, 239), (133, 240), (133, 241), (133, 242), (133, 243), (133, 244), (133, 245), (133, 246), (133, 247), (133, 248), (133, 249), (133, 250), (133, 251), (133, 252), (133, 253), (133, 254), (133, 255), (133, 256), (133, 257), (133, 258), (133, 259), (133, 260), (133, 261), (133, 262), (133, 263), (133, 264), (133, 265), (133, 266), (133, 267), (133, 268), (133, 269), (133, 270), (133, 271), (133, 272), (133, 273), (133, 274), (133, 275), (133, 276), (133, 277), (133, 278), (133, 279), (133, 280), (133, 281), (133, 282), (133, 283), (133, 284), (133, 285), (133, 286), (133, 287), (133, 288), (133, 289), (133, 290), (133, 291), (133, 292), (133, 293), (133, 294), (133, 295), (133, 296), (133, 297), (133, 298), (133, 299), (133, 300), (133, 301), (133, 302), (133, 303), (133, 304), (133, 305), (133, 306), (133, 307), (133, 308), (133, 309), (133, 310), (133, 311), (133, 312), (133, 313), (133, 314), (133, 315), (133, 316), (133, 317), (133, 318), (133, 319), (133, 320), (133, 321), (133, 322), (133, 323), (133, 324), (133, 325), (133, 326), (133, 327), (133, 328), (133, 329), (133, 330), (133, 331)] [135, 138, 139, 147, 331] τ t6868 := Fr_call F3799 q6871 (by decide)
                        have r6873 := R_any v6869
                        refine r_ast (n := 4) (K := 54) S X6867 (Nat.le_of_ble_eq_true rfl) rfl (fun _ _ => rfl) (ix_of r6796 rfl) dX12_log_185 (fun t6874 H lc M6875 X6876 => ?_)
                        have I6877 := Inv_mu q6870 M6875 (R_any v6869)
                        have F6878 : Fr [(131, 0), (131, 15), (131, 16), (131, 4), (131, 11), (131, 12), (131, 13), (131, 14), (131, 2), (131, 3), (131, 5), (131, 18), (131, 21), (131, 24), (131, 37), (131, 39), (133, 125), (133, 126), (133, 127), (133, 128), (133, 129), (133, 130), (133, 131), (133, 132), (133, 133), (133, 134), (133, 135), (133, 136), (133, 137), (133, 138), (133, 139), (133, 140), (133, 141), (133, 142), (133, 143), (133, 144), (133, 145), (133, 146), (133, 147), (133, 148), (133, 149), (133, 150), (133, 151), (133, 152), (133, 153), (133, 154), (133, 155), (133, 156), (133, 157), (133, 158), (133, 159), (133, 160), (133, 161), (133, 162), (133, 163), (133, 164), (133, 165), (133, 166), (133, 167), (133, 168), (133, 169), (133, 170), (133, 171), (133, 172), (133, 173), (133, 174), (133, 175), (133, 176), (133, 177), (133, 178), (133, 179), (133, 180), (133, 181), (133, 182), (133, 183), (133, 184), (133, 185), (133, 186), (133, 187), (133, 188), (133, 189), (133, 190), (133, 191), (133, 192), (133, 193), (133, 194), (133, 195), (133, 196), (133, 197), (133, 198), (133, 199), (133, 200), (133, 201), (133, 202), (133, 203), (133, 204), (133, 205), (133, 206), (133, 207), (133, 208), (133, 209), (133, 210), (133, 211), (133, 212), (133, 213), (133, 214), (133, 215), (133, 216), (133, 217), (133, 218), (133, 219), (133, 220), (133, 221), (133, 222), (133, 223), (133, 224), (133, 225), (133, 226), (133, 227), (133, 228), (133, 229), (133, 230), (133, 231), (133, 232), (133, 233), (133, 234), (133, 235), (133, 236), (133, 237), (133, 238), (133, 239), (133, 240), (133, 241), (133, 242), (133, 243), (133, 244), (133, 245), (133, 246), (133, 247), (133, 248), (133, 249), (133, 250), (133, 251), (133, 252), (133, 253), (133, 254), (133, 255), (133, 256), (133, 257), (133, 258), (133, 259), (133, 260), (133, 261), (133, 262), (133, 263), (133, 264), (133, 265), (133, 266), (133, 267), (133, 268), (133, 269), (133, 270), (133, 271), (133, 272), (133, 273), (133, 274), (133, 275), (133, 276), (133, 277), (133, 278), (133, 279), (133, 280), (133, 281), (133, 282), (133, 283), (133, 284), (133, 285), (133, 286), (133, 287), (133, 288), (133, 289), (133, 290), (133, 291), (133, 292), (133, 293), (133, 294), (133, 295), (133, 296), (133, 297), (133, 298), (133, 299), (133, 300), (133, 301), (133, 302), (133, 303), (133, 304), (133, 305), (133, 306), (133, 307), (133, 308), (133, 309), (133, 310), (133, 311), (133, 312), (133, 313), (133, 314), (133, 315), (133, 316), (133, 317), (133, 318), (133, 319), (133, 320), (133, 321), (133, 322), (133, 323), (133, 324), (133, 325), (133, 326), (133, 327), (133, 328), (133, 329), (133, 330), (133, 331)] [135, 138, 139, 147, 331] τ t6874 := Fr_cell F6872 M6875 (by decide)
                        refine r_aload_n S dX12_log_186 rfl (lv_at hl 0 rfl) ?_
                        refine r_get (K := 38) (v := .ref (G.2.2.2.1 147)) S X6876 (Nat.le_of_ble_eq_true rfl) rfl lk12_81_10 (fun _ => ⟨_, rfl, rfl⟩) dX12_log_187 ?_
                        refine r_iconst S dX12_log_190 (by decide) (fun v6879 z6880 => ?_)
                        have r6881 := R_eq z6880
                        refine r_aldn (n := 4) (K := 54) S X6876 (Nat.le_of_ble_eq_true rfl) rfl (fun _ => rfl) (ix_of r6881 rfl) dX12_log_191 (fun v6882 z6883 => ?_)
                        have r6885 := R_any v6882
                        refine r_if_le (tgt := 201) S dX12_log_192 (by decide) (fun c6886 => ?_) (fun c6886 => ?_)
                        ·
                          have r6887 : R (-2147483648) (0) v6882 := ⟨by omega, by omega⟩
                          refine r_aload_n S dX12_log_201 rfl (lv_at hl 0 rfl) ?_
                          refine r_get (K := 38) (v := .ref (G.2.2.2.1 147)) S X6876 (Nat.le_of_ble_eq_true rfl) rfl lk12_81_10 (fun _ => ⟨_, rfl, rfl⟩) dX12_log_202 ?_
                          refine r_iconst S dX12_log_205 (by decide) (fun v6888 z6889 => ?_)
                          have r6890 := R_eq z6889
                          refine r_dup2 S dX12_log_206 rfl rfl ?_
                          refine r_aldn (n := 4) (K := 54) S X6876 (Nat.le_of_ble_eq_true rfl) rfl (fun _ => rfl) (ix_of r6890 rfl) dX12_log_207 (fun v6891 z6892 => ?_)
                          have r6894 := R_any v6891
                          refine r_iconst S dX12_log_208 (by decide) (fun v6895 z6896 => ?_)
                          have r6897 := R_eq z6896
                          refine r_iadd S dX12_log_209 (fun v6898 z6899 => ?_)
                          have r6900 := R_any v6898
                          refine r_ast (n := 4) (K := 54) S X6876 (Nat.le_of_ble_eq_true rfl) rfl (fun _ _ => rfl) (ix_of r6890 rfl) dX12_log_210 (fun t6901 H lc M6902 X6903 => ?_)
                          have I6904 := Inv_mu I6877 M6902 (R_any v6898)
                          have F6905 : Fr [(131, 0), (131, 15), (131, 16), (131, 4), (131, 11), (131, 12), (131, 13), (131, 14), (131, 2), (131, 3), (131, 5), (131, 18), (131, 21), (131, 24), (131, 37), (131, 39), (133, 125), (133, 126), (133, 127), (133, 128), (133, 129), (133, 130), (133, 131), (133, 132), (133, 133), (133, 134), (133, 135), (133, 136), (133, 137), (133, 138), (133, 139), (133, 140), (133, 141), (133, 142), (133, 143), (133, 144), (133, 145), (133, 146), (133, 147), (133, 148), (133, 149), (133, 150), (133, 151), (133, 152), (133, 153), (133, 154), (133, 155), (133, 156), (133, 157), (133, 158), (133, 159), (133, 160), (133, 161), (133, 162), (133, 163), (133, 164), (133, 165), (133, 166), (133, 167), (133, 168), (133, 169), (133, 170), (133, 171), (133, 172), (133, 173), (133, 174), (133, 175), (133, 176), (133, 177), (133, 178), (133, 179), (133, 180), (133, 181), (133, 182), (133, 183), (133, 184), (133, 185), (133, 186), (133, 187), (133, 188), (133, 189), (133, 190), (133, 191), (133, 192), (133, 193), (133, 194), (133, 195), (133, 196), (133, 197), (133, 198), (133, 199), (133, 200), (133, 201), (133, 202), (133, 203), (133, 204), (133, 205), (133, 206), (133, 207), (133, 208), (133, 209), (133, 210), (133, 211), (133, 212), (133, 213), (133, 214), (133, 215), (133, 216), (133, 217), (133, 218), (133, 219), (133, 220), (133, 221), (133, 222), (133, 223), (133, 224), (133, 225), (133, 226), (133, 227), (133, 228), (133, 229), (133, 230), (133, 231), (133, 232), (133, 233), (133, 234), (133, 235), (133, 236), (133, 237), (133, 238), (133, 239), (133, 240), (133, 241), (133, 242), (133, 243), (133, 244), (133, 245), (133, 246), (133, 247), (133, 248), (133, 249), (133, 250), (133, 251), (133, 252), (133, 253), (133, 254), (133, 255), (133, 256), (133, 257), (133, 258), (133, 259), (133, 260), (133, 261), (133, 262), (133, 263), (133, 264), (133, 265), (133, 266), (133, 267), (133, 268), (133, 269), (133, 270), (133, 271), (133, 272), (133, 273), (133, 274), (133, 275), (133, 276), (133, 277), (133, 278), (133, 279), (133, 280), (133, 281), (133, 282), (133, 283), (133, 284), (133, 285), (133, 286), (133, 287), (133, 288), (133, 289), (133, 290), (133, 291), (133, 292), (133, 293), (133, 294), (133, 295), (133, 296), (133, 297), (133, 298), (133, 299), (133, 300), (133, 301), (133, 302), (133, 303), (133, 304), (133, 305), (133, 306), (133, 307), (133, 308), (133, 309), (133, 310), (133, 311), (133, 312), (133, 313), (133, 314), (133, 315), (133, 316), (133, 317), (133, 318), (133, 319), (133, 320), (133, 321), (133, 322), (133, 323), (133, 324), (133, 325), (133, 326), (133, 327), (133, 328), (133, 329), (133, 330), (133, 331)] [135, 138, 139, 147, 331] τ t6901 := Fr_cell F6878 M6902 (by decide)
                          refine r_iinc (k := 4) S dX12_log_211 hl rfl (by decide) (by decide) (fun v6906 d6907 ls z6908 z6909 hl => ?_)
                          obtain ⟨e6910, r6911⟩ := i_add (lo := 1) (hi := 40) z6908 r5301 (R_eq z6909) rfl
                          have hl : lv_has ls 5 [(4, .int v6906), (0, .ref (G.2.2.2.1 131)), (1, .int a0), (2, .int v1886), (3, .int i3793)] := hl
                          refine r_goto (tgt := 121) S dX12_log_214 (by decide) ?_
                          exact ih3811 t6901 _ _ _ i3793 v6906 X6903 I6904 F6905 (R_of r6793 rfl) (R_of r6911 rfl) ((M6902.2 131 0 (Or.inl (by decide))).trans ((M6875.2 131 0 (Or.inl (by decide))).trans ((q6871 131 0 (by decide)).trans z3801))) ((M6902.2 131 2 (Or.inl (by decide))).trans ((M6875.2 131 2 (Or.inl (by decide))).trans ((q6871 131 2 (by decide)).trans z3802))) ((M6902.2 131 3 (Or.inl (by decide))).trans ((M6875.2 131 3 (Or.inl (by decide))).trans ((q6871 131 3 (by decide)).trans z3803))) ((M6902.2 131 5 (Or.inl (by decide))).trans ((M6875.2 131 5 (Or.inl (by decide))).trans ((q6871 131 5 (by decide)).trans z3804))) ((M6902.2 131 15 (Or.inl (by decide))).trans ((M6875.2 131 15 (Or.inl (by decide))).trans ((q6871 131 15 (by decide)).trans z3805))) ((M6902.2 131 37 (Or.inl (by decide))).trans ((M6875.2 131 37 (Or.inl (by decide))).trans ((q6871 131 37 (by decide)).trans z3806))) ((M6902.2 131 4 (Or.inl (by decide))).trans ((M6875.2 131 4 (Or.inl (by decide))).trans ((q6871 131 4 (by decide)).trans z3807))) ((M6902.2 131 11 (Or.inl (by decide))).trans ((M6875.2 131 11 (Or.inl (by decide))).trans ((q6871 131 11 (by decide)).trans z3808))) (RW_eq x3810 (fun j => ((M6902.2 135 j (Or.inl (by decide))).trans ((M6875.2 135 j (Or.inl (by decide))).trans ((q6871 135 j (by simp [fz])).trans rfl))))) (lv_sub hl [1, 2, 3, 4, 0] rfl) (by omega)
                        ·
                          have r6912 : R (1) (2147483647) v6882 := ⟨by omega, by omega⟩
                          refine r_iload S dX12_log_195 (lv_at hl 4 rfl) ?_
                          refine r_istore_n (lv' := [(3, .int i3795), (0, .ref (G.2.2.2.1 131)), (1, .int a0), (2, .int v1886), (4, .int i3795)]) S dX12_log_197 rfl hl (by decide) rfl (fun ls hl => ?_)
                          refine r_goto (tgt := 211) S dX12_log_198 (by decide) ?_
                          refine r_iinc (k := 4) S dX12_log_211 hl rfl (by decide) (by decide) (fun v6913 d6914 ls z6915 z6916 hl => ?_)
                          obtain ⟨e6917, r6918⟩ := i_add (lo := 1) (hi := 40) z6915 r5301 (R_eq z6916) rfl
                          have hl : lv_has ls 5 [(4, .int v6913), (3, .int i3795), (0, .ref (G.2.2.2.1 131)), (1, .int a0), (2, .int v1886)] := hl
                          refine r_goto (tgt := 121) S dX12_log_214 (by decide) ?_
                          exact ih3811 t6874 _ _ _ i3795 v6913 X6876 I6877 F6878 (R_of r5301 rfl) (R_of r6918 rfl) ((M6875.2 131 0 (Or.inl (by decide))).trans ((q6871 131 0 (by decide)).trans z3801)) ((M6875.2 131 2 (Or.inl (by decide))).trans ((q6871 131 2 (by decide)).trans z3802)) ((M6875.2 131 3 (Or.inl (by decide))).trans ((q6871 131 3 (by decide)).trans z3803)) ((M6875.2 131 5 (Or.inl (by decide))).trans ((q6871 131 5 (by decide)).trans z3804)) ((M6875.2 131 15 (Or.inl (by decide))).trans ((q6871 131 15 (by decide)).trans z3805)) ((M6875.2 131 37 (Or.inl (by decide))).trans ((q6871 131 37 (by decide)).trans z3806)) ((M6875.2 131 4 (Or.inl (by decide))).trans ((q6871 131 4 (by decide)).trans z3807)) ((M6875.2 131 11 (Or.inl (by decide))).trans ((q6871 131 11 (by decide)).trans z3808)) (RW_eq x3810 (fun j => ((M6875.2 135 j (Or.inl (by decide))).trans ((q6871 135 j (by simp [fz])).trans rfl)))) (lv_sub hl [2, 3, 4, 1, 0] rfl) (by omega)
                exact L3809 _ t1863 _ _ _ v1890 v1893 X1866 I1864 F1865 (R_of r1892 rfl) (R_of r1895 rfl) z1867 z1868 z1869 z1870 z1871 z1872 z1873 z1874 x1876 (lv_sub hl [3, 4, 2, 1, 0] rfl) (Nat.lt_succ_self _)
              ·
                have r6919 : R (0) (3) i1861 := ⟨by omega, by omega⟩
                refine r_aload_n S dX12_log_94 rfl (lv_at hl 0 rfl) ?_
                refine r_get (K := 38) (v := .ref (G.2.2.2.1 147)) S X1866 (Nat.le_of_ble_eq_true rfl) rfl lk12_81_10 (fun _ => ⟨_, rfl, rfl⟩) dX12_log_95 ?_
                refine r_iload_n S dX12_log_98 rfl (lv_at hl 2 rfl) ?_
                refine r_iconst S dX12_log_99 (by decide) (fun v6920 z6921 => ?_)
                have r6922 := R_eq z6921
                refine r_ast (n := 4) (K := 54) S X1866 (Nat.le_of_ble_eq_true rfl) rfl (fun _ _ => rfl) (ix_of r6919 rfl) dX12_log_100 (fun t6923 H lc M6924 X6925 => ?_)
                have I6926 := Inv_mu I1864 M6924 (R_any v6920)
                have F6927 : Fr [(131, 0), (131, 15), (131, 16), (131, 4), (131, 11), (131, 12), (131, 13), (131, 14), (131, 2), (131, 3), (131, 5), (131, 18), (131, 21), (131, 24), (131, 37), (131, 39), (133, 125), (133, 126), (133, 127), (133, 128), (133, 129), (133, 130), (133, 131), (133, 132), (133, 133), (133, 134), (133, 135), (133, 136), (133, 137), (133, 138), (133, 139), (133, 140), (133, 141), (133, 142), (133, 143), (133, 144), (133, 145), (133, 146), (133, 147), (133, 148), (133, 149), (133, 150), (133, 151), (133, 152), (133, 153), (133, 154), (133, 155), (133, 156), (133, 157), (133, 158), (133, 159), (133, 160), (133, 161), (133, 162), (133, 163), (133, 164), (133, 165), (133, 166), (133, 167), (133, 168), (133, 169), (133, 170), (133, 171), (133, 172), (133, 173), (133, 174), (133, 175), (133, 176), (133, 177), (133, 178), (133, 179), (133, 180), (133, 181), (133, 182), (133, 183), (133, 184), (133, 185), (133, 186), (133, 187), (133, 188), (133, 189), (133, 190), (133, 191), (133, 192), (133, 193), (133, 194), (133, 195), (133, 196), (133, 197), (133, 198), (133, 199), (133, 200), (133, 201), (133, 202), (133, 203), (133, 204), (133, 205), (133, 206), (133, 207), (133, 208), (133, 209), (133, 210), (133, 211), (133, 212), (133, 213), (133, 214), (133, 215), (133, 216), (133, 217), (133, 218), (133, 219), (133, 220), (133, 221), (133, 222), (133, 223), (133, 224), (133, 225), (133, 226), (133, 227), (133, 228), (133, 229), (133, 230), (133, 231), (133, 232), (133, 233), (133, 234), (133, 235), (133, 236), (133, 237), (133, 238), (133, 239), (133, 240), (133, 241), (133, 242), (133, 243), (133, 244), (133, 245), (133, 246), (133, 247), (133, 248), (133, 249), (133, 250), (133, 251), (133, 252), (133, 253), (133, 254), (133, 255), (133, 256), (133, 257), (133, 258), (133, 259), (133, 260), (133, 261), (133, 262), (133, 263), (133, 264), (133, 265), (133, 266), (133, 267), (133, 268), (133, 269), (133, 270), (133, 271), (133, 272), (133, 273), (133, 274), (133, 275), (133, 276), (133, 277), (133, 278), (133, 279), (133, 280), (133, 281), (133, 282), (133, 283), (133, 284), (133, 285), (133, 286), (133, 287), (133, 288), (133, 289), (133, 290), (133, 291), (133, 292), (133, 293), (133, 294), (133, 295), (133, 296), (133, 297), (133, 298), (133, 299), (133, 300), (133, 301), (133, 302), (133, 303), (133, 304), (133, 305), (133, 306), (133, 307), (133, 308), (133, 309), (133, 310), (133, 311), (133, 312), (133, 313), (133, 314), (133, 315), (133, 316), (133, 317), (133, 318), (133, 319), (133, 320), (133, 321), (133, 322), (133, 323), (133, 324), (133, 325), (133, 326), (133, 327), (133, 328), (133, 329), (133, 330), (133, 331)] [135, 138, 139, 147, 331] τ t6923 := Fr_cell F1865 M6924 (by decide)
                refine r_iinc (k := 2) S dX12_log_101 hl rfl (by decide) (by decide) (fun v6928 d6929 ls z6930 z6931 hl => ?_)
                obtain ⟨e6932, r6933⟩ := i_add (lo := 1) (hi := 4) z6930 r6919 (R_eq z6931) rfl
                have hl : lv_has ls 5 [(2, .int v6928), (0, .ref (G.2.2.2.1 131)), (1, .int a0)] := hl
                refine r_goto (tgt := 89) S dX12_log_104 (by decide) ?_
                exact ih1877 t6923 _ _ _ v6928 X6925 I6926 F6927 (R_of r6933 rfl) ((M6924.2 131 0 (Or.inl (by decide))).trans z1867) ((M6924.2 131 2 (Or.inl (by decide))).trans z1868) ((M6924.2 131 3 (Or.inl (by decide))).trans z1869) ((M6924.2 131 5 (Or.inl (by decide))).trans z1870) ((M6924.2 131 15 (Or.inl (by decide))).trans z1871) ((M6924.2 131 37 (Or.inl (by decide))).trans z1872) ((M6924.2 131 4 (Or.inl (by decide))).trans z1873) ((M6924.2 131 11 (Or.inl (by decide))).trans z1874) (RW_eq x1876 (fun j => ((M6924.2 135 j (Or.inl (by decide))).trans rfl))) (lv_sub hl [1, 2, 0] rfl) (by omega)
          exact L1875 _ t1703 _ _ _ v1707 X1702 q1704 F1706 (R_of r1709 rfl) ((q1705 131 0 (by decide)).trans z1674) ((q1705 131 2 (by decide)).trans z1675) ((q1705 131 3 (by decide)).trans z1676) ((q1705 131 5 (by decide)).trans z1677) ((q1705 131 15 (by decide)).trans z1680) ((q1705 131 37 (by decide)).trans z1683) ((q1705 131 4 (by decide)).trans z1686) ((q1705 131 11 (by decide)).trans z1689) (RW_eq x1691 (fun j => ((q1705 135 j (by simp [fz])).trans rfl))) (lv_sub hl [1, 2, 0] rfl) (Nat.lt_succ_self _)
        ·
          have r6934 : R (1) (4) f1687 := ⟨by omega, by omega⟩
          refine r_aload_n S dX12_log_46 rfl (lv_at hl 0 rfl) ?_
          refine r_ki (q_V (As := []) (rest := []) (K := 38) (ci := 10) S X1673 (c_X12_logLine_t l G t1670 I1671 (by rw [z1680]; exact R_of r1679 rfl) bb nb an mn tc1695 f1681.toInt.toNat hR1696 (by rw [z1683]; omega)) ck12_394 (Nat.le_of_ble_eq_true rfl) rfl (fun _ => ⟨_, rfl⟩) ⟨_, _, rfl⟩ ⟨Nat.le_of_ble_eq_true rfl, Nat.le_of_ble_eq_true rfl⟩ rfl hl.1 rfl (Nat.le_of_ble_eq_true rfl) dX12_log_47 ⟨Nat.le_refl 0, Nat.le_refl 0⟩) X1673 (fun v6938 t6937 H lc q6935 X6936 => ?_)
          unfold po_X12_logLine_t at q6935
          obtain ⟨q6939, q6940, q6941, q6942, q6943, q6944, q6945, q6946, q6947, q6948, q6949⟩ := q6935
          have F6950 : Fr [(131, 0), (131, 15), (131, 16), (131, 4), (131, 11), (131, 12), (131, 13), (131, 14), (131, 2), (131, 3), (131, 5), (131, 18), (131, 21), (131, 24), (131, 37), (131, 39), (133, 125), (133, 126), (133, 127), (133, 128), (133, 129), (133, 130), (133, 131), (133, 132), (133, 133), (133, 134), (133, 135), (133, 136), (133, 137), (133, 138), (133, 139), (133, 140), (133, 141), (133, 142), (133, 143), (133, 144), (133, 145), (133, 146), (133, 147), (133, 148), (133, 149), (133, 150), (133, 151), (133, 152), (133, 153), (133, 154), (133, 155), (133, 156), (133, 157), (133, 158), (133, 159), (133, 160), (133, 161), (133, 162), (133, 163), (133, 164), (133, 165), (133, 166), (133, 167), (133, 168), (133, 169), (133, 170), (133, 171), (133, 172), (133, 173), (133, 174), (133, 175), (133, 176), (133, 177), (133, 178), (133, 179), (133, 180), (133, 181), (133, 182), (133, 183), (133, 184), (133, 185), (133, 186), (133, 187), (133, 188), (133, 189), (133, 190), (133, 191), (133, 192), (133, 193), (133, 194), (133, 195), (133, 196), (133, 197), (133, 198), (133, 199), (133, 200), (133, 201), (133, 202), (133, 203), (133, 204), (133, 205), (133, 206), (133, 207), (133, 208), (133, 209), (133, 210), (133, 211), (133, 212), (133, 213), (133, 214), (133, 215), (133, 216), (133, 217), (133, 218), (133, 219), (133, 220), (133, 221), (133, 222), (133, 223), (133, 224), (133, 225), (133, 226), (133, 227), (133, 228), (133, 229), (133, 230), (133, 231), (133, 232), (133, 233), (133, 234), (133, 235), (133, 236), (133, 237), (133, 238), (133, 239), (133, 240), (133, 241), (133, 242), (133, 243), (133, 244), (133, 245), (133, 246), (133, 247), (133, 248), (133, 249), (133, 250), (133, 251), (133, 252), (133, 253), (133, 254), (133, 255), (133, 256), (133, 257), (133, 258), (133, 259), (133, 260), (133, 261), (133, 262), (133, 263), (133, 264), (133, 265), (133, 266), (133, 267), (133, 268), (133, 269), (133, 270), (133, 271), (133, 272), (133, 273), (133, 274), (133, 275), (133, 276), (133, 277), (133, 278), (133, 279), (133, 280), (133, 281), (133, 282), (133, 283), (133, 284), (133, 285), (133, 286), (133, 287), (133, 288), (133, 289), (133, 290), (133, 291), (133, 292), (133, 293), (133, 294), (133, 295), (133, 296), (133, 297), (133, 298), (133, 299), (133, 300), (133, 301), (133, 302), (133, 303), (133, 304), (133, 305), (133, 306), (133, 307), (133, 308), (133, 309), (133, 310), (133, 311), (133, 312), (133, 313), (133, 314), (133, 315), (133, 316), (133, 317), (133, 318), (133, 319), (133, 320), (133, 321), (133, 322), (133, 323), (133, 324), (133, 325), (133, 326), (133, 327), (133, 328), (133, 329), (133, 330), (133, 331)] [135, 138, 139, 147, 331] τ t6937 := Fr_call F1672 q6940 (by decide)
          obtain ⟨v6951, z6952⟩ : ∃ x, t6937 131 4 = x := ⟨_, rfl⟩
          rw [z6952] at q6943
          obtain ⟨v6953, z6954⟩ : ∃ x, t6937 131 11 = x := ⟨_, rfl⟩
          rw [z6954] at q6944
          have e6955 := congrArg Int32.toInt z1686
          have e6956 := congrArg Int32.toInt z6952
          have e6957 := congrArg Int32.toInt z1686
          have e6958 := congrArg Int32.toInt z6952
          have e6959 := congrArg Int32.toInt z1689
          have e6960 := congrArg Int32.toInt z6954
          refine r_if_eq (tgt := 62) S dX12_log_50 (by decide) (fun c6961 => ?_) (fun c6961 => ?_)
          ·
            have r6962 : R (0) (0) v6938 := ⟨by omega, by omega⟩
            have p6963 := (QM_0 q6949) (by omega)
            obtain ⟨q6964, e6965, h6966, h6967⟩ := p6963
            refine r_bipush S dX12_log_62 (by decide) (fun v6968 z6969 => ?_)
            have r6970 := R_eq z6969
            refine r_aload_n S dX12_log_64 rfl (lv_at hl 0 rfl) ?_
            refine r_getn (K := 38) S X6936 (Nat.le_of_ble_eq_true rfl) rfl lk12_177_10 (fun _ => ⟨_, rfl, rfl⟩) dX12_log_65 (fun v6971 z6972 => ?_)
            have r6974 := R_any v6971
            refine r_isub S dX12_log_68 (fun v6975 z6976 => ?_)
            have r6977 := R_any v6975
            exact r_ret S hr hlk X6936 ⟨q6939, F6950, (by have h1_0 := congrArg Int32.toInt ((q6940 131 2 (by decide)).trans z1675); have h2_0 := congrArg Int32.toInt z2; omega), (by have h1_0 := congrArg Int32.toInt ((q6940 131 2 (by decide)).trans z1675); have h2_0 := congrArg Int32.toInt z2; omega), ⟨fun _ => QL_l (by rw [sLo_d, ← he1697, show 41 - f1681.toInt.toNat = (40 - f1681.toInt.toNat) + 1 by omega]; exact lRd_l1 (fun h => by have q := MT_k hR1696.1; rw [z1689] at q; omega) e6965) h6966, fun h => by exfalso; omega⟩⟩ rfl dX12_log_69
          ·
            have r6978 : R (1) (1) v6938 := ⟨by omega, by omega⟩
            obtain ⟨p6979, p6980⟩ := q6942 (by omega)
            have r6981 : R (0) (39) f1681 := ((q6940 131 37 (by decide)).trans z1683) ▸ p6979
            have r6982 : R (0) (39) f1681 := ⟨by omega, by omega⟩
            obtain ⟨v6983, z6984⟩ : ∃ x, t6937 131 15 = x := ⟨_, rfl⟩
            rw [z6984] at p6980
            have p6985 := (QM_1 q6949) (by omega)
            obtain ⟨g6986, e6987, hP6988⟩ := p6985
            have e6989 : f1687.toInt = 1 := by have q := MT_k hR1696.1; rw [z1689] at q; have q2 := sLg_w e6987; omega
            refine r_aload_n S dX12_log_53 rfl (lv_at hl 0 rfl) ?_
            refine r_bipush S dX12_log_54 (by decide) (fun v6990 z6991 => ?_)
            have r6992 := R_eq z6991
            refine r_ki (q_V (As := [.int v6990]) (rest := []) (K := 38) (ci := 10) S X6936 (c_X12_sign_t l G t6937 q6939 v6990 r6992 (by rw [z6984]; exact R_of p6980 rfl) bb nb an mn g6986 hP6988 ) ck12_246 (Nat.le_of_ble_eq_true rfl) rfl (fun _ => ⟨_, rfl⟩) ⟨_, _, rfl⟩ ⟨Nat.le_of_ble_eq_true rfl, Nat.le_of_ble_eq_true rfl⟩ rfl hl.1 rfl (Nat.le_of_ble_eq_true rfl) dX12_log_56 ⟨Nat.le_refl 0, Nat.le_refl 0⟩) X6936 (fun v6996 t6995 H lc q6993 X6994 => ?_)
            unfold po_X12_sign_t at q6993
            obtain ⟨q6997, q6998, q6999, q7000, q7001, q7002, q7003, q7004, q7005⟩ := q6993
            have F7006 : Fr [(131, 0), (131, 15), (131, 16), (131, 4), (131, 11), (131, 12), (131, 13), (131, 14), (131, 2), (131, 3), (131, 5), (131, 18), (131, 21), (131, 24), (131, 37), (131, 39), (133, 125), (133, 126), (133, 127), (133, 128), (133, 129), (133, 130), (133, 131), (133, 132), (133, 133), (133, 134), (133, 135), (133, 136), (133, 137), (133, 138), (133, 139), (133, 140), (133, 141), (133, 142), (133, 143), (133, 144), (133, 145), (133, 146), (133, 147), (133, 148), (133, 149), (133, 150), (133, 151), (133, 152), (133, 153), (133, 154), (133, 155), (133, 156), (133, 157), (133, 158), (133, 159), (133, 160), (133, 161), (133, 162), (133, 163), (133, 164), (133, 165), (133, 166), (133, 167), (133, 168), (133, 169), (133, 170), (133, 171), (133, 172), (133, 173), (133, 174), (133, 175), (133, 176), (133, 177), (133, 178), (133, 179), (133, 180), (133, 181), (133, 182), (133, 183), (133, 184), (133, 185), (133, 186), (133, 187), (133, 188), (133, 189), (133, 190), (133, 191), (133, 192), (133, 193), (133, 194), (133, 195), (133, 196), (133, 197), (133, 198), (133, 199), (133, 200), (133, 201), (133, 202), (133, 203), (133, 204), (133, 205), (133, 206), (133, 207), (133, 208), (133, 209), (133, 210), (133, 211), (133, 212), (133, 213), (133, 214), (133, 215), (133, 216), (133, 217), (133, 218), (133, 219), (133, 220), (133, 221), (133, 222), (133, 223), (133, 224), (133, 225), (133, 226), (133, 227), (133, 228), (133, 229), (133, 230), (133, 231), (133, 232), (133, 233), (133, 234), (133, 235), (133, 236), (133, 237), (133, 238), (133, 239), (133, 240), (133, 241), (133, 242), (133, 243), (133, 244), (133, 245), (133, 246), (133, 247), (133, 248), (133, 249), (133, 250), (133, 251), (133, 252), (133, 253), (133, 254), (133, 255), (133, 256), (133, 257), (133, 258), (133, 259), (133, 260), (133, 261), (133, 262), (133, 263), (133, 264), (133, 265), (133, 266), (133, 267), (133, 268), (133, 269), (133, 270), (133, 271), (133, 272), (133, 273), (133, 274), (133, 275), (133, 276), (133, 277), (133, 278), (133, 279), (133, 280), (133, 281), (133, 282), (133, 283), (133, 284), (133, 285), (133, 286), (133, 287), (133, 288), (133, 289), (133, 290), (133, 291), (133, 292), (133, 293), (133, 294), (133, 295), (133, 296), (133, 297), (133, 298), (133, 299), (133, 300), (133, 301), (133, 302), (133, 303), (133, 304), (133, 305), (133, 306), (133, 307), (133, 308), (133, 309), (133, 310), (133, 311), (133, 312), (133, 313), (133, 314), (133, 315), (133, 316), (133, 317), (133, 318), (133, 319), (133, 320), (133, 321), (133, 322), (133, 323), (133, 324), (133, 325), (133, 326), (133, 327), (133, 328), (133, 329), (133, 330), (133, 331)] [135, 138, 139, 147, 331] τ t6995 := Fr_call F6950 q6998 (by decide)
            obtain ⟨v7007, z7008⟩ : ∃ x, t6995 131 4 = x := ⟨_, rfl⟩
            rw [z7008] at q7001
            obtain ⟨v7009, z7010⟩ : ∃ x, t6995 131 11 = x := ⟨_, rfl⟩
            rw [z7010] at q7002
            have e7011 := congrArg Int32.toInt z6952
            have e7012 := congrArg Int32.toInt z7008
            have e7013 := congrArg Int32.toInt z6954
            have e7014 := congrArg Int32.toInt z7010
            refine r_if_ne (tgt := 70) S dX12_log_59 (by decide) (fun c7015 => ?_) (fun c7015 => ?_)
            ·
              have r7016 : R (1) (1) v6996 := ⟨by omega, by omega⟩
              have p7017 := q7000 (by omega)
              obtain ⟨v7018, z7019⟩ : ∃ x, t6995 131 15 = x := ⟨_, rfl⟩
              rw [z7019] at p7017
              have p7020 := (QM_1 q7005) (by omega)
              obtain ⟨g7021, e7022, hP7023⟩ := p7020
              refine r_aload_n S dX12_log_70 rfl (lv_at hl 0 rfl) ?_
              refine r_dup S dX12_log_71 rfl ?_
              refine r_geti (K := 38) S X6994 (Nat.le_of_ble_eq_true rfl) rfl lk12_385_10 (fun _ => ⟨_, rfl, rfl⟩) ((q6998 131 37 (by decide)).trans ((q6940 131 37 (by decide)).trans z1683)) dX12_log_72 ?_
              refine r_iconst S dX12_log_75 (by decide) (fun v7024 z7025 => ?_)
              have r7026 := R_eq z7025
              refine r_iadd S dX12_log_76 (fun v7027 z7028 => ?_)
              obtain ⟨e7029, r7030⟩ := i_add (lo := 1) (hi := 40) z7028 r6982 r7026 rfl
              refine r_put (K := 38) (ty := .int) S X6994 (Nat.le_of_ble_eq_true rfl) rfl lk12_385_10 (fun _ => ⟨_, rfl, Nat.le_of_ble_eq_true rfl, rfl⟩) (fun _ _ _ h => by cases h; exact ⟨rfl, rfl⟩) rfl rfl dX12_log_77 (fun t7031 H lc M7032 X7033 => ?_)
              have I7034 := Inv_mu q6997 M7032 (show Rg (kd 131) 37 v7027 from (R_of (lo := 0) (hi := 40) r7030 rfl))
              have F7035 : Fr [(131, 0), (131, 15), (131, 16), (131, 4), (131, 11), (131, 12), (131, 13), (131, 14), (131, 2), (131, 3), (131, 5), (131, 18), (131, 21), (131, 24), (131, 37), (131, 39), (133, 125), (133, 126), (133, 127), (133, 128), (133, 129), (133, 130), (133, 131), (133, 132), (133, 133), (133, 134), (133, 135), (133, 136), (133, 137), (133, 138), (133, 139), (133, 140), (133, 141), (133, 142), (133, 143), (133, 144), (133, 145), (133, 146), (133, 147), (133, 148), (133, 149), (133, 150), (133, 151), (133, 152), (133, 153), (133, 154), (133, 155), (133, 156), (133, 157), (133, 158), (133, 159), (133, 160), (133, 161), (133, 162), (133, 163), (133, 164), (133, 165), (133, 166), (133, 167), (133, 168), (133, 169), (133, 170), (133, 171), (133, 172), (133, 173), (133, 174), (133, 175), (133, 176), (133, 177), (133, 178), (133, 179), (133, 180), (133, 181), (133, 182), (133, 183), (133, 184), (133, 185), (133, 186), (133, 187), (133, 188), (133, 189), (133, 190), (133, 191), (133, 192), (133, 193), (133, 194), (133, 195), (133, 196), (133, 197), (133, 198), (133, 199), (133, 200), (133, 201), (133, 202), (133, 203), (133, 204), (133, 205), (133, 206), (133, 207), (133, 208), (133, 209), (133, 210), (133, 211), (133, 212), (133, 213), (133, 214), (133, 215), (133, 216), (133, 217), (133, 218), (133, 219), (133, 220), (133, 221), (133, 222), (133, 223), (133, 224), (133, 225), (133, 226), (133, 227), (133, 228), (133, 229), (133, 230), (133, 231), (133, 232), (133, 233), (133, 234), (133, 235), (133, 236), (133, 237), (133, 238), (133, 239), (133, 240), (133, 241), (133, 242), (133, 243), (133, 244), (133, 245), (133, 246), (133, 247), (133, 248), (133, 249), (133, 250), (133, 251), (133, 252), (133, 253), (133, 254), (133, 255), (133, 256), (133, 257), (133, 258), (133, 259), (133, 260), (133, 261), (133, 262), (133, 263), (133, 264), (133, 265), (133, 266), (133, 267), (133, 268), (133, 269), (133, 270), (133, 271), (133, 272), (133, 273), (133, 274), (133, 275), (133, 276), (133, 277), (133, 278), (133, 279), (133, 280), (133, 281), (133, 282), (133, 283), (133, 284), (133, 285), (133, 286), (133, 287), (133, 288), (133, 289), (133, 290), (133, 291), (133, 292), (133, 293), (133, 294), (133, 295), (133, 296), (133, 297), (133, 298), (133, 299), (133, 300), (133, 301), (133, 302), (133, 303), (133, 304), (133, 305), (133, 306), (133, 307), (133, 308), (133, 309), (133, 310), (133, 311), (133, 312), (133, 313), (133, 314), (133, 315), (133, 316), (133, 317), (133, 318), (133, 319), (133, 320), (133, 321), (133, 322), (133, 323), (133, 324), (133, 325), (133, 326), (133, 327), (133, 328), (133, 329), (133, 330), (133, 331)] [135, 138, 139, 147, 331] τ t7031 := Fr_mu F7006 M7032 (by decide)
              refine r_goto (tgt := 39) S dX12_log_80 (by decide) ?_
              exact ih1694 t7031 _ _ _ v7018 v7027 v7007 v7009 X7033 I7034 F7035 ((M7032.2 131 0 (Or.inr (by decide))).trans ((q6998 131 0 (by decide)).trans ((q6940 131 0 (by decide)).trans z1674))) ((M7032.2 131 2 (Or.inr (by decide))).trans ((q6998 131 2 (by decide)).trans ((q6940 131 2 (by decide)).trans z1675))) ((M7032.2 131 3 (Or.inr (by decide))).trans ((q6998 131 3 (by decide)).trans ((q6940 131 3 (by decide)).trans z1676))) ((M7032.2 131 5 (Or.inr (by decide))).trans ((q6998 131 5 (by decide)).trans ((q6940 131 5 (by decide)).trans z1677))) ((M7032.2 131 15 (Or.inr (by decide))).trans z7019) ⟨by omega, by omega⟩ M7032.1 ⟨by omega, by omega⟩ ((M7032.2 131 4 (Or.inr (by decide))).trans z7008) ⟨by omega, by omega⟩ ((M7032.2 131 11 (Or.inr (by decide))).trans z7010) ⟨by omega, by omega⟩ (RW_eq (RW_step (x := 0) x1691 z1683 q6946 (q6947 (by omega)) (by omega)) (fun j => ((M7032.2 135 j (Or.inl (by decide))).trans ((q6998 135 j (by simp [fz])).trans rfl)))) ⟨g7021, (MG_fr hP7023 ((M7032.2 131 3 (Or.inr (by decide))).trans rfl) ((M7032.2 131 4 (Or.inr (by decide))).trans rfl) ((M7032.2 131 5 (Or.inr (by decide))).trans rfl) ((M7032.2 131 11 (Or.inr (by decide))).trans rfl) ((M7032.2 131 12 (Or.inr (by decide))).trans rfl) ((M7032.2 131 14 (Or.inr (by decide))).trans rfl) (fun j => ((M7032.2 132 j (Or.inl (by decide))).trans rfl)) (fun j => ((M7032.2 331 j (Or.inl (by decide))).trans rfl)) ((M7032.2 133 0 (Or.inl (by decide))).trans rfl) ((M7032.2 133 1 (Or.inl (by decide))).trans rfl) (fun j => ((M7032.2 336 j (Or.inl (by decide))).trans rfl)) (fun j => ((M7032.2 337 j (Or.inl (by decide))).trans rfl))), (by rw [← he1697, show 41 - f1681.toInt.toNat = (41 - v7027.toInt.toNat) + 1 by omega, show v7027.toInt.toNat = f1681.toInt.toNat + 1 by omega]; exact (lRd_r (fun h => by have q := MT_k hR1696.1; rw [z1689] at q; omega) e6987 e7022).symm)⟩ ⟨by omega, by omega⟩ (lv_sub hl [0, 1] rfl) (by omega)
            ·
              have r7036 : R (0) (0) v6996 := ⟨by omega, by omega⟩
              have p7037 := (QM_0 q7005) (by omega)
              obtain ⟨q7038, e7039, h7040, h7041⟩ := p7037
              refine r_bipush S dX12_log_62 (by decide) (fun v7042 z7043 => ?_)
              have r7044 := R_eq z7043
              refine r_aload_n S dX12_log_64 rfl (lv_at hl 0 rfl) ?_
              refine r_getn (K := 38) S X6994 (Nat.le_of_ble_eq_true rfl) rfl lk12_177_10 (fun _ => ⟨_, rfl, rfl⟩) dX12_log_65 (fun v7045 z7046 => ?_)
              have r7048 := R_any v7045
              refine r_isub S dX12_log_68 (fun v7049 z7050 => ?_)
              have r7051 := R_any v7049
              exact r_ret S hr hlk X6994 ⟨q6997, F7006, (by have h1_0 := congrArg Int32.toInt ((q6998 131 2 (by decide)).trans ((q6940 131 2 (by decide)).trans z1675)); have h2_0 := congrArg Int32.toInt z2; omega), (by have h1_0 := congrArg Int32.toInt ((q6998 131 2 (by decide)).trans ((q6940 131 2 (by decide)).trans z1675)); have h2_0 := congrArg Int32.toInt z2; omega), ⟨fun _ => QL_l (by rw [sLo_d, ← he1697, show 41 - f1681.toInt.toNat = (40 - f1681.toInt.toNat) + 1 by omega]; exact lRd_l2 (fun h => by have q := MT_k hR1696.1; rw [z1689] at q; omega) e6987 e7039) h7040, fun h => by exfalso; omega⟩⟩ rfl dX12_log_69
    exact L1690 _ t66 _ _ _ v48 v56 v75 v77 X65 q67 F74 ((q68 131 0 (by decide)).trans ((M60.2 131 0 (Or.inr (by decide))).trans ((M52.2 131 0 (Or.inr (by decide))).trans ((q38 131 0 (by decide)).trans M8.1)))) ((q68 131 2 (by decide)).trans ((M60.2 131 2 (Or.inr (by decide))).trans ((M52.2 131 2 (Or.inr (by decide))).trans z45))) ((q68 131 3 (by decide)).trans ((M60.2 131 3 (Or.inr (by decide))).trans ((M52.2 131 3 (Or.inr (by decide))).trans (q40.trans ((M8.2 131 2 (Or.inr (by decide))).trans z2))))) ((q68 131 5 (by decide)).trans ((M60.2 131 5 (Or.inr (by decide))).trans ((M52.2 131 5 (Or.inr (by decide))).trans q42))) ((q68 131 15 (by decide)).trans ((M60.2 131 15 (Or.inr (by decide))).trans M52.1)) ⟨by omega, by omega⟩ ((q68 131 37 (by decide)).trans M60.1) ⟨by omega, by omega⟩ z76 ⟨by omega, by omega⟩ z78 ⟨by omega, by omega⟩ (RW_0 (by omega)) ⟨lex bb nb 400 0, hR84, (by rw [show v56.toInt.toNat = 0 by omega])⟩ ⟨by omega, by omega⟩ (lv_sub hl [0, 1] rfl) (Nat.lt_succ_self _)
  ·
    have r7052 : R (0) (0) v21 := ⟨by omega, by omega⟩
    refine r_sipush S dX12_log_14 (by decide) (fun v7053 z7054 => ?_)
    have r7055 := R_eq z7054
    exact r_ret S hr hlk X19 ⟨I10, F11, (by have h1_0 := congrArg Int32.toInt ((M8.2 131 2 (Or.inr (by decide))).trans z2); have h2_0 := congrArg Int32.toInt z2; omega), (by have h1_0 := congrArg Int32.toInt ((M8.2 131 2 (Or.inr (by decide))).trans z2); have h2_0 := congrArg Int32.toInt z2; omega), ⟨fun h => by exfalso; omega, fun _ => ((M8.2 131 15 (Or.inr (by decide))).trans rfl)⟩⟩ rfl dX12_log_17
