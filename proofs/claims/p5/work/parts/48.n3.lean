def po_X12_readMan_q (τ : Tau)    (bb : Nat → Int) (nb : Nat) (fs : FS) (r : Int32) (u : Tau) : Prop := Inv u ∧ Fr [(131, 15), (131, 16), (131, 4), (131, 11), (131, 12), (131, 13), (131, 14), (131, 18), (131, 21)] [134, 331, 336] τ u ∧ R (0) (1) r ∧ (r.toInt = 1 → R (0) (0) (u 131 15)) ∧ R (0) (940) (u 131 4) ∧ R (0) (4) (u 131 11) ∧ (τ 131 4).toInt ≤ (u 131 4).toInt ∧ (r.toInt = 1 → (τ 131 4).toInt < (u 131 4).toInt) ∧ NB bb u ∧ QM (sMan bb nb fs) r u (fun g => RM bb nb u g)
set_option maxHeartbeats 4000000 in
set_option maxRecDepth 100000 in
theorem c_X12_readMan_q (l : Launch) (G : Gx) (τ : Tau) (hI : Inv τ) (hf_0 : R (0) (0) (τ 131 15)) (bb : Nat → Int) (nb : Nat) (fs : FS) (hR : RM bb nb τ fs) (hW : fs.1.1 = 1) : Ci l G yX12_readMan cX12_readMan 3 (some .boolean) 4 87 [.ref (G.2.2.2.1 131)] τ (po_X12_readMan_q τ    bb nb fs) := by
  unfold Ci
  refine C_of (own := RX12) (by decide) rfl (Nat.le_of_ble_eq_true rfl) ?_
  intro p e s m below meth c ls S hr hlk X hl
  have hl : lv_has ls 3 [(0, .ref (G.2.2.2.1 131))] := hl
  obtain ⟨v1, z2⟩ : ∃ x, τ 131 15 = x := ⟨_, rfl⟩
  rw [z2] at hf_0
  obtain ⟨v3, z4⟩ : ∃ x, τ 131 4 = x := ⟨_, rfl⟩
  have r5 : R (0) (940) v3 := rd hI rfl z4
  obtain ⟨v6, z7⟩ : ∃ x, τ 131 11 = x := ⟨_, rfl⟩
  have r8 : R (0) (4) v6 := rd hI rfl z7
  have e9 : (τ 134 0).toInt = (((gan fs.2).length : Nat) : Int) := hR.2.1.2.2.2.2.2.1.1
  have e10 : (τ 134 1).toInt = (((gmn fs.2).length : Nat) : Int) := hR.2.1.2.2.2.2.2.2.1.1
  have ra11 : R 0 9 (τ 134 0) := rd (K := 41) hI rfl rfl
  have ra12 : R 0 10 (τ 134 1) := rd (K := 41) hI rfl rfl
  refine r_aload_n S dX12_readMan_0 rfl (lv_at hl 0 rfl) ?_
  refine r_get (K := 38) (v := .ref (G.2.2.2.1 134)) S X (Nat.le_of_ble_eq_true rfl) rfl lk12_37_10 (fun _ => ⟨_, rfl, rfl⟩) dX12_readMan_1 ?_
  refine r_iconst S dX12_readMan_4 (by decide) (fun v13 z14 => ?_)
  have r15 := R_eq z14
  refine r_aldn (n := 125) (K := 41) S X (Nat.le_of_ble_eq_true rfl) rfl (fun _ => rfl) (ix_of r15 rfl) dX12_readMan_5 (fun v16 z17 => ?_)
  have r18 : R (0) (10) v16 := rds (K := 41) (a := 1) (n := 1) hI rfl z17 (R_of r15 rfl) (by decide +kernel)
  refine r_istore_n (lv' := [(1, .int v16), (0, .ref (G.2.2.2.1 131))]) S dX12_readMan_6 rfl hl (by decide) rfl (fun ls hl => ?_)
  refine r_iload_n S dX12_readMan_7 rfl (lv_at hl 0 rfl) ?_
  refine r_bipush S dX12_readMan_8 (by decide) (fun v19 z20 => ?_)
  have r21 := R_eq z20
  have e22 := congrArg Int32.toInt (zc (n := 1) (by omega) z17)
  refine r_icmp_ne (tgt := 19) S dX12_readMan_10 (by decide) (fun c23 => ?_) (fun c23 => ?_)
  ·
    have r24 : R (0) (9) v16 := ⟨by omega, by omega⟩
    refine r_aload_n S dX12_readMan_19 rfl (lv_at hl 1 rfl) ?_
    refine r_kv (q_V (As := []) (rest := []) (K := 38) (ci := 10) S X (c_X12_skip_q l G τ hI bb nb 900 fs.1.2.2 (MT_st hR.1 (Or.inl hW)).1 (MT_st hR.1 (Or.inl hW)).2.1 (MT_st hR.1 (Or.inl hW)).2.2) ck12_186 (Nat.le_of_ble_eq_true rfl) rfl (fun _ => ⟨_, rfl⟩) ⟨_, _, rfl⟩ ⟨Nat.le_of_ble_eq_true rfl, Nat.le_of_ble_eq_true rfl⟩ rfl hl.1 rfl (Nat.le_of_ble_eq_true rfl) dX12_readMan_20 ⟨Nat.le_refl 0, Nat.le_refl 0⟩) X (fun t27 H lc q25 X26 => ?_)
    unfold po_X12_skip_q at q25
    obtain ⟨q28, q29, q30, q31, q32, q33, q34⟩ := q25
    have F35 : Fr [(131, 15), (131, 16), (131, 4), (131, 11), (131, 12), (131, 13), (131, 14), (131, 18), (131, 21)] [134, 331, 336] τ t27 := Fr_call Fr_rfl q29 (by decide)
    obtain ⟨v36, z37⟩ : ∃ x, t27 131 4 = x := ⟨_, rfl⟩
    rw [z37] at q30
    obtain ⟨v38, z39⟩ : ∃ x, t27 131 11 = x := ⟨_, rfl⟩
    rw [z39] at q31
    have e40 := congrArg Int32.toInt z4
    have e41 := congrArg Int32.toInt z37
    have e42 := congrArg Int32.toInt z4
    have e43 := congrArg Int32.toInt z37
    have e44 := congrArg Int32.toInt z7
    have e45 := congrArg Int32.toInt z39
    have hR46 : RM bb nb t27 (stp bb nb fs) := ⟨q34, RH_fr hR.2.1 ((q29 131 20 (by decide)).trans rfl) (fun j _ => ((q29 134 j (by simp [fz])).trans rfl)) (fun j => ((q29 336 j (by simp [fz])).trans rfl)), RS2_fr hR.2.2 (fun j => ((q29 337 j (by simp [fz])).trans rfl)) (fun j => ((q29 336 j (by simp [fz])).trans rfl))⟩
    refine r_aload_n S dX12_readMan_23 rfl (lv_at hl 1 rfl) ?_
    refine r_bipush S dX12_readMan_24 (by decide) (fun v47 z48 => ?_)
    have r49 := R_eq z48
    refine r_iload_n S dX12_readMan_26 rfl (lv_at hl 0 rfl) ?_
    refine r_iadd S dX12_readMan_27 (fun v50 z51 => ?_)
    obtain ⟨e52, r53⟩ := i_add (lo := 28) (hi := 37) z51 r49 r24 rfl
    refine r_ki (q_V (As := [.int v50]) (rest := []) (K := 38) (ci := 10) S X26 (c_X12_fresh_q l G t27 q28 v50 (R_of (lo := 19) (hi := 37) r53 rfl) (by rw [((q29 131 15 (by decide)).trans z2)]; exact R_of hf_0 rfl) bb nb (stp bb nb fs) hR46 ⟨fun i hi => by have c : v50.toNatClampNeg = v50.toInt.toNat := rfl; have h9 : i < (gan fs.2).length := hi; omega, fun i hi => by have c : v50.toNatClampNeg = v50.toInt.toNat := rfl; have h9 : i < (gmn fs.2).length := hi; omega⟩) ck12_228 (Nat.le_of_ble_eq_true rfl) rfl (fun _ => ⟨_, rfl⟩) ⟨_, _, rfl⟩ ⟨Nat.le_of_ble_eq_true rfl, Nat.le_of_ble_eq_true rfl⟩ rfl hl.1 rfl (Nat.le_of_ble_eq_true rfl) dX12_readMan_28 ⟨Nat.le_refl 0, Nat.le_refl 0⟩) X26 (fun v57 t56 H lc q54 X55 => ?_)
    unfold po_X12_fresh_q at q54
    obtain ⟨q58, q59, q60, q61, q62, q63, q64, q65, q66, q67⟩ := q54
    have F68 : Fr [(131, 15), (131, 16), (131, 4), (131, 11), (131, 12), (131, 13), (131, 14), (131, 18), (131, 21)] [134, 331, 336] τ t56 := Fr_call F35 q59 (by decide)
    obtain ⟨v69, z70⟩ : ∃ x, t56 131 4 = x := ⟨_, rfl⟩
    rw [z70] at q62
    obtain ⟨v71, z72⟩ : ∃ x, t56 131 11 = x := ⟨_, rfl⟩
    rw [z72] at q63
    have e73 := congrArg Int32.toInt z37
    have e74 := congrArg Int32.toInt z70
    have e75 := congrArg Int32.toInt z39
    have e76 := congrArg Int32.toInt z72
    refine r_if_eq (tgt := 44) S dX12_readMan_31 (by decide) (fun c77 => ?_) (fun c77 => ?_)
    ·
      have r78 : R (0) (0) v57 := ⟨by omega, by omega⟩
      have p79 := (QM_0 q67) (by omega)
      obtain ⟨q80, e81, h82, h83⟩ := p79
      refine r_iconst S dX12_readMan_44 (by decide) (fun v84 z85 => ?_)
      have r86 := R_eq z85
      exact r_ret S hr hlk X55 ⟨q58, F68, (R_of r86 rfl), (fun h => by exfalso; omega), (by rw [z70]; exact R_of q62 rfl), (by rw [z72]; exact R_of q63 rfl), (by have h1_0 := congrArg Int32.toInt z70; have h2_0 := congrArg Int32.toInt z4; omega), (by have h1_0 := congrArg Int32.toInt z70; have h2_0 := congrArg Int32.toInt z4; omega), q66, (QM_l (sMan_l1 (by omega) e81) (by omega) h82 h83)⟩ (nr_bool (R_of (lo := 0) (hi := 1) r86 rfl)) dX12_readMan_45
    ·
      have r87 : R (1) (1) v57 := ⟨by omega, by omega⟩
      have p88 := q61 (by omega)
      obtain ⟨v89, z90⟩ : ∃ x, t56 131 15 = x := ⟨_, rfl⟩
      rw [z90] at p88
      have p91 := (QM_1 q67) (by omega)
      obtain ⟨g92, e93, hP94⟩ := p91
      refine r_aload_n S dX12_readMan_34 rfl (lv_at hl 1 rfl) ?_
      refine r_iconst S dX12_readMan_35 (by decide) (fun v95 z96 => ?_)
      have r97 := R_eq z96
      refine r_bipush S dX12_readMan_36 (by decide) (fun v98 z99 => ?_)
      have r100 := R_eq z99
      refine r_ki (q_V (As := [.int v95, .int v98]) (rest := []) (K := 38) (ci := 10) S X55 (c_X12_takes_q_0_20 l G t56 q58 v95 v98 r97 r100 (by rw [z90]; exact R_of p88 rfl) bb nb (stp bb nb (stp bb nb fs)) hP94.1 ) ck12_212 (Nat.le_of_ble_eq_true rfl) rfl (fun _ => ⟨_, rfl⟩) ⟨_, _, rfl⟩ ⟨Nat.le_of_ble_eq_true rfl, Nat.le_of_ble_eq_true rfl⟩ rfl hl.1 rfl (Nat.le_of_ble_eq_true rfl) dX12_readMan_38 ⟨Nat.le_refl 0, Nat.le_refl 0⟩) X55 (fun v104 t103 H lc q101 X102 => ?_)
      unfold po_X12_takes_q_0_20 at q101
      obtain ⟨q105, q106, q107, q108, q109, q110, q111, q112, q113⟩ := q101
      have F114 : Fr [(131, 15), (131, 16), (131, 4), (131, 11), (131, 12), (131, 13), (131, 14), (131, 18), (131, 21)] [134, 331, 336] τ t103 := Fr_call F68 q106 (by decide)
      obtain ⟨v115, z116⟩ : ∃ x, t103 131 4 = x := ⟨_, rfl⟩
      rw [z116] at q109
      obtain ⟨v117, z118⟩ : ∃ x, t103 131 11 = x := ⟨_, rfl⟩
      rw [z118] at q110
      have e119 := congrArg Int32.toInt z70
      have e120 := congrArg Int32.toInt z116
      have e121 := congrArg Int32.toInt z72
      have e122 := congrArg Int32.toInt z118
      refine r_if_ne (tgt := 46) S dX12_readMan_41 (by decide) (fun c123 => ?_) (fun c123 => ?_)
      ·
        have r124 : R (1) (1) v104 := ⟨by omega, by omega⟩
        obtain ⟨p125, p126⟩ := q108 (by omega)
        obtain ⟨v127, z128⟩ : ∃ x, t103 131 18 = x := ⟨_, rfl⟩
        rw [z128] at p125
        obtain ⟨v129, z130⟩ : ∃ x, t103 131 15 = x := ⟨_, rfl⟩
        rw [z130] at p126
        have p131 := (QM_1 q113) (by omega)
        obtain ⟨g132, e133, hP134⟩ := p131
        refine r_aload_n S dX12_readMan_46 rfl (lv_at hl 1 rfl) ?_
        refine r_get (K := 38) (v := .ref (G.2.2.2.1 134)) S X102 (Nat.le_of_ble_eq_true rfl) rfl lk12_37_10 (fun _ => ⟨_, rfl, rfl⟩) dX12_readMan_47 ?_
        refine r_iconst S dX12_readMan_50 (by decide) (fun v135 z136 => ?_)
        have r137 := R_eq z136
        refine r_iload_n S dX12_readMan_51 rfl (lv_at hl 0 rfl) ?_
        refine r_iadd S dX12_readMan_52 (fun v138 z139 => ?_)
        obtain ⟨e140, r141⟩ := i_add (lo := 5) (hi := 14) z139 r137 r24 rfl
        refine r_aload_n S dX12_readMan_53 rfl (lv_at hl 1 rfl) ?_
        refine r_geti (K := 38) S X102 (Nat.le_of_ble_eq_true rfl) rfl lk12_193_10 (fun _ => ⟨_, rfl, rfl⟩) z128 dX12_readMan_54 ?_
        refine r_ast (n := 125) (K := 41) S X102 (Nat.le_of_ble_eq_true rfl) rfl (fun _ _ => rfl) (ix_of r141 rfl) dX12_readMan_57 (fun t142 H lc M143 X144 => ?_)
        have I145 := Inv_mu q105 M143 (show Rg (kd 134) _ v127 from wrs (K := 41) (a := 5) (n := 10) (R_of r141 rfl) (R_of (lo := 0) (hi := 20) p125 rfl) (by decide +kernel))
        have F146 : Fr [(131, 15), (131, 16), (131, 4), (131, 11), (131, 12), (131, 13), (131, 14), (131, 18), (131, 21)] [134, 331, 336] τ t142 := Fr_cell F114 M143 (by decide)
        have hR147 : RM bb nb t142 g132.2 := ⟨MT_fr hP134.2.1 ((M143.2 131 3 (Or.inl (by decide))).trans rfl) ((M143.2 131 4 (Or.inl (by decide))).trans rfl) ((M143.2 131 5 (Or.inl (by decide))).trans rfl) ((M143.2 131 11 (Or.inl (by decide))).trans rfl) ((M143.2 131 12 (Or.inl (by decide))).trans rfl) ((M143.2 131 14 (Or.inl (by decide))).trans rfl) (fun j => ((M143.2 132 j (Or.inl (by decide))).trans rfl)) (fun j => ((M143.2 331 j (Or.inl (by decide))).trans rfl)), RH_mu hP134.2.2.1 M143 (by have c : v138.toNatClampNeg = v138.toInt.toNat := rfl; omega), RS2_fr hP134.2.2.2 (fun j => ((M143.2 337 j (Or.inl (by decide))).trans rfl)) (fun j => ((M143.2 336 j (Or.inl (by decide))).trans rfl))⟩
        refine r_iconst S dX12_readMan_58 (by decide) (fun v148 z149 => ?_)
        have r150 := R_eq z149
        refine r_istore_n (lv' := [(2, .int v148), (1, .int v16), (0, .ref (G.2.2.2.1 131))]) S dX12_readMan_59 rfl hl (by decide) rfl (fun ls hl => ?_)
        have L492 : ∀ (n : Nat) (t483 : Tau) (H : Heap) (lc : List Loc) (ls : Array Slot) (i481 : Int32), Xd G s H lc t483 → Inv t483 → Fr [(131, 15), (131, 16), (131, 4), (131, 11), (131, 12), (131, 13), (131, 14), (131, 18), (131, 21)] [134, 331, 336] τ t483 → R (0) (9) i481 → t483 134 1 = v16 → t483 131 4 = v115 → t483 131 11 = v117 → t483 131 18 = v127 → t483 131 15 = v129 → (∀ j : Nat, (j : Int) < (i481).toInt → (t483 134 (15 + 9 * v16.toInt.toNat + j)).toInt = 0) → (∀ j : Nat, (j < 5 ∨ 105 ≤ j) → t483 134 j = t142 134 j) → (∀ j : Nat, t483 132 j = t142 132 j) → (∀ j : Nat, t483 331 j = t142 331 j) → (∀ j : Nat, t483 336 j = t142 336 j) → (∀ j : Nat, t483 337 j = t142 337 j) → t483 131 3 = t142 131 3 → t483 131 4 = t142 131 4 → t483 131 5 = t142 131 5 → t483 131 11 = t142 131 11 → t483 131 12 = t142 131 12 → t483 131 14 = t142 131 14 → t483 131 20 = t142 131 20 → lv_has ls 3 [(0, .ref (G.2.2.2.1 131)), (1, .int v16), (2, .int i481)] → (9 - i481.toInt).toNat < n → W p l e (Rm 4 87) s m ([.ref (G.2.2.2.1 131)] : List Value).toArray below meth c H lc 0 0 (MQ below (va_Qi (po_X12_readMan_q τ    bb nb fs) (Bs G) G.2.2.2.2) ([.ref (G.2.2.2.1 131)] : List Value).toArray s 0 0 G.2.2.2.2) (F0 m 60 ls []) := by
          intro n
          induction n with
          | zero => intros; omega
          | succ n ih506 =>
            intro t483 H lc ls i481 X486 I484 F485 r482 z487 z488 z489 z490 z491 x493 x494 kp495 kp496 kp497 kp498 kp499 kp500 kp501 kp502 kp503 kp504 kp505 hl hm
            refine r_iload_n S dX12_readMan_60 rfl (lv_at hl 2 rfl) ?_
            refine r_bipush S dX12_readMan_61 (by decide) (fun v507 z508 => ?_)
            have r509 := R_eq z508
            refine r_icmp_ge (tgt := 87) S dX12_readMan_63 (by decide) (fun c510 => ?_) (fun c510 => ?_)
            ·
              have r511 : R (9) (9) i481 := ⟨by omega, by omega⟩
              have L1027 : ∀ (n : Nat) (t1013 : Tau) (H : Heap) (lc : List Loc) (ls : Array Slot) (f1018 : Int32) (f1021 : Int32) (f1024 : Int32), Xd G s H lc t1013 → Inv t1013 → Fr [(131, 15), (131, 16), (131, 4), (131, 11), (131, 12), (131, 13), (131, 14), (131, 18), (131, 21)] [134, 331, 336] τ t1013 → t1013 134 1 = v16 → t1013 131 4 = f1018 → R (0) (940) f1018 → t1013 131 11 = f1021 → R (0) (4) f1021 → t1013 131 15 = f1024 → R (0) (0) f1024 → (∃ (fc : FS) (op : Nat → Bool), RM bb nb t1013 fc ∧ fc.2 = fs.2 ∧ (qof t1013 136 (28 + (gmn fs.2).length)).toInt = e256 (wrd bb (stp bb nb fs).1) ∧ RQ t1013 v16.toInt.toNat op ∧ thn (sOps bb nb (10 - cnt op) op fc) (fun g => .inr (g.1, umn fs.2 (wrd bb (stp bb nb fs).1))) = sMan bb nb fs) → v3.toInt < f1018.toInt → lv_has ls 3 [(0, .ref (G.2.2.2.1 131)), (1, .int v16)] → (940 - f1018.toInt).toNat < n → W p l e (Rm 4 87) s m ([.ref (G.2.2.2.1 131)] : List Value).toArray below meth c H lc 0 0 (MQ below (va_Qi (po_X12_readMan_q τ    bb nb fs) (Bs G) G.2.2.2.2) ([.ref (G.2.2.2.1 131)] : List Value).toArray s 0 0 G.2.2.2.2) (F0 m 87 ls []) := by
                intro n
                induction n with
                | zero => intros; omega
                | succ n ih1030 =>
                  intro t1013 H lc ls f1018 f1021 f1024 X1016 I1014 F1015 z1017 z1020 r1019 z1023 r1022 z1026 r1025 x1028 x1029 hl hm
                  obtain ⟨fc1031, op1032, hR1033, hf1034, hq1035, hO1036, he1037⟩ := x1028
                  refine r_aload_n S dX12_readMan_87 rfl (lv_at hl 0 rfl) ?_
                  refine r_bipush S dX12_readMan_88 (by decide) (fun v1038 z1039 => ?_)
                  have r1040 := R_eq z1039
                  refine r_ki (q_V (As := [.int v1038]) (rest := []) (K := 38) (ci := 10) S X1016 (c_X12_isSign_q l G t1013 I1014 v1038 (R_of (lo := -2147483648) (hi := 2147483647) r1040 rfl) bb nb 900 fc1031.1 hR1033.1) ck12_180 (Nat.le_of_ble_eq_true rfl) rfl (fun _ => ⟨_, rfl⟩) ⟨_, _, rfl⟩ ⟨Nat.le_of_ble_eq_true rfl, Nat.le_of_ble_eq_true rfl⟩ rfl hl.1 rfl (Nat.le_of_ble_eq_true rfl) dX12_readMan_90 ⟨Nat.le_refl 0, Nat.le_refl 0⟩) X1016 (fun v1044 t1043 H lc q1041 X1042 => ?_)
                  unfold po_X12_isSign_q at q1041
                  obtain ⟨q1045, q1046, q1047⟩ := q1041
                  rw [q1045] at X1042
                  refine r_if_ne (tgt := 168) S dX12_readMan_93 (by decide) (fun c1048 => ?_) (fun c1048 => ?_)
                  ·
                    have r1049 : R (1) (1) v1044 := ⟨by omega, by omega⟩
                    have p1050 := (q1047).mp (by omega)
                    refine r_aload_n S dX12_readMan_168 rfl (lv_at hl 0 rfl) ?_
                    refine r_get (K := 38) (v := .ref (G.2.2.2.1 134)) S X1042 (Nat.le_of_ble_eq_true rfl) rfl lk12_37_10 (fun _ => ⟨_, rfl, rfl⟩) dX12_readMan_169 ?_
                    refine r_iconst S dX12_readMan_172 (by decide) (fun v1051 z1052 => ?_)
                    have r1053 := R_eq z1052
                    refine r_dup2 S dX12_readMan_173 rfl rfl ?_
                    refine r_aldi (x := v16) (n := 125) (K := 41) S X1042 (Nat.le_of_ble_eq_true rfl) rfl (fun _ => rfl) (ix_of r1053 rfl) (zc' (n := 1) (by omega) z1017) dX12_readMan_174 ?_
                    refine r_iconst S dX12_readMan_175 (by decide) (fun v1055 z1056 => ?_)
                    have r1057 := R_eq z1056
                    refine r_iadd S dX12_readMan_176 (fun v1058 z1059 => ?_)
                    obtain ⟨e1060, r1061⟩ := i_add (lo := 1) (hi := 10) z1059 r24 r1057 rfl
                    refine r_ast (n := 125) (K := 41) S X1042 (Nat.le_of_ble_eq_true rfl) rfl (fun _ _ => rfl) (ix_of r1053 rfl) dX12_readMan_177 (fun t1062 H lc M1063 X1064 => ?_)
                    have I1065 := Inv_mu I1014 M1063 (show Rg (kd 134) _ v1058 from wrs (K := 41) (a := 1) (n := 1) (R_of r1053 rfl) (R_of (lo := 0) (hi := 10) r1061 rfl) (by decide +kernel))
                    have F1066 : Fr [(131, 15), (131, 16), (131, 4), (131, 11), (131, 12), (131, 13), (131, 14), (131, 18), (131, 21)] [134, 331, 336] τ t1062 := Fr_cell F1015 M1063 (by decide)
                    have hR1067 : RM bb nb t1062 (fc1031.1, umn fs.2 (wrd bb (stp bb nb fs).1)) := ⟨MT_fr hR1033.1 ((M1063.2 131 3 (Or.inl (by decide))).trans rfl) ((M1063.2 131 4 (Or.inl (by decide))).trans rfl) ((M1063.2 131 5 (Or.inl (by decide))).trans rfl) ((M1063.2 131 11 (Or.inl (by decide))).trans rfl) ((M1063.2 131 12 (Or.inl (by decide))).trans rfl) ((M1063.2 131 14 (Or.inl (by decide))).trans rfl) (fun j => ((M1063.2 132 j (Or.inl (by decide))).trans rfl)) (fun j => ((M1063.2 331 j (Or.inl (by decide))).trans rfl)), RH_mn (hf1034 ▸ hR1033.2.1) M1063 (by have c : v1051.toNatClampNeg = v1051.toInt.toNat := rfl; omega) hq1035 (MT_low hR46.1 (hP94.2.2).1).1 (by omega), RS2_fr hR1033.2.2 (fun j => ((M1063.2 337 j (Or.inl (by decide))).trans rfl)) (fun j => ((M1063.2 336 j (Or.inl (by decide))).trans rfl))⟩
                    refine r_iconst S dX12_readMan_178 (by decide) (fun v1068 z1069 => ?_)
                    have r1070 := R_eq z1069
                    exact r_ret S hr hlk X1064 ⟨I1065, F1066, (R_of r1070 rfl), (fun h => (by rw [((M1063.2 131 15 (Or.inl (by decide))).trans z1026)]; exact R_of r1025 rfl)), (by rw [((M1063.2 131 4 (Or.inl (by decide))).trans z1020)]; exact R_of r1019 rfl), (by rw [((M1063.2 131 11 (Or.inl (by decide))).trans z1023)]; exact R_of r1022 rfl), (by have h1_0 := congrArg Int32.toInt ((M1063.2 131 4 (Or.inl (by decide))).trans z1020); have h2_0 := congrArg Int32.toInt z4; omega), (by have h1_0 := congrArg Int32.toInt ((M1063.2 131 4 (Or.inl (by decide))).trans z1020); have h2_0 := congrArg Int32.toInt z4; omega), hR1067.2.2.2, (QM_r (by rw [← he1037]; exact thn_r (sOps_e ⟨p1050.1, by have q := p1050.2; omega⟩)) (by omega) hR1067)⟩ (nr_bool (R_of (lo := 0) (hi := 1) r1070 rfl)) dX12_readMan_179
                  ·
                    have r1071 : R (0) (0) v1044 := ⟨by omega, by omega⟩
                    have p1072 := (iff_n q1047) (by omega)
                    refine r_aload_n S dX12_readMan_96 rfl (lv_at hl 0 rfl) ?_
                    refine r_bipush S dX12_readMan_97 (by decide) (fun v1073 z1074 => ?_)
                    have r1075 := R_eq z1074
                    refine r_aload_n S dX12_readMan_99 rfl (lv_at hl 0 rfl) ?_
                    refine r_get (K := 38) (v := .ref (G.2.2.2.1 134)) S X1042 (Nat.le_of_ble_eq_true rfl) rfl lk12_37_10 (fun _ => ⟨_, rfl, rfl⟩) dX12_readMan_100 ?_
                    refine r_iconst S dX12_readMan_103 (by decide) (fun v1076 z1077 => ?_)
                    have r1078 := R_eq z1077
                    refine r_aldn (n := 125) (K := 41) S X1042 (Nat.le_of_ble_eq_true rfl) rfl (fun _ => rfl) (ix_of r1078 rfl) dX12_readMan_104 (fun v1079 z1080 => ?_)
                    have r1081 : R (0) (9) v1079 := rds (K := 41) (a := 0) (n := 1) I1014 rfl z1080 (R_of r1078 rfl) (by decide +kernel)
                    refine r_ki (q_V (As := [.int v1073, .int v1079]) (rest := []) (K := 38) (ci := 10) S X1042 (c_X12_looksAt_qa l G t1013 I1014 v1073 v1079 r1075 r1081 (by rw [z1026]; exact R_of r1025 rfl) bb nb fc1031 hR1033 (by have q := hR1033.2.1.2.2.2.2.2.1.1; rw [(zc (n := 0) (by omega) z1080)] at q; exact q)) ck12_204 (Nat.le_of_ble_eq_true rfl) rfl (fun _ => ⟨_, rfl⟩) ⟨_, _, rfl⟩ ⟨Nat.le_of_ble_eq_true rfl, Nat.le_of_ble_eq_true rfl⟩ rfl hl.1 rfl (Nat.le_of_ble_eq_true rfl) dX12_readMan_105 ⟨Nat.le_refl 0, Nat.le_refl 0⟩) X1042 (fun v1085 t1084 H lc q1082 X1083 => ?_)
                    unfold po_X12_looksAt_qa at q1082
                    obtain ⟨q1086, q1087, q1088, q1089, q1090, q1091⟩ := q1082
                    have F1092 : Fr [(131, 15), (131, 16), (131, 4), (131, 11), (131, 12), (131, 13), (131, 14), (131, 18), (131, 21)] [134, 331, 336] τ t1084 := Fr_call F1015 q1087 (by decide)
                    have e1093 := congrArg Int32.toInt z1023
                    have e1094 := congrArg Int32.toInt ((q1087 131 11 (by decide)).trans z1023)
                    refine r_if_ne (tgt := 113) S dX12_readMan_108 (by decide) (fun c1095 => ?_) (fun c1095 => ?_)
                    ·
                      have r1096 : R (1) (1) v1085 := ⟨by omega, by omega⟩
                      obtain ⟨p1097, p1098⟩ := q1089 (by omega)
                      obtain ⟨v1099, z1100⟩ : ∃ x, t1084 131 18 = x := ⟨_, rfl⟩
                      rw [z1100] at p1097
                      obtain ⟨v1101, z1102⟩ : ∃ x, t1084 131 15 = x := ⟨_, rfl⟩
                      rw [z1102] at p1098
                      have p1103 := (QM_1 q1091) (by omega)
                      obtain ⟨g1104, e1105, hP1106⟩ := p1103
                      refine r_bipush S dX12_readMan_113 (by decide) (fun v1107 z1108 => ?_)
                      have r1109 := R_eq z1108
                      refine r_bipush S dX12_readMan_115 (by decide) (fun v1110 z1111 => ?_)
                      have r1112 := R_eq z1111
                      refine r_iload_n S dX12_readMan_117 rfl (lv_at hl 1 rfl) ?_
                      refine r_imul S dX12_readMan_118 (fun v1113 z1114 => ?_)
                      obtain ⟨e1115, r1116⟩ := i_mul (lo := 0) (hi := 81) z1114 r1112 r24 rfl rfl
                      have e1117 : v1113.toInt = 9 * v16.toInt := by rw [e1115, show v1110.toInt = 9 by omega]
                      refine r_iadd S dX12_readMan_119 (fun v1118 z1119 => ?_)
                      obtain ⟨e1120, r1121⟩ := i_add (lo := 15) (hi := 96) z1119 r1109 r1116 rfl
                      refine r_aload_n S dX12_readMan_120 rfl (lv_at hl 0 rfl) ?_
                      refine r_geti (K := 38) S X1083 (Nat.le_of_ble_eq_true rfl) rfl lk12_193_10 (fun _ => ⟨_, rfl, rfl⟩) z1100 dX12_readMan_121 ?_
                      refine r_iadd S dX12_readMan_124 (fun v1122 z1123 => ?_)
                      obtain ⟨e1124, r1125⟩ := i_add (lo := 15) (hi := 104) z1123 r1121 p1097 rfl
                      refine r_istore_n (lv' := [(2, .int v1122), (0, .ref (G.2.2.2.1 131)), (1, .int v16)]) S dX12_readMan_125 rfl hl (by decide) rfl (fun ls hl => ?_)
                      refine r_aload_n S dX12_readMan_126 rfl (lv_at hl 1 rfl) ?_
                      refine r_get (K := 38) (v := .ref (G.2.2.2.1 134)) S X1083 (Nat.le_of_ble_eq_true rfl) rfl lk12_37_10 (fun _ => ⟨_, rfl, rfl⟩) dX12_readMan_127 ?_
                      refine r_iload_n S dX12_readMan_130 rfl (lv_at hl 0 rfl) ?_
                      refine r_aldn (n := 125) (K := 41) S X1083 (Nat.le_of_ble_eq_true rfl) rfl (fun _ => rfl) (ix_of r1125 rfl) dX12_readMan_131 (fun v1126 z1127 => ?_)
                      have r1128 : R (-9) (9) v1126 := rds (K := 41) (a := 15) (n := 90) q1086 rfl z1127 (R_of r1125 rfl) (by decide +kernel)
                      have g1129 : Rg 41 v1122.toNatClampNeg v1126 := rd q1086 rfl z1127
                      have e1131 : v1099.toInt = g1104 := by rw [← z1100]; exact hP1106.1
                      have ho1130 : (v1126.toInt ≠ 0 ↔ op1032 g1104 = true) := by have q := hO1036 g1104 (by omega); rw [show 15 + 9 * v16.toInt.toNat + g1104 = v1122.toNatClampNeg by (have c : v1122.toNatClampNeg = v1122.toInt.toNat := rfl; omega), ← (((q1087 134 v1122.toNatClampNeg (by simp [fz])).trans rfl) : t1084 134 v1122.toNatClampNeg = t1013 134 v1122.toNatClampNeg), z1127] at q; exact q
                      refine r_if_eq (tgt := 141) S dX12_readMan_132 (by decide) (fun c1132 => ?_) (fun c1132 => ?_)
                      ·
                        have r1133 : R (0) (0) v1126 := ⟨by omega, by omega⟩
                        refine r_aload_n S dX12_readMan_141 rfl (lv_at hl 1 rfl) ?_
                        refine r_kv (q_V (As := []) (rest := []) (K := 38) (ci := 10) S X1083 (c_X12_skip_q l G t1084 q1086 bb nb 900 fc1031.1.2.2 (MT_st hP1106.2.1 (Or.inl (sLook_n e1105).1)).1 (MT_st hP1106.2.1 (Or.inl (sLook_n e1105).1)).2.1 (MT_st hP1106.2.1 (Or.inl (sLook_n e1105).1)).2.2) ck12_186 (Nat.le_of_ble_eq_true rfl) rfl (fun _ => ⟨_, rfl⟩) ⟨_, _, rfl⟩ ⟨Nat.le_of_ble_eq_true rfl, Nat.le_of_ble_eq_true rfl⟩ rfl hl.1 rfl (Nat.le_of_ble_eq_true rfl) dX12_readMan_142 ⟨Nat.le_refl 0, Nat.le_refl 0⟩) X1083 (fun t1136 H lc q1134 X1135 => ?_)
                        unfold po_X12_skip_q at q1134
                        obtain ⟨q1137, q1138, q1139, q1140, q1141, q1142, q1143⟩ := q1134
                        have F1144 : Fr [(131, 15), (131, 16), (131, 4), (131, 11), (131, 12), (131, 13), (131, 14), (131, 18), (131, 21)] [134, 331, 336] τ t1136 := Fr_call F1092 q1138 (by decide)
                        obtain ⟨v1145, z1146⟩ : ∃ x, t1136 131 4 = x := ⟨_, rfl⟩
                        rw [z1146] at q1139
                        obtain ⟨v1147, z1148⟩ : ∃ x, t1136 131 11 = x := ⟨_, rfl⟩
                        rw [z1148] at q1140
                        have e1149 := congrArg Int32.toInt ((q1087 131 4 (by decide)).trans z1020)
                        have e1150 := congrArg Int32.toInt z1146
                        have e1151 := congrArg Int32.toInt ((q1087 131 4 (by decide)).trans z1020)
                        have e1152 := congrArg Int32.toInt z1146
                        have e1153 := congrArg Int32.toInt ((q1087 131 11 (by decide)).trans z1023)
                        have e1154 := congrArg Int32.toInt z1148
                        have hR1155 : RM bb nb t1136 (stp bb nb fc1031) := ⟨q1143, RH_fr hP1106.2.2.1 ((q1138 131 20 (by decide)).trans rfl) (fun j _ => ((q1138 134 j (by simp [fz])).trans rfl)) (fun j => ((q1138 336 j (by simp [fz])).trans rfl)), RS2_fr hP1106.2.2.2 (fun j => ((q1138 337 j (by simp [fz])).trans rfl)) (fun j => ((q1138 336 j (by simp [fz])).trans rfl))⟩
                        refine r_aload_n S dX12_readMan_145 rfl (lv_at hl 1 rfl) ?_
                        refine r_iconst S dX12_readMan_146 (by decide) (fun v1156 z1157 => ?_)
                        have r1158 := R_eq z1157
                        refine r_ki (q_V (As := [.int v1156]) (rest := []) (K := 38) (ci := 10) S X1135 (c_X12_takesMind_q l G t1136 q1137 v1156 r1158 (by rw [((q1138 131 15 (by decide)).trans z1102)]; exact R_of p1098 rfl) bb nb (stp bb nb fc1031) hR1155 ) ck12_234 (Nat.le_of_ble_eq_true rfl) rfl (fun _ => ⟨_, rfl⟩) ⟨_, _, rfl⟩ ⟨Nat.le_of_ble_eq_true rfl, Nat.le_of_ble_eq_true rfl⟩ rfl hl.1 rfl (Nat.le_of_ble_eq_true rfl) dX12_readMan_147 ⟨Nat.le_refl 0, Nat.le_refl 0⟩) X1135 (fun v1162 t1161 H lc q1159 X1160 => ?_)
                        unfold po_X12_takesMind_q at q1159
                        obtain ⟨q1163, q1164, q1165, q1166, q1167, q1168, q1169, q1170, q1171⟩ := q1159
                        have F1172 : Fr [(131, 15), (131, 16), (131, 4), (131, 11), (131, 12), (131, 13), (131, 14), (131, 18), (131, 21)] [134, 331, 336] τ t1161 := Fr_call F1144 q1164 (by decide)
                        obtain ⟨v1173, z1174⟩ : ∃ x, t1161 131 4 = x := ⟨_, rfl⟩
                        rw [z1174] at q1167
                        obtain ⟨v1175, z1176⟩ : ∃ x, t1161 131 11 = x := ⟨_, rfl⟩
                        rw [z1176] at q1168
                        have e1177 := congrArg Int32.toInt z1146
                        have e1178 := congrArg Int32.toInt z1174
                        have e1179 := congrArg Int32.toInt z1146
                        have e1180 := congrArg Int32.toInt z1174
                        refine r_if_ne (tgt := 155) S dX12_readMan_150 (by decide) (fun c1181 => ?_) (fun c1181 => ?_)
                        ·
                          have r1182 : R (1) (1) v1162 := ⟨by omega, by omega⟩
                          have p1183 := q1166 (by omega)
                          obtain ⟨v1184, z1185⟩ : ∃ x, t1161 131 15 = x := ⟨_, rfl⟩
                          rw [z1185] at p1183
                          have p1186 := (QM_1 q1171) (by omega)
                          obtain ⟨g1187, e1188, hP1189⟩ := p1186
                          refine r_aload_n S dX12_readMan_155 rfl (lv_at hl 1 rfl) ?_
                          refine r_get (K := 38) (v := .ref (G.2.2.2.1 134)) S X1160 (Nat.le_of_ble_eq_true rfl) rfl lk12_37_10 (fun _ => ⟨_, rfl, rfl⟩) dX12_readMan_156 ?_
                          refine r_iload_n S dX12_readMan_159 rfl (lv_at hl 0 rfl) ?_
                          refine r_aload_n S dX12_readMan_160 rfl (lv_at hl 1 rfl) ?_
                          refine r_getn (K := 38) S X1160 (Nat.le_of_ble_eq_true rfl) rfl lk12_215_10 (fun _ => ⟨_, rfl, rfl⟩) dX12_readMan_161 (fun v1190 z1191 => ?_)
                          have r1192 : R (-9) (9) v1190 := rd q1163 rfl z1191
                          refine r_ast (n := 125) (K := 41) S X1160 (Nat.le_of_ble_eq_true rfl) rfl (fun _ _ => rfl) (ix_of r1125 rfl) dX12_readMan_164 (fun t1193 H lc M1194 X1195 => ?_)
                          have I1196 := Inv_mu q1163 M1194 (show Rg (kd 134) _ v1190 from wrs (K := 41) (a := 15) (n := 90) (R_of r1125 rfl) (R_of (lo := -9) (hi := 9) r1192 rfl) (by decide +kernel))
                          have F1197 : Fr [(131, 15), (131, 16), (131, 4), (131, 11), (131, 12), (131, 13), (131, 14), (131, 18), (131, 21)] [134, 331, 336] τ t1193 := Fr_cell F1172 M1194 (by decide)
                          refine r_goto (tgt := 87) S dX12_readMan_165 (by decide) ?_
                          exact ih1030 t1193 _ _ _ v1173 v1175 v1184 X1195 I1196 F1197 ((M1194.2 134 1 (Or.inr (ixne r1125 rfl))).trans ((q1164 134 1 (by decide)).trans ((q1138 134 1 (by decide)).trans ((q1087 134 1 (by decide)).trans z1017)))) ((M1194.2 131 4 (Or.inl (by decide))).trans z1174) ⟨by omega, by omega⟩ ((M1194.2 131 11 (Or.inl (by decide))).trans z1176) ⟨by omega, by omega⟩ ((M1194.2 131 15 (Or.inl (by decide))).trans z1185) ⟨by omega, by omega⟩ ⟨g1187.2, (fun j => op1032 j || j == g1104), ⟨MT_fr hP1189.2.1 ((M1194.2 131 3 (Or.inl (by decide))).trans rfl) ((M1194.2 131 4 (Or.inl (by decide))).trans rfl) ((M1194.2 131 5 (Or.inl (by decide))).trans rfl) ((M1194.2 131 11 (Or.inl (by decide))).trans rfl) ((M1194.2 131 12 (Or.inl (by decide))).trans rfl) ((M1194.2 131 14 (Or.inl (by decide))).trans rfl) (fun j => ((M1194.2 132 j (Or.inl (by decide))).trans rfl)) (fun j => ((M1194.2 331 j (Or.inl (by decide))).trans rfl)), RH_mu hP1189.2.2.1 M1194 (by have c : v1122.toNatClampNeg = v1122.toInt.toNat := rfl; omega), RS2_fr hP1189.2.2.2 (fun j => ((M1194.2 337 j (Or.inl (by decide))).trans rfl)) (fun j => ((M1194.2 336 j (Or.inl (by decide))).trans rfl))⟩, (by rw [sMd_s e1188]; exact hf1034), (by rw [qof_of (k := 136) (fun j => ((M1194.2 336 j (Or.inl (by decide))).trans ((q1164 336 j (by simp [fz])).trans ((q1138 336 j (by simp [fz])).trans ((q1087 336 j (by simp [fz])).trans rfl))))) _]; exact hq1035), RQ_put (RQ_eq hO1036 (fun j => ((q1164 134 j (by simp [fz])).trans ((q1138 134 j (by simp [fz])).trans ((q1087 134 j (by simp [fz])).trans rfl))))) M1194 (by have c : v1122.toNatClampNeg = v1122.toInt.toNat := rfl; omega) (by omega) (by rw [← z1191]; exact hP1189.1), (by rw [← he1037, show 10 - cnt op1032 = (10 - cnt (fun j => op1032 j || j == g1104)) + 1 by (have q := cnt_up (op := op1032) (i := g1104) (by omega) (fun h => absurd (ho1130.mpr h) (by omega)); have q2 := cnt_le (fun j => op1032 j || j == g1104); omega)]; exact congrArg (fun z => thn z _) (sOps_r (fun h => p1072 ⟨h.1, by have q := h.2; omega⟩) ((sOp_md e1105 (fun h => absurd (ho1130.mpr h) (by omega))).trans (thn_r e1188))).symm)⟩ (by omega) (lv_sub hl [1, 2] rfl) (by omega)
                        ·
                          have r1198 : R (0) (0) v1162 := ⟨by omega, by omega⟩
                          have p1199 := (QM_0 q1171) (by omega)
                          obtain ⟨q1200, e1201, h1202, h1203⟩ := p1199
                          refine r_iconst S dX12_readMan_153 (by decide) (fun v1204 z1205 => ?_)
                          have r1206 := R_eq z1205
                          exact r_ret S hr hlk X1160 ⟨q1163, F1172, (R_of r1206 rfl), (fun h => by exfalso; omega), (by rw [z1174]; exact R_of q1167 rfl), (by rw [z1176]; exact R_of q1168 rfl), (by have h1_0 := congrArg Int32.toInt z1174; have h2_0 := congrArg Int32.toInt z4; omega), (by have h1_0 := congrArg Int32.toInt z1174; have h2_0 := congrArg Int32.toInt z4; omega), (NB_fr hR1155.2.2.2 (fun j => ((q1164 336 j (by simp [fz])).trans rfl))), (QM_l (by rw [← he1037, show 10 - cnt op1032 = (9 - cnt op1032) + 1 by (have q := cnt_le op1032; omega)]; exact thn_l (sOps_l (fun h => p1072 ⟨h.1, by have q := h.2; omega⟩) ((sOp_md e1105 (fun h => absurd (ho1130.mpr h) (by omega))).trans (thn_l e1201)))) (by omega) h1202 h1203)⟩ (nr_bool (R_of (lo := 0) (hi := 1) r1206 rfl)) dX12_readMan_154
                      ·
                        refine r_aload_n S dX12_readMan_135 rfl (lv_at hl 1 rfl) ?_
                        refine r_iconst S dX12_readMan_136 (by decide) (fun v1207 z1208 => ?_)
                        have r1209 := R_eq z1208
                        refine r_ki (q_V (As := [.int v1207]) (rest := []) (K := 38) (ci := 10) S X1083 (c_X12_bad_q l G t1084 q1086 v1207 (R_of (lo := -2147483648) (hi := 2147483647) r1209 rfl)) ck12_183 (Nat.le_of_ble_eq_true rfl) rfl (fun _ => ⟨_, rfl⟩) ⟨_, _, rfl⟩ ⟨Nat.le_of_ble_eq_true rfl, Nat.le_of_ble_eq_true rfl⟩ rfl hl.1 rfl (Nat.le_of_ble_eq_true rfl) dX12_readMan_137 ⟨Nat.le_refl 0, Nat.le_refl 0⟩) X1083 (fun v1213 t1212 H lc q1210 X1211 => ?_)
                        unfold po_X12_bad_q at q1210
                        obtain ⟨q1214, q1215, q1216, q1217⟩ := q1210
                        have F1218 : Fr [(131, 15), (131, 16), (131, 4), (131, 11), (131, 12), (131, 13), (131, 14), (131, 18), (131, 21)] [134, 331, 336] τ t1212 := Fr_call F1092 q1215 (by decide)
                        exact r_ret S hr hlk X1211 ⟨q1214, F1218, (R_of q1216 rfl), (fun h => by exfalso; omega), (by rw [((q1215 131 4 (by decide)).trans ((q1087 131 4 (by decide)).trans z1020))]; exact R_of r1019 rfl), (by rw [((q1215 131 11 (by decide)).trans ((q1087 131 11 (by decide)).trans z1023))]; exact R_of r1022 rfl), (by have h1_0 := congrArg Int32.toInt ((q1215 131 4 (by decide)).trans ((q1087 131 4 (by decide)).trans z1020)); have h2_0 := congrArg Int32.toInt z4; omega), (by have h1_0 := congrArg Int32.toInt ((q1215 131 4 (by decide)).trans ((q1087 131 4 (by decide)).trans z1020)); have h2_0 := congrArg Int32.toInt z4; omega), (NB_fr hP1106.2.2.2.2 (fun j => ((q1215 336 j (by simp [fz])).trans rfl))), (QM_b (by rw [← he1037, show 10 - cnt op1032 = (9 - cnt op1032) + 1 by (have q := cnt_le op1032; omega)]; exact thn_l (sOps_l (fun h => p1072 ⟨h.1, by have q := h.2; omega⟩) (sOp_b e1105 (ho1130.mp (by omega))))) (by omega) (by rw [q1217.1]; omega) (by rw [q1217.2]; exact RM_at hP1106.2))⟩ (nr_bool (R_of (lo := 0) (hi := 1) q1216 rfl)) dX12_readMan_140
                    ·
                      have r1219 : R (0) (0) v1085 := ⟨by omega, by omega⟩
                      have p1220 := (QM_0 q1091) (by omega)
                      obtain ⟨q1221, e1222, h1223, h1224⟩ := p1220
                      refine r_iconst S dX12_readMan_111 (by decide) (fun v1225 z1226 => ?_)
                      have r1227 := R_eq z1226
                      exact r_ret S hr hlk X1083 ⟨q1086, F1092, (R_of r1227 rfl), (fun h => by exfalso; omega), (by rw [((q1087 131 4 (by decide)).trans z1020)]; exact R_of r1019 rfl), (by rw [((q1087 131 11 (by decide)).trans z1023)]; exact R_of r1022 rfl), (by have h1_0 := congrArg Int32.toInt ((q1087 131 4 (by decide)).trans z1020); have h2_0 := congrArg Int32.toInt z4; omega), (by have h1_0 := congrArg Int32.toInt ((q1087 131 4 (by decide)).trans z1020); have h2_0 := congrArg Int32.toInt z4; omega), (NB_fr hR1033.2.2.2 (fun j => ((q1087 336 j (by simp [fz])).trans rfl))), (QM_l (by rw [← he1037, show 10 - cnt op1032 = (9 - cnt op1032) + 1 by (have q := cnt_le op1032; omega)]; exact thn_l (sOps_l (fun h => p1072 ⟨h.1, by have q := h.2; omega⟩) (sOp_l1 e1222))) (by omega) h1223 h1224)⟩ (nr_bool (R_of (lo := 0) (hi := 1) r1227 rfl)) dX12_readMan_112
              exact L1027 _ t483 _ _ _ v115 v117 v129 X486 I484 F485 z487 z488 ⟨by omega, by omega⟩ z489 ⟨by omega, by omega⟩ z491 ⟨by omega, by omega⟩ ⟨g132.2, (fun _ => false), ⟨MT_fr hR147.1 ((kp499).trans rfl) ((kp500).trans rfl) ((kp501).trans rfl) ((kp502).trans rfl) ((kp503).trans rfl) ((kp504).trans rfl) (fun j => ((kp495 j).trans rfl)) (fun j => ((kp496 j).trans rfl)), RH_fr hR147.2.1 ((kp505).trans rfl) x494 (fun j => ((kp497 j).trans rfl)), RS2_fr hR147.2.2 (fun j => ((kp498 j).trans rfl)) (fun j => ((kp497 j).trans rfl))⟩, (by rw [sNum_s e133]; rfl), (by rw [show qof t483 136 (28 + (gmn fs.2).length) = qof t56 136 v50.toInt.toNat from by rw [show v50.toInt.toNat = 28 + (gmn fs.2).length by omega]; exact (qof_of (k := 136) (fun j => ((kp497 j).trans ((M143.2 336 j (Or.inl (by decide))).trans ((q106 336 j (by simp [fz])).trans rfl)))) _)]; exact hP94.2.1), RQ_0 (fun a ha => x493 a (by omega)), (by rw [sMan_m (by omega) e93, thn_r e133]; rfl)⟩ (by omega) (lv_sub hl [0, 1] rfl) (Nat.lt_succ_self _)
            ·
              have r1228 : R (0) (8) i481 := ⟨by omega, by omega⟩
              refine r_aload_n S dX12_readMan_66 rfl (lv_at hl 0 rfl) ?_
              refine r_get (K := 38) (v := .ref (G.2.2.2.1 134)) S X486 (Nat.le_of_ble_eq_true rfl) rfl lk12_37_10 (fun _ => ⟨_, rfl, rfl⟩) dX12_readMan_67 ?_
              refine r_bipush S dX12_readMan_70 (by decide) (fun v1229 z1230 => ?_)
              have r1231 := R_eq z1230
              refine r_bipush S dX12_readMan_72 (by decide) (fun v1232 z1233 => ?_)
              have r1234 := R_eq z1233
              refine r_iload_n S dX12_readMan_74 rfl (lv_at hl 1 rfl) ?_
              refine r_imul S dX12_readMan_75 (fun v1235 z1236 => ?_)
              obtain ⟨e1237, r1238⟩ := i_mul (lo := 0) (hi := 81) z1236 r1234 r24 rfl rfl
              have e1239 : v1235.toInt = 9 * v16.toInt := by rw [e1237, show v1232.toInt = 9 by omega]
              refine r_iadd S dX12_readMan_76 (fun v1240 z1241 => ?_)
              obtain ⟨e1242, r1243⟩ := i_add (lo := 15) (hi := 96) z1241 r1231 r1238 rfl
              refine r_iload_n S dX12_readMan_77 rfl (lv_at hl 2 rfl) ?_
              refine r_iadd S dX12_readMan_78 (fun v1244 z1245 => ?_)
              obtain ⟨e1246, r1247⟩ := i_add (lo := 15) (hi := 104) z1245 r1243 r1228 rfl
              refine r_iconst S dX12_readMan_79 (by decide) (fun v1248 z1249 => ?_)
              have r1250 := R_eq z1249
              refine r_ast (n := 125) (K := 41) S X486 (Nat.le_of_ble_eq_true rfl) rfl (fun _ _ => rfl) (ix_of r1247 rfl) dX12_readMan_80 (fun t1251 H lc M1252 X1253 => ?_)
              have I1254 := Inv_mu I484 M1252 (show Rg (kd 134) _ v1248 from wrs (K := 41) (a := 15) (n := 90) (R_of r1247 rfl) (R_of (lo := -9) (hi := 9) r1250 rfl) (by decide +kernel))
              have F1255 : Fr [(131, 15), (131, 16), (131, 4), (131, 11), (131, 12), (131, 13), (131, 14), (131, 18), (131, 21)] [134, 331, 336] τ t1251 := Fr_cell F485 M1252 (by decide)
              refine r_iinc (k := 2) S dX12_readMan_81 hl rfl (by decide) (by decide) (fun v1256 d1257 ls z1258 z1259 hl => ?_)
              obtain ⟨e1260, r1261⟩ := i_add (lo := 1) (hi := 9) z1258 r1228 (R_eq z1259) rfl
              have hl : lv_has ls 3 [(2, .int v1256), (0, .ref (G.2.2.2.1 131)), (1, .int v16)] := hl
              refine r_goto (tgt := 60) S dX12_readMan_84 (by decide) ?_
              exact ih506 t1251 _ _ _ v1256 X1253 I1254 F1255 (R_of r1261 rfl) ((M1252.2 134 1 (Or.inr (ixne r1247 rfl))).trans z487) ((M1252.2 131 4 (Or.inl (by decide))).trans z488) ((M1252.2 131 11 (Or.inl (by decide))).trans z489) ((M1252.2 131 18 (Or.inl (by decide))).trans z490) ((M1252.2 131 15 (Or.inl (by decide))).trans z491) (fun j hj => by by_cases e : 15 + 9 * v16.toInt.toNat + j = v1244.toNatClampNeg; (rw [e, M1252.1]; omega); (rw [M1252.2 134 _ (Or.inr e)]; exact x493 j (by have c : v1244.toNatClampNeg = v1244.toInt.toNat := rfl; omega))) (fun j hj => (M1252.2 134 j (Or.inr (by have c : v1244.toNatClampNeg = v1244.toInt.toNat := rfl; omega))).trans (x494 j hj)) (fun j => ((M1252.2 132 j (Or.inl (by decide))).trans ((kp495 j).trans rfl))) (fun j => ((M1252.2 331 j (Or.inl (by decide))).trans ((kp496 j).trans rfl))) (fun j => ((M1252.2 336 j (Or.inl (by decide))).trans ((kp497 j).trans rfl))) (fun j => ((M1252.2 337 j (Or.inl (by decide))).trans ((kp498 j).trans rfl))) ((M1252.2 131 3 (Or.inl (by decide))).trans ((kp499).trans rfl)) ((M1252.2 131 4 (Or.inl (by decide))).trans ((kp500).trans rfl)) ((M1252.2 131 5 (Or.inl (by decide))).trans ((kp501).trans rfl)) ((M1252.2 131 11 (Or.inl (by decide))).trans ((kp502).trans rfl)) ((M1252.2 131 12 (Or.inl (by decide))).trans ((kp503).trans rfl)) ((M1252.2 131 14 (Or.inl (by decide))).trans ((kp504).trans rfl)) ((M1252.2 131 20 (Or.inl (by decide))).trans ((kp505).trans rfl)) (lv_sub hl [1, 2, 0] rfl) (by omega)
        exact L492 _ t142 _ _ _ v148 X144 I145 F146 (R_of r150 rfl) ((M143.2 134 1 (Or.inr (ixne r141 rfl))).trans ((q106 134 1 (by decide)).trans ((q59 134 1 (by decide)).trans ((q29 134 1 (by decide)).trans (zc (n := 1) (by omega) z17))))) ((M143.2 131 4 (Or.inl (by decide))).trans z116) ((M143.2 131 11 (Or.inl (by decide))).trans z118) ((M143.2 131 18 (Or.inl (by decide))).trans z128) ((M143.2 131 15 (Or.inl (by decide))).trans z130) (fun j hj => by exfalso; omega) (fun j _ => rfl) (fun j => rfl) (fun j => rfl) (fun j => rfl) (fun j => rfl) rfl rfl rfl rfl rfl rfl rfl (lv_sub hl [2, 1, 0] rfl) (Nat.lt_succ_self _)
      ·
        have r1262 : R (0) (0) v104 := ⟨by omega, by omega⟩
        have p1263 := (QM_0 q113) (by omega)
        obtain ⟨q1264, e1265, h1266, h1267⟩ := p1263
        refine r_iconst S dX12_readMan_44 (by decide) (fun v1268 z1269 => ?_)
        have r1270 := R_eq z1269
        exact r_ret S hr hlk X102 ⟨q105, F114, (R_of r1270 rfl), (fun h => by exfalso; omega), (by rw [z116]; exact R_of q109 rfl), (by rw [z118]; exact R_of q110 rfl), (by have h1_0 := congrArg Int32.toInt z116; have h2_0 := congrArg Int32.toInt z4; omega), (by have h1_0 := congrArg Int32.toInt z116; have h2_0 := congrArg Int32.toInt z4; omega), (NB_fr hP94.1.2.2.2 (fun j => ((q106 336 j (by simp [fz])).trans rfl))), (QM_l ((sMan_m (by omega) e93).trans (thn_l e1265)) (by omega) h1266 h1267)⟩ (nr_bool (R_of (lo := 0) (hi := 1) r1270 rfl)) dX12_readMan_45
  ·
    have r1271 : R (10) (10) v16 := ⟨by omega, by omega⟩
    refine r_aload_n S dX12_readMan_13 rfl (lv_at hl 1 rfl) ?_
    refine r_iconst S dX12_readMan_14 (by decide) (fun v1272 z1273 => ?_)
    have r1274 := R_eq z1273
    refine r_ki (q_V (As := [.int v1272]) (rest := []) (K := 38) (ci := 10) S X (c_X12_bad_q l G τ hI v1272 (R_of (lo := -2147483648) (hi := 2147483647) r1274 rfl)) ck12_183 (Nat.le_of_ble_eq_true rfl) rfl (fun _ => ⟨_, rfl⟩) ⟨_, _, rfl⟩ ⟨Nat.le_of_ble_eq_true rfl, Nat.le_of_ble_eq_true rfl⟩ rfl hl.1 rfl (Nat.le_of_ble_eq_true rfl) dX12_readMan_15 ⟨Nat.le_refl 0, Nat.le_refl 0⟩) X (fun v1278 t1277 H lc q1275 X1276 => ?_)
    unfold po_X12_bad_q at q1275
    obtain ⟨q1279, q1280, q1281, q1282⟩ := q1275
    have F1283 : Fr [(131, 15), (131, 16), (131, 4), (131, 11), (131, 12), (131, 13), (131, 14), (131, 18), (131, 21)] [134, 331, 336] τ t1277 := Fr_call Fr_rfl q1280 (by decide)
    exact r_ret S hr hlk X1276 ⟨q1279, F1283, (R_of q1281 rfl), (fun h => by exfalso; omega), (by rw [((q1280 131 4 (by decide)).trans z4)]; exact R_of r5 rfl), (by rw [((q1280 131 11 (by decide)).trans z7)]; exact R_of r8 rfl), (by have h1_0 := congrArg Int32.toInt ((q1280 131 4 (by decide)).trans z4); have h2_0 := congrArg Int32.toInt z4; omega), (by have h1_0 := congrArg Int32.toInt ((q1280 131 4 (by decide)).trans z4); have h2_0 := congrArg Int32.toInt z4; omega), (NB_fr hR.2.2.2 (fun j => ((q1280 336 j (by simp [fz])).trans rfl))), (QM_b (sMan_b (by omega)) (by omega) (by rw [q1282.1]; omega) (by rw [q1282.2]; exact RM_at hR))⟩ (nr_bool (R_of (lo := 0) (hi := 1) q1281 rfl)) dX12_readMan_18
def po_X12_line_q (τ : Tau)    (bb : Nat → Int) (nb : Nat) (fs : FS) (r : Int32) (u : Tau) : Prop := Inv u ∧ Fr [(131, 15), (131, 16), (131, 4), (131, 11), (131, 12), (131, 13), (131, 14), (131, 18), (131, 20), (131, 21)] [134, 331, 336] τ u ∧ R (0) (1) r ∧ (r.toInt = 1 → R (0) (0) (u 131 15)) ∧ R (0) (940) (u 131 4) ∧ R (0) (4) (u 131 11) ∧ (τ 131 4).toInt ≤ (u 131 4).toInt ∧ (r.toInt = 1 → (τ 131 4).toInt < (u 131 4).toInt) ∧ NB bb u ∧ QM (sLine bb nb fs) r u (fun g => RM bb nb u g)
set_option maxHeartbeats 4000000 in
set_option maxRecDepth 100000 in
theorem c_X12_line_q (l : Launch) (G : Gx) (τ : Tau) (hI : Inv τ) (hf_0 : R (0) (0) (τ 131 15)) (bb : Nat → Int) (nb : Nat) (fs : FS) (hR : RM bb nb τ fs) : Ci l G yX12_line cX12_line 3 (some .boolean) 5 109 [.ref (G.2.2.2.1 131)] τ (po_X12_line_q τ    bb nb fs) := by
  unfold Ci
  refine C_of (own := RX12) (by decide) rfl (Nat.le_of_ble_eq_true rfl) ?_
  intro p e s m below meth c ls S hr hlk X hl
  have hl : lv_has ls 3 [(0, .ref (G.2.2.2.1 131))] := hl
  obtain ⟨v1, z2⟩ : ∃ x, τ 131 15 = x := ⟨_, rfl⟩
  rw [z2] at hf_0
  obtain ⟨v3, z4⟩ : ∃ x, τ 131 4 = x := ⟨_, rfl⟩
  have r5 : R (0) (940) v3 := rd hI rfl z4
  obtain ⟨v6, z7⟩ : ∃ x, τ 131 11 = x := ⟨_, rfl⟩
  have r8 : R (0) (4) v6 := rd hI rfl z7
  have e9 : (τ 134 0).toInt = (((gan fs.2).length : Nat) : Int) := hR.2.1.2.2.2.2.2.1.1
  have e10 : (τ 134 1).toInt = (((gmn fs.2).length : Nat) : Int) := hR.2.1.2.2.2.2.2.2.1.1
  have ra11 : R 0 9 (τ 134 0) := rd (K := 41) hI rfl rfl
  have ra12 : R 0 10 (τ 134 1) := rd (K := 41) hI rfl rfl
  refine r_aload_n S dX12_line_0 rfl (lv_at hl 0 rfl) ?_
  refine lv_ldc2 S.1.1 S.1.2.1 S.1.2.2.2.1 (S.1.2.2.2.2 _ kw29) dX12_line_1 ?_
  refine lv_topl (fun j13 z14 => ?_)
  refine r_ki (q_V (As := [.long j13]) (rest := []) (K := 38) (ci := 10) S X (c_X12_isWord_q l G τ hI j13 bb nb 900 fs.1 (kwl.getD 0 []) hR.1 (by rw [z14]; decide +kernel) (kwl_at (by decide))) ck12_208 (Nat.le_of_ble_eq_true rfl) rfl (fun _ => ⟨_, rfl⟩) ⟨_, _, rfl⟩ ⟨Nat.le_of_ble_eq_true rfl, Nat.le_of_ble_eq_true rfl⟩ rfl hl.1 rfl (Nat.le_of_ble_eq_true rfl) dX12_line_4 ⟨Nat.le_refl 0, Nat.le_refl 0⟩) X (fun v18 t17 H lc q15 X16 => ?_)
  unfold po_X12_isWord_q at q15
  obtain ⟨q19, q20, q21⟩ := q15
  rw [q19] at X16
  refine r_if_eq (tgt := 20) S dX12_line_7 (by decide) (fun c22 => ?_) (fun c22 => ?_)
  ·
    have r23 : R (0) (0) v18 := ⟨by omega, by omega⟩
    have p24 := (iff_n q21) (by omega)
    refine r_aload_n S dX12_line_20 rfl (lv_at hl 0 rfl) ?_
    refine lv_ldc2 S.1.1 S.1.2.1 S.1.2.2.2.1 (S.1.2.2.2.2 _ kw30) dX12_line_21 ?_
    refine lv_topl (fun j25 z26 => ?_)
    refine r_ki (q_V (As := [.long j25]) (rest := []) (K := 38) (ci := 10) S X16 (c_X12_isWord_q l G τ hI j25 bb nb 900 fs.1 (kwl.getD 1 []) hR.1 (by rw [z26]; decide +kernel) (kwl_at (by decide))) ck12_208 (Nat.le_of_ble_eq_true rfl) rfl (fun _ => ⟨_, rfl⟩) ⟨_, _, rfl⟩ ⟨Nat.le_of_ble_eq_true rfl, Nat.le_of_ble_eq_true rfl⟩ rfl hl.1 rfl (Nat.le_of_ble_eq_true rfl) dX12_line_24 ⟨Nat.le_refl 0, Nat.le_refl 0⟩) X16 (fun v30 t29 H lc q27 X28 => ?_)
    unfold po_X12_isWord_q at q27
    obtain ⟨q31, q32, q33⟩ := q27
    rw [q31] at X28
    refine r_if_eq (tgt := 40) S dX12_line_27 (by decide) (fun c34 => ?_) (fun c34 => ?_)
    ·
      have r35 : R (0) (0) v30 := ⟨by omega, by omega⟩
      have p36 := (iff_n q33) (by omega)
      refine r_aload_n S dX12_line_40 rfl (lv_at hl 0 rfl) ?_
      refine lv_ldc2 S.1.1 S.1.2.1 S.1.2.2.2.1 (S.1.2.2.2.2 _ kw31) dX12_line_41 ?_
      refine lv_topl (fun j37 z38 => ?_)
      refine r_ki (q_V (As := [.long j37]) (rest := []) (K := 38) (ci := 10) S X28 (c_X12_isWord_q l G τ hI j37 bb nb 900 fs.1 (kwl.getD 2 []) hR.1 (by rw [z38]; decide +kernel) (kwl_at (by decide))) ck12_208 (Nat.le_of_ble_eq_true rfl) rfl (fun _ => ⟨_, rfl⟩) ⟨_, _, rfl⟩ ⟨Nat.le_of_ble_eq_true rfl, Nat.le_of_ble_eq_true rfl⟩ rfl hl.1 rfl (Nat.le_of_ble_eq_true rfl) dX12_line_44 ⟨Nat.le_refl 0, Nat.le_refl 0⟩) X28 (fun v42 t41 H lc q39 X40 => ?_)
      unfold po_X12_isWord_q at q39
      obtain ⟨q43, q44, q45⟩ := q39
      rw [q43] at X40
      refine r_if_eq (tgt := 101) S dX12_line_47 (by decide) (fun c46 => ?_) (fun c46 => ?_)
      ·
        have r47 : R (0) (0) v42 := ⟨by omega, by omega⟩
        have p48 := (iff_n q45) (by omega)
        refine r_aload_n S dX12_line_101 rfl (lv_at hl 0 rfl) ?_
        refine lv_ldc2 S.1.1 S.1.2.1 S.1.2.2.2.1 (S.1.2.2.2.2 _ kw32) dX12_line_102 ?_
        refine lv_topl (fun j49 z50 => ?_)
        refine r_ki (q_V (As := [.long j49]) (rest := []) (K := 38) (ci := 10) S X40 (c_X12_isWord_q l G τ hI j49 bb nb 900 fs.1 (kwl.getD 3 []) hR.1 (by rw [z50]; decide +kernel) (kwl_at (by decide))) ck12_208 (Nat.le_of_ble_eq_true rfl) rfl (fun _ => ⟨_, rfl⟩) ⟨_, _, rfl⟩ ⟨Nat.le_of_ble_eq_true rfl, Nat.le_of_ble_eq_true rfl⟩ rfl hl.1 rfl (Nat.le_of_ble_eq_true rfl) dX12_line_105 ⟨Nat.le_refl 0, Nat.le_refl 0⟩) X40 (fun v54 t53 H lc q51 X52 => ?_)
        unfold po_X12_isWord_q at q51
        obtain ⟨q55, q56, q57⟩ := q51
        rw [q55] at X52
        refine r_if_eq (tgt := 116) S dX12_line_108 (by decide) (fun c58 => ?_) (fun c58 => ?_)
        ·
          have r59 : R (0) (0) v54 := ⟨by omega, by omega⟩
          have p60 := (iff_n q57) (by omega)
          refine r_aload_n S dX12_line_116 rfl (lv_at hl 0 rfl) ?_
          refine lv_ldc2 S.1.1 S.1.2.1 S.1.2.2.2.1 (S.1.2.2.2.2 _ kw33) dX12_line_117 ?_
          refine lv_topl (fun j61 z62 => ?_)
          refine r_ki (q_V (As := [.long j61]) (rest := []) (K := 38) (ci := 10) S X52 (c_X12_isWord_q l G τ hI j61 bb nb 900 fs.1 (kwl.getD 6 []) hR.1 (by rw [z62]; decide +kernel) (kwl_at (by decide))) ck12_208 (Nat.le_of_ble_eq_true rfl) rfl (fun _ => ⟨_, rfl⟩) ⟨_, _, rfl⟩ ⟨Nat.le_of_ble_eq_true rfl, Nat.le_of_ble_eq_true rfl⟩ rfl hl.1 rfl (Nat.le_of_ble_eq_true rfl) dX12_line_120 ⟨Nat.le_refl 0, Nat.le_refl 0⟩) X52 (fun v66 t65 H lc q63 X64 => ?_)
          unfold po_X12_isWord_q at q63
          obtain ⟨q67, q68, q69⟩ := q63
          rw [q67] at X64
          refine r_istore_n (lv' := [(1, .int v66), (0, .ref (G.2.2.2.1 131))]) S dX12_line_123 rfl hl (by decide) rfl (fun ls hl => ?_)
          refine r_iload_n S dX12_line_124 rfl (lv_at hl 0 rfl) ?_
          refine r_if_ne (tgt := 144) S dX12_line_125 (by decide) (fun c70 => ?_) (fun c70 => ?_)
          ·
            have r71 : R (1) (1) v66 := ⟨by omega, by omega⟩
            have p72 := (q69).mp (by omega)
            refine r_aload_n S dX12_line_144 rfl (lv_at hl 1 rfl) ?_
            refine r_kv (q_V (As := []) (rest := []) (K := 38) (ci := 10) S X64 (c_X12_skip_q l G τ hI bb nb 900 fs.1.2.2 (MT_st hR.1 (Or.inl p72.1)).1 (MT_st hR.1 (Or.inl p72.1)).2.1 (MT_st hR.1 (Or.inl p72.1)).2.2) ck12_186 (Nat.le_of_ble_eq_true rfl) rfl (fun _ => ⟨_, rfl⟩) ⟨_, _, rfl⟩ ⟨Nat.le_of_ble_eq_true rfl, Nat.le_of_ble_eq_true rfl⟩ rfl hl.1 rfl (Nat.le_of_ble_eq_true rfl) dX12_line_145 ⟨Nat.le_refl 0, Nat.le_refl 0⟩) X64 (fun t75 H lc q73 X74 => ?_)
            unfold po_X12_skip_q at q73
            obtain ⟨q76, q77, q78, q79, q80, q81, q82⟩ := q73
            have F83 : Fr [(131, 15), (131, 16), (131, 4), (131, 11), (131, 12), (131, 13), (131, 14), (131, 18), (131, 20), (131, 21)] [134, 331, 336] τ t75 := Fr_call Fr_rfl q77 (by decide)
            obtain ⟨v84, z85⟩ : ∃ x, t75 131 4 = x := ⟨_, rfl⟩
            rw [z85] at q78
            obtain ⟨v86, z87⟩ : ∃ x, t75 131 11 = x := ⟨_, rfl⟩
            rw [z87] at q79
            have e88 := congrArg Int32.toInt z4
            have e89 := congrArg Int32.toInt z85
            have e90 := congrArg Int32.toInt z4
            have e91 := congrArg Int32.toInt z85
            have e92 := congrArg Int32.toInt z7
            have e93 := congrArg Int32.toInt z87
            have hR94 : RM bb nb t75 (stp bb nb fs) := ⟨q82, RH_fr hR.2.1 ((q77 131 20 (by decide)).trans rfl) (fun j _ => ((q77 134 j (by simp [fz])).trans rfl)) (fun j => ((q77 336 j (by simp [fz])).trans rfl)), RS2_fr hR.2.2 (fun j => ((q77 337 j (by simp [fz])).trans rfl)) (fun j => ((q77 336 j (by simp [fz])).trans rfl))⟩
            refine r_aload_n S dX12_line_148 rfl (lv_at hl 1 rfl) ?_
            refine r_bipush S dX12_line_149 (by decide) (fun v95 z96 => ?_)
            have r97 := R_eq z96
            refine r_aload_n S dX12_line_151 rfl (lv_at hl 1 rfl) ?_
            refine r_get (K := 38) (v := .ref (G.2.2.2.1 134)) S X74 (Nat.le_of_ble_eq_true rfl) rfl lk12_37_10 (fun _ => ⟨_, rfl, rfl⟩) dX12_line_152 ?_
            refine r_iconst S dX12_line_155 (by decide) (fun v98 z99 => ?_)
            have r100 := R_eq z99
            refine r_aldn (n := 125) (K := 41) S X74 (Nat.le_of_ble_eq_true rfl) rfl (fun _ => rfl) (ix_of r100 rfl) dX12_line_156 (fun v101 z102 => ?_)
            have r103 : R (0) (10) v101 := rds (K := 41) (a := 1) (n := 1) q76 rfl z102 (R_of r100 rfl) (by decide +kernel)
            refine r_ki (q_V (As := [.int v95, .int v101]) (rest := []) (K := 38) (ci := 10) S X74 (c_X12_looksAt_qm l G t75 q76 v95 v101 r97 r103 (by rw [((q77 131 15 (by decide)).trans z2)]; exact R_of hf_0 rfl) bb nb (stp bb nb fs) hR94 (by have q := hR94.2.1.2.2.2.2.2.2.1.1; rw [(zc (n := 1) (by omega) z102)] at q; exact q)) ck12_204 (Nat.le_of_ble_eq_true rfl) rfl (fun _ => ⟨_, rfl⟩) ⟨_, _, rfl⟩ ⟨Nat.le_of_ble_eq_true rfl, Nat.le_of_ble_eq_true rfl⟩ rfl hl.1 rfl (Nat.le_of_ble_eq_true rfl) dX12_line_157 ⟨Nat.le_refl 0, Nat.le_refl 0⟩) X74 (fun v107 t106 H lc q104 X105 => ?_)
            unfold po_X12_looksAt_qm at q104
            obtain ⟨q108, q109, q110, q111, q112, q113⟩ := q104
            have F114 : Fr [(131, 15), (131, 16), (131, 4), (131, 11), (131, 12), (131, 13), (131, 14), (131, 18), (131, 20), (131, 21)] [134, 331, 336] τ t106 := Fr_call F83 q109 (by decide)
            have e115 := congrArg Int32.toInt z87
            have e116 := congrArg Int32.toInt ((q109 131 11 (by decide)).trans z87)
            refine r_if_ne (tgt := 165) S dX12_line_160 (by decide) (fun c117 => ?_) (fun c117 => ?_)
            ·
              have r118 : R (1) (1) v107 := ⟨by omega, by omega⟩
              obtain ⟨p119, p120⟩ := q111 (by omega)
              obtain ⟨v121, z122⟩ : ∃ x, t106 131 18 = x := ⟨_, rfl⟩
              rw [z122] at p119
              obtain ⟨v123, z124⟩ : ∃ x, t106 131 15 = x := ⟨_, rfl⟩
              rw [z124] at p120
              have p125 := (QM_1 q113) (by omega)
              obtain ⟨g126, e127, hP128⟩ := p125
              refine r_aload_n S dX12_line_165 rfl (lv_at hl 1 rfl) ?_
              refine r_geti (K := 38) S X105 (Nat.le_of_ble_eq_true rfl) rfl lk12_193_10 (fun _ => ⟨_, rfl, rfl⟩) z122 dX12_line_166 ?_
              have e129 : v121.toInt = g126 := by rw [← z122]; exact hP128.1
              have e130 := sLook_x e127
              refine r_istore_n (lv' := [(2, .int v121), (1, .int v66), (0, .ref (G.2.2.2.1 131))]) S dX12_line_169 rfl hl (by decide) rfl (fun ls hl => ?_)
              refine r_iload_n S dX12_line_170 rfl (lv_at hl 1 rfl) ?_
              refine r_if_eq (tgt := 192) S dX12_line_171 (by decide) (fun c131 => ?_) (fun c131 => ?_)
              ·
                exfalso; omega
              ·
                refine r_aload_n S dX12_line_174 rfl (lv_at hl 2 rfl) ?_
                refine r_get (K := 38) (v := .ref (G.2.2.2.1 134)) S X105 (Nat.le_of_ble_eq_true rfl) rfl lk12_37_10 (fun _ => ⟨_, rfl, rfl⟩) dX12_line_175 ?_
                refine r_bipush S dX12_line_178 (by decide) (fun v132 z133 => ?_)
                have r134 := R_eq z133
                refine r_iload_n S dX12_line_180 rfl (lv_at hl 0 rfl) ?_
                refine r_iadd S dX12_line_181 (fun v135 z136 => ?_)
                obtain ⟨e137, r138⟩ := i_add (lo := 105) (hi := 114) z136 r134 p119 rfl
                refine r_aldn (n := 125) (K := 41) S X105 (Nat.le_of_ble_eq_true rfl) rfl (fun _ => rfl) (ix_of r138 rfl) dX12_line_182 (fun v139 z140 => ?_)
                have r141 : R (0) (10) v139 := rds (K := 41) (a := 105) (n := 10) q108 rfl z140 (R_of r138 rfl) (by decide +kernel)
                have g142 : Rg 41 v135.toNatClampNeg v139 := rd q108 rfl z140
                have ho143 : (0 < v139.toInt ↔ gpa fs.2 g126 = true) := by have q := hP128.2.2.1.2.2.2.2.2.2.2.1 g126 (by omega); rw [show 105 + g126 = v135.toNatClampNeg by (have c : v135.toNatClampNeg = v135.toInt.toNat := rfl; omega), z140] at q; exact q
                refine r_if_le (tgt := 192) S dX12_line_183 (by decide) (fun c144 => ?_) (fun c144 => ?_)
                ·
                  have r145 : R (0) (0) v139 := ⟨by omega, by omega⟩
                  refine r_aload_n S dX12_line_192 rfl (lv_at hl 2 rfl) ?_
                  refine r_kv (q_V (As := []) (rest := []) (K := 38) (ci := 10) S X105 (c_X12_skip_q l G t106 q108 bb nb 900 (stp bb nb fs).1.2.2 (MT_st hP128.2.1 (Or.inl (sLook_n e127).1)).1 (MT_st hP128.2.1 (Or.inl (sLook_n e127).1)).2.1 (MT_st hP128.2.1 (Or.inl (sLook_n e127).1)).2.2) ck12_186 (Nat.le_of_ble_eq_true rfl) rfl (fun _ => ⟨_, rfl⟩) ⟨_, _, rfl⟩ ⟨Nat.le_of_ble_eq_true rfl, Nat.le_of_ble_eq_true rfl⟩ rfl hl.1 rfl (Nat.le_of_ble_eq_true rfl) dX12_line_193 ⟨Nat.le_refl 0, Nat.le_refl 0⟩) X105 (fun t148 H lc q146 X147 => ?_)
                  unfold po_X12_skip_q at q146
                  obtain ⟨q149, q150, q151, q152, q153, q154, q155⟩ := q146
                  have F156 : Fr [(131, 15), (131, 16), (131, 4), (131, 11), (131, 12), (131, 13), (131, 14), (131, 18), (131, 20), (131, 21)] [134, 331, 336] τ t148 := Fr_call F114 q150 (by decide)
                  obtain ⟨v157, z158⟩ : ∃ x, t148 131 4 = x := ⟨_, rfl⟩
                  rw [z158] at q151
                  obtain ⟨v159, z160⟩ : ∃ x, t148 131 11 = x := ⟨_, rfl⟩
                  rw [z160] at q152
                  have e161 := congrArg Int32.toInt ((q109 131 4 (by decide)).trans z85)
                  have e162 := congrArg Int32.toInt z158
                  have e163 := congrArg Int32.toInt ((q109 131 4 (by decide)).trans z85)
                  have e164 := congrArg Int32.toInt z158
                  have e165 := congrArg Int32.toInt ((q109 131 11 (by decide)).trans z87)
                  have e166 := congrArg Int32.toInt z160
                  have hR167 : RM bb nb t148 (stp bb nb (stp bb nb fs)) := ⟨q155, RH_fr hP128.2.2.1 ((q150 131 20 (by decide)).trans rfl) (fun j _ => ((q150 134 j (by simp [fz])).trans rfl)) (fun j => ((q150 336 j (by simp [fz])).trans rfl)), RS2_fr hP128.2.2.2 (fun j => ((q150 337 j (by simp [fz])).trans rfl)) (fun j => ((q150 336 j (by simp [fz])).trans rfl))⟩
                  refine r_aload_n S dX12_line_196 rfl (lv_at hl 2 rfl) ?_
                  refine r_bipush S dX12_line_197 (by decide) (fun v168 z169 => ?_)
                  have r170 := R_eq z169
                  refine r_aload_n S dX12_line_199 rfl (lv_at hl 2 rfl) ?_
                  refine r_get (K := 38) (v := .ref (G.2.2.2.1 134)) S X147 (Nat.le_of_ble_eq_true rfl) rfl lk12_37_10 (fun _ => ⟨_, rfl, rfl⟩) dX12_line_200 ?_
                  refine r_iconst S dX12_line_203 (by decide) (fun v171 z172 => ?_)
                  have r173 := R_eq z172
                  refine r_aldi (x := v101) (n := 125) (K := 41) S X147 (Nat.le_of_ble_eq_true rfl) rfl (fun _ => rfl) (ix_of r173 rfl) (zc' (n := 1) (by omega) ((q150 134 1 (by decide)).trans ((q109 134 1 (by decide)).trans (zc (n := 1) (by omega) z102)))) dX12_line_204 ?_
                  refine r_ki (q_V (As := [.int v168, .int v101]) (rest := []) (K := 38) (ci := 10) S X147 (c_X12_looksAt_qm l G t148 q149 v168 v101 r170 r103 (by rw [((q150 131 15 (by decide)).trans z124)]; exact R_of p120 rfl) bb nb (stp bb nb (stp bb nb fs)) hR167 (by have q := hR167.2.1.2.2.2.2.2.2.1.1; rw [((q150 134 1 (by decide)).trans ((q109 134 1 (by decide)).trans (zc (n := 1) (by omega) z102)))] at q; exact q)) ck12_204 (Nat.le_of_ble_eq_true rfl) rfl (fun _ => ⟨_, rfl⟩) ⟨_, _, rfl⟩ ⟨Nat.le_of_ble_eq_true rfl, Nat.le_of_ble_eq_true rfl⟩ rfl hl.1 rfl (Nat.le_of_ble_eq_true rfl) dX12_line_205 ⟨Nat.le_refl 0, Nat.le_refl 0⟩) X147 (fun v178 t177 H lc q175 X176 => ?_)
                  unfold po_X12_looksAt_qm at q175
                  obtain ⟨q179, q180, q181, q182, q183, q184⟩ := q175
                  have F185 : Fr [(131, 15), (131, 16), (131, 4), (131, 11), (131, 12), (131, 13), (131, 14), (131, 18), (131, 20), (131, 21)] [134, 331, 336] τ t177 := Fr_call F156 q180 (by decide)
                  have e186 := congrArg Int32.toInt z160
                  have e187 := congrArg Int32.toInt ((q180 131 11 (by decide)).trans z160)
                  refine r_if_ne (tgt := 213) S dX12_line_208 (by decide) (fun c188 => ?_) (fun c188 => ?_)
                  ·
                    have r189 : R (1) (1) v178 := ⟨by omega, by omega⟩
                    obtain ⟨p190, p191⟩ := q182 (by omega)
                    obtain ⟨v192, z193⟩ : ∃ x, t177 131 18 = x := ⟨_, rfl⟩
                    rw [z193] at p190
                    obtain ⟨v194, z195⟩ : ∃ x, t177 131 15 = x := ⟨_, rfl⟩
                    rw [z195] at p191
                    have p196 := (QM_1 q184) (by omega)
                    obtain ⟨g197, e198, hP199⟩ := p196
                    refine r_aload_n S dX12_line_213 rfl (lv_at hl 2 rfl) ?_
                    refine r_geti (K := 38) S X176 (Nat.le_of_ble_eq_true rfl) rfl lk12_193_10 (fun _ => ⟨_, rfl, rfl⟩) z193 dX12_line_214 ?_
                    have e200 : v192.toInt = g197 := by rw [← z193]; exact hP199.1
                    have e201 := sLook_x e198
                    refine r_iload_n S dX12_line_217 rfl (lv_at hl 0 rfl) ?_
                    refine r_icmp_eq (tgt := 244) S dX12_line_218 (by decide) (fun c202 => ?_) (fun c202 => ?_)
                    ·
                      refine r_aload_n S dX12_line_244 rfl (lv_at hl 2 rfl) ?_
                      refine r_iconst S dX12_line_245 (by decide) (fun v203 z204 => ?_)
                      have r205 := R_eq z204
                      refine r_ki (q_V (As := [.int v203]) (rest := []) (K := 38) (ci := 10) S X176 (c_X12_bad_q l G t177 q179 v203 (R_of (lo := -2147483648) (hi := 2147483647) r205 rfl)) ck12_183 (Nat.le_of_ble_eq_true rfl) rfl (fun _ => ⟨_, rfl⟩) ⟨_, _, rfl⟩ ⟨Nat.le_of_ble_eq_true rfl, Nat.le_of_ble_eq_true rfl⟩ rfl hl.1 rfl (Nat.le_of_ble_eq_true rfl) dX12_line_246 ⟨Nat.le_refl 0, Nat.le_refl 0⟩) X176 (fun v209 t208 H lc q206 X207 => ?_)
                      unfold po_X12_bad_q at q206
                      obtain ⟨q210, q211, q212, q213⟩ := q206
                      have F214 : Fr [(131, 15), (131, 16), (131, 4), (131, 11), (131, 12), (131, 13), (131, 14), (131, 18), (131, 20), (131, 21)] [134, 331, 336] τ t208 := Fr_call F185 q211 (by decide)
                      exact r_ret S hr hlk X207 ⟨q210, F214, (R_of q212 rfl), (fun h => by exfalso; omega), (by rw [((q211 131 4 (by decide)).trans ((q180 131 4 (by decide)).trans z158))]; exact R_of q151 rfl), (by rw [((q211 131 11 (by decide)).trans ((q180 131 11 (by decide)).trans z160))]; exact R_of q152 rfl), (by have h1_0 := congrArg Int32.toInt ((q211 131 4 (by decide)).trans ((q180 131 4 (by decide)).trans z158)); have h2_0 := congrArg Int32.toInt z4; omega), (by have h1_0 := congrArg Int32.toInt ((q211 131 4 (by decide)).trans ((q180 131 4 (by decide)).trans z158)); have h2_0 := congrArg Int32.toInt z4; omega), (NB_fr hP199.2.2.2.2 (fun j => ((q211 336 j (by simp [fz])).trans rfl))), (QM_b ((sLine_6 p24 p36 p48 p60 p72).trans (sChild_b2 e127 (fun h => absurd (ho143.mpr h) (by omega)) e198 (by omega))) (by omega) (by rw [q213.1]; omega) (by rw [q213.2]; exact RM_at hP199.2))⟩ (nr_bool (R_of (lo := 0) (hi := 1) q212 rfl)) dX12_line_249
                    ·
                      refine r_iload_n S dX12_line_221 rfl (lv_at hl 1 rfl) ?_
                      refine r_if_ne (tgt := 250) S dX12_line_222 (by decide) (fun c215 => ?_) (fun c215 => ?_)
                      ·
                        refine r_iload_n S dX12_line_250 rfl (lv_at hl 1 rfl) ?_
                        refine r_if_eq (tgt := 272) S dX12_line_251 (by decide) (fun c216 => ?_) (fun c216 => ?_)
                        ·
                          exfalso; omega
                        ·
                          refine r_aload_n S dX12_line_254 rfl (lv_at hl 2 rfl) ?_
                          refine r_get (K := 38) (v := .ref (G.2.2.2.1 134)) S X176 (Nat.le_of_ble_eq_true rfl) rfl lk12_37_10 (fun _ => ⟨_, rfl, rfl⟩) dX12_line_255 ?_
                          refine r_bipush S dX12_line_258 (by decide) (fun v217 z218 => ?_)
                          have r219 := R_eq z218
                          refine r_iload_n S dX12_line_260 rfl (lv_at hl 0 rfl) ?_
                          refine r_iadd S dX12_line_261 (fun v220 z221 => ?_)
                          obtain ⟨e222, r223⟩ := i_add (lo := 105) (hi := 114) z221 r219 p119 rfl
                          refine r_aload_n S dX12_line_262 rfl (lv_at hl 2 rfl) ?_
                          refine r_geti (K := 38) S X176 (Nat.le_of_ble_eq_true rfl) rfl lk12_193_10 (fun _ => ⟨_, rfl, rfl⟩) z193 dX12_line_263 ?_
                          refine r_iconst S dX12_line_266 (by decide) (fun v224 z225 => ?_)
                          have r226 := R_eq z225
                          refine r_iadd S dX12_line_267 (fun v227 z228 => ?_)
                          obtain ⟨e229, r230⟩ := i_add (lo := 1) (hi := 10) z228 p190 r226 rfl
                          refine r_ast (n := 125) (K := 41) S X176 (Nat.le_of_ble_eq_true rfl) rfl (fun _ _ => rfl) (ix_of r223 rfl) dX12_line_268 (fun t231 H lc M232 X233 => ?_)
                          have I234 := Inv_mu q179 M232 (show Rg (kd 134) _ v227 from wrs (K := 41) (a := 105) (n := 10) (R_of r223 rfl) (R_of (lo := 0) (hi := 10) r230 rfl) (by decide +kernel))
                          have F235 : Fr [(131, 15), (131, 16), (131, 4), (131, 11), (131, 12), (131, 13), (131, 14), (131, 18), (131, 20), (131, 21)] [134, 331, 336] τ t231 := Fr_cell F185 M232 (by decide)
                          have hR236 : RM bb nb t231 ((stp bb nb (stp bb nb fs)).1, upa fs.2 g126) := ⟨MT_fr hP199.2.1 ((M232.2 131 3 (Or.inl (by decide))).trans rfl) ((M232.2 131 4 (Or.inl (by decide))).trans rfl) ((M232.2 131 5 (Or.inl (by decide))).trans rfl) ((M232.2 131 11 (Or.inl (by decide))).trans rfl) ((M232.2 131 12 (Or.inl (by decide))).trans rfl) ((M232.2 131 14 (Or.inl (by decide))).trans rfl) (fun j => ((M232.2 132 j (Or.inl (by decide))).trans rfl)) (fun j => ((M232.2 331 j (Or.inl (by decide))).trans rfl)), RH_pa (s := fs.2) hP199.2.2.1 M232 (by have c : v220.toNatClampNeg = v220.toInt.toNat := rfl; omega) (by omega) (by omega), RS2_fr hP199.2.2.2 (fun j => ((M232.2 337 j (Or.inl (by decide))).trans rfl)) (fun j => ((M232.2 336 j (Or.inl (by decide))).trans rfl))⟩
                          refine r_goto (tgt := 318) S dX12_line_269 (by decide) ?_
                          refine r_aload_n S dX12_line_318 rfl (lv_at hl 2 rfl) ?_
                          refine r_kv (q_V (As := []) (rest := []) (K := 38) (ci := 10) S X233 (c_X12_skip_q l G t231 I234 bb nb 900 ((stp bb nb (stp bb nb fs)).1, upa fs.2 g126).1.2.2 (MT_st hR236.1 (Or.inl (sLook_n e198).1)).1 (MT_st hR236.1 (Or.inl (sLook_n e198).1)).2.1 (MT_st hR236.1 (Or.inl (sLook_n e198).1)).2.2) ck12_186 (Nat.le_of_ble_eq_true rfl) rfl (fun _ => ⟨_, rfl⟩) ⟨_, _, rfl⟩ ⟨Nat.le_of_ble_eq_true rfl, Nat.le_of_ble_eq_true rfl⟩ rfl hl.1 rfl (Nat.le_of_ble_eq_true rfl) dX12_line_319 ⟨Nat.le_refl 0, Nat.le_refl 0⟩) X233 (fun t239 H lc q237 X238 => ?_)
                          unfold po_X12_skip_q at q237
                          obtain ⟨q240, q241, q242, q243, q244, q245, q246⟩ := q237
                          have F247 : Fr [(131, 15), (131, 16), (131, 4), (131, 11), (131, 12), (131, 13), (131, 14), (131, 18), (131, 20), (131, 21)] [134, 331, 336] τ t239 := Fr_call F235 q241 (by decide)
                          obtain ⟨v248, z249⟩ : ∃ x, t239 131 4 = x := ⟨_, rfl⟩
                          rw [z249] at q242
                          obtain ⟨v250, z251⟩ : ∃ x, t239 131 11 = x := ⟨_, rfl⟩
                          rw [z251] at q243
                          have e252 := congrArg Int32.toInt ((M232.2 131 4 (Or.inl (by decide))).trans ((q180 131 4 (by decide)).trans z158))
                          have e253 := congrArg Int32.toInt z249
                          have e254 := congrArg Int32.toInt ((M232.2 131 4 (Or.inl (by decide))).trans ((q180 131 4 (by decide)).trans z158))
                          have e255 := congrArg Int32.toInt z249
                          have e256 := congrArg Int32.toInt ((M232.2 131 11 (Or.inl (by decide))).trans ((q180 131 11 (by decide)).trans z160))
                          have e257 := congrArg Int32.toInt z251
                          have hR258 : RM bb nb t239 (stp bb nb ((stp bb nb (stp bb nb fs)).1, upa fs.2 g126)) := ⟨q246, RH_fr hR236.2.1 ((q241 131 20 (by decide)).trans rfl) (fun j _ => ((q241 134 j (by simp [fz])).trans rfl)) (fun j => ((q241 336 j (by simp [fz])).trans rfl)), RS2_fr hR236.2.2 (fun j => ((q241 337 j (by simp [fz])).trans rfl)) (fun j => ((q241 336 j (by simp [fz])).trans rfl))⟩
                          refine r_iconst S dX12_line_322 (by decide) (fun v259 z260 => ?_)
                          have r261 := R_eq z260
                          exact r_ret S hr hlk X238 ⟨q240, F247, (R_of r261 rfl), (fun h => (by rw [((q241 131 15 (by decide)).trans ((M232.2 131 15 (Or.inl (by decide))).trans z195))]; exact R_of p191 rfl)), (by rw [z249]; exact R_of q242 rfl), (by rw [z251]; exact R_of q243 rfl), (by have h1_0 := congrArg Int32.toInt z249; have h2_0 := congrArg Int32.toInt z4; omega), (by have h1_0 := congrArg Int32.toInt z249; have h2_0 := congrArg Int32.toInt z4; omega), hR258.2.2.2, (QM_r ((sLine_6 p24 p36 p48 p60 p72).trans (sChild_r e127 (fun h => absurd (ho143.mpr h) (by omega)) e198 (by omega))) (by omega) hR258)⟩ (nr_bool (R_of (lo := 0) (hi := 1) r261 rfl)) dX12_line_323
                      ·
                        exfalso; omega
                  ·
                    have r262 : R (0) (0) v178 := ⟨by omega, by omega⟩
                    have p263 := (QM_0 q184) (by omega)
                    obtain ⟨q264, e265, h266, h267⟩ := p263
                    refine r_iconst S dX12_line_211 (by decide) (fun v268 z269 => ?_)
                    have r270 := R_eq z269
                    exact r_ret S hr hlk X176 ⟨q179, F185, (R_of r270 rfl), (fun h => by exfalso; omega), (by rw [((q180 131 4 (by decide)).trans z158)]; exact R_of q151 rfl), (by rw [((q180 131 11 (by decide)).trans z160)]; exact R_of q152 rfl), (by have h1_0 := congrArg Int32.toInt ((q180 131 4 (by decide)).trans z158); have h2_0 := congrArg Int32.toInt z4; omega), (by have h1_0 := congrArg Int32.toInt ((q180 131 4 (by decide)).trans z158); have h2_0 := congrArg Int32.toInt z4; omega), (NB_fr hR167.2.2.2 (fun j => ((q180 336 j (by simp [fz])).trans rfl))), (QM_l ((sLine_6 p24 p36 p48 p60 p72).trans (sChild_l2 e127 (fun h => absurd (ho143.mpr h) (by omega)) e265)) (by omega) h266 h267)⟩ (nr_bool (R_of (lo := 0) (hi := 1) r270 rfl)) dX12_line_212
                ·
                  have r271 : R (1) (10) v139 := ⟨by omega, by omega⟩
                  refine r_aload_n S dX12_line_186 rfl (lv_at hl 2 rfl) ?_
                  refine r_iconst S dX12_line_187 (by decide) (fun v272 z273 => ?_)
                  have r274 := R_eq z273
                  refine r_ki (q_V (As := [.int v272]) (rest := []) (K := 38) (ci := 10) S X105 (c_X12_bad_q l G t106 q108 v272 (R_of (lo := -2147483648) (hi := 2147483647) r274 rfl)) ck12_183 (Nat.le_of_ble_eq_true rfl) rfl (fun _ => ⟨_, rfl⟩) ⟨_, _, rfl⟩ ⟨Nat.le_of_ble_eq_true rfl, Nat.le_of_ble_eq_true rfl⟩ rfl hl.1 rfl (Nat.le_of_ble_eq_true rfl) dX12_line_188 ⟨Nat.le_refl 0, Nat.le_refl 0⟩) X105 (fun v278 t277 H lc q275 X276 => ?_)
                  unfold po_X12_bad_q at q275
                  obtain ⟨q279, q280, q281, q282⟩ := q275
                  have F283 : Fr [(131, 15), (131, 16), (131, 4), (131, 11), (131, 12), (131, 13), (131, 14), (131, 18), (131, 20), (131, 21)] [134, 331, 336] τ t277 := Fr_call F114 q280 (by decide)
                  exact r_ret S hr hlk X276 ⟨q279, F283, (R_of q281 rfl), (fun h => by exfalso; omega), (by rw [((q280 131 4 (by decide)).trans ((q109 131 4 (by decide)).trans z85))]; exact R_of q78 rfl), (by rw [((q280 131 11 (by decide)).trans ((q109 131 11 (by decide)).trans z87))]; exact R_of q79 rfl), (by have h1_0 := congrArg Int32.toInt ((q280 131 4 (by decide)).trans ((q109 131 4 (by decide)).trans z85)); have h2_0 := congrArg Int32.toInt z4; omega), (by have h1_0 := congrArg Int32.toInt ((q280 131 4 (by decide)).trans ((q109 131 4 (by decide)).trans z85)); have h2_0 := congrArg Int32.toInt z4; omega), (NB_fr hP128.2.2.2.2 (fun j => ((q280 336 j (by simp [fz])).trans rfl))), (QM_b ((sLine_6 p24 p36 p48 p60 p72).trans (sChild_b1 e127 (ho143.mp (by omega)))) (by omega) (by rw [q282.1]; omega) (by rw [q282.2]; exact RM_at hP128.2))⟩ (nr_bool (R_of (lo := 0) (hi := 1) q281 rfl)) dX12_line_191
            ·
              have r284 : R (0) (0) v107 := ⟨by omega, by omega⟩
              have p285 := (QM_0 q113) (by omega)
              obtain ⟨q286, e287, h288, h289⟩ := p285
              refine r_iconst S dX12_line_163 (by decide) (fun v290 z291 => ?_)
              have r292 := R_eq z291
              exact r_ret S hr hlk X105 ⟨q108, F114, (R_of r292 rfl), (fun h => by exfalso; omega), (by rw [((q109 131 4 (by decide)).trans z85)]; exact R_of q78 rfl), (by rw [((q109 131 11 (by decide)).trans z87)]; exact R_of q79 rfl), (by have h1_0 := congrArg Int32.toInt ((q109 131 4 (by decide)).trans z85); have h2_0 := congrArg Int32.toInt z4; omega), (by have h1_0 := congrArg Int32.toInt ((q109 131 4 (by decide)).trans z85); have h2_0 := congrArg Int32.toInt z4; omega), (NB_fr hR94.2.2.2 (fun j => ((q109 336 j (by simp [fz])).trans rfl))), (QM_l ((sLine_6 p24 p36 p48 p60 p72).trans (sChild_l1 e287)) (by omega) h288 h289)⟩ (nr_bool (R_of (lo := 0) (hi := 1) r292 rfl)) dX12_line_164
          ·
            have r293 : R (0) (0) v66 := ⟨by omega, by omega⟩
            have p294 := (iff_n q69) (by omega)
            refine r_aload_n S dX12_line_128 rfl (lv_at hl 1 rfl) ?_
            refine lv_ldc2 S.1.1 S.1.2.1 S.1.2.2.2.1 (S.1.2.2.2.2 _ kw34) dX12_line_129 ?_
            refine lv_topl (fun j295 z296 => ?_)
            refine r_ki (q_V (As := [.long j295]) (rest := []) (K := 38) (ci := 10) S X64 (c_X12_isWord_q l G τ hI j295 bb nb 900 fs.1 (kwl.getD 7 []) hR.1 (by rw [z296]; decide +kernel) (kwl_at (by decide))) ck12_208 (Nat.le_of_ble_eq_true rfl) rfl (fun _ => ⟨_, rfl⟩) ⟨_, _, rfl⟩ ⟨Nat.le_of_ble_eq_true rfl, Nat.le_of_ble_eq_true rfl⟩ rfl hl.1 rfl (Nat.le_of_ble_eq_true rfl) dX12_line_132 ⟨Nat.le_refl 0, Nat.le_refl 0⟩) X64 (fun v300 t299 H lc q297 X298 => ?_)
            unfold po_X12_isWord_q at q297
            obtain ⟨q301, q302, q303⟩ := q297
            rw [q301] at X298
            refine r_if_ne (tgt := 144) S dX12_line_135 (by decide) (fun c304 => ?_) (fun c304 => ?_)
            ·
              have r305 : R (1) (1) v300 := ⟨by omega, by omega⟩
              have p306 := (q303).mp (by omega)
              refine r_aload_n S dX12_line_144 rfl (lv_at hl 1 rfl) ?_
              refine r_kv (q_V (As := []) (rest := []) (K := 38) (ci := 10) S X298 (c_X12_skip_q l G τ hI bb nb 900 fs.1.2.2 (MT_st hR.1 (Or.inl p306.1)).1 (MT_st hR.1 (Or.inl p306.1)).2.1 (MT_st hR.1 (Or.inl p306.1)).2.2) ck12_186 (Nat.le_of_ble_eq_true rfl) rfl (fun _ => ⟨_, rfl⟩) ⟨_, _, rfl⟩ ⟨Nat.le_of_ble_eq_true rfl, Nat.le_of_ble_eq_true rfl⟩ rfl hl.1 rfl (Nat.le_of_ble_eq_true rfl) dX12_line_145 ⟨Nat.le_refl 0, Nat.le_refl 0⟩) X298 (fun t309 H lc q307 X308 => ?_)
              unfold po_X12_skip_q at q307
              obtain ⟨q310, q311, q312, q313, q314, q315, q316⟩ := q307
              have F317 : Fr [(131, 15), (131, 16), (131, 4), (131, 11), (131, 12), (131, 13), (131, 14), (131, 18), (131, 20), (131, 21)] [134, 331, 336] τ t309 := Fr_call Fr_rfl q311 (by decide)
              obtain ⟨v318, z319⟩ : ∃ x, t309 131 4 = x := ⟨_, rfl⟩
              rw [z319] at q312
              obtain ⟨v320, z321⟩ : ∃ x, t309 131 11 = x := ⟨_, rfl⟩
              rw [z321] at q313
              have e322 := congrArg Int32.toInt z4
              have e323 := congrArg Int32.toInt z319
              have e324 := congrArg Int32.toInt z4
              have e325 := congrArg Int32.toInt z319
              have e326 := congrArg Int32.toInt z7
              have e327 := congrArg Int32.toInt z321
              have hR328 : RM bb nb t309 (stp bb nb fs) := ⟨q316, RH_fr hR.2.1 ((q311 131 20 (by decide)).trans rfl) (fun j _ => ((q311 134 j (by simp [fz])).trans rfl)) (fun j => ((q311 336 j (by simp [fz])).trans rfl)), RS2_fr hR.2.2 (fun j => ((q311 337 j (by simp [fz])).trans rfl)) (fun j => ((q311 336 j (by simp [fz])).trans rfl))⟩
              refine r_aload_n S dX12_line_148 rfl (lv_at hl 1 rfl) ?_
              refine r_bipush S dX12_line_149 (by decide) (fun v329 z330 => ?_)
              have r331 := R_eq z330
              refine r_aload_n S dX12_line_151 rfl (lv_at hl 1 rfl) ?_
              refine r_get (K := 38) (v := .ref (G.2.2.2.1 134)) S X308 (Nat.le_of_ble_eq_true rfl) rfl lk12_37_10 (fun _ => ⟨_, rfl, rfl⟩) dX12_line_152 ?_
              refine r_iconst S dX12_line_155 (by decide) (fun v332 z333 => ?_)
              have r334 := R_eq z333
              refine r_aldn (n := 125) (K := 41) S X308 (Nat.le_of_ble_eq_true rfl) rfl (fun _ => rfl) (ix_of r334 rfl) dX12_line_156 (fun v335 z336 => ?_)
              have r337 : R (0) (10) v335 := rds (K := 41) (a := 1) (n := 1) q310 rfl z336 (R_of r334 rfl) (by decide +kernel)
              refine r_ki (q_V (As := [.int v329, .int v335]) (rest := []) (K := 38) (ci := 10) S X308 (c_X12_looksAt_qm l G t309 q310 v329 v335 r331 r337 (by rw [((q311 131 15 (by decide)).trans z2)]; exact R_of hf_0 rfl) bb nb (stp bb nb fs) hR328 (by have q := hR328.2.1.2.2.2.2.2.2.1.1; rw [(zc (n := 1) (by omega) z336)] at q; exact q)) ck12_204 (Nat.le_of_ble_eq_true rfl) rfl (fun _ => ⟨_, rfl⟩) ⟨_, _, rfl⟩ ⟨Nat.le_of_ble_eq_true rfl, Nat.le_of_ble_eq_true rfl⟩ rfl hl.1 rfl (Nat.le_of_ble_eq_true rfl) dX12_line_157 ⟨Nat.le_refl 0, Nat.le_refl 0⟩) X308 (fun v341 t340 H lc q338 X339 => ?_)
              unfold po_X12_looksAt_qm at q338
              obtain ⟨q342, q343, q344, q345, q346, q347⟩ := q338
              have F348 : Fr [(131, 15), (131, 16), (131, 4), (131, 11), (131, 12), (131, 13), (131, 14), (131, 18), (131, 20), (131, 21)] [134, 331, 336] τ t340 := Fr_call F317 q343 (by decide)
              have e349 := congrArg Int32.toInt z321
              have e350 := congrArg Int32.toInt ((q343 131 11 (by decide)).trans z321)
              refine r_if_ne (tgt := 165) S dX12_line_160 (by decide) (fun c351 => ?_) (fun c351 => ?_)
              ·
                have r352 : R (1) (1) v341 := ⟨by omega, by omega⟩
                obtain ⟨p353, p354⟩ := q345 (by omega)
                obtain ⟨v355, z356⟩ : ∃ x, t340 131 18 = x := ⟨_, rfl⟩
                rw [z356] at p353
                obtain ⟨v357, z358⟩ : ∃ x, t340 131 15 = x := ⟨_, rfl⟩
                rw [z358] at p354
                have p359 := (QM_1 q347) (by omega)
                obtain ⟨g360, e361, hP362⟩ := p359
                refine r_aload_n S dX12_line_165 rfl (lv_at hl 1 rfl) ?_
                refine r_geti (K := 38) S X339 (Nat.le_of_ble_eq_true rfl) rfl lk12_193_10 (fun _ => ⟨_, rfl, rfl⟩) z356 dX12_line_166 ?_
                have e363 : v355.toInt = g360 := by rw [← z356]; exact hP362.1
                have e364 := sLook_x e361
                refine r_istore_n (lv' := [(2, .int v355), (1, .int v66), (0, .ref (G.2.2.2.1 131))]) S dX12_line_169 rfl hl (by decide) rfl (fun ls hl => ?_)
                refine r_iload_n S dX12_line_170 rfl (lv_at hl 1 rfl) ?_
                refine r_if_eq (tgt := 192) S dX12_line_171 (by decide) (fun c365 => ?_) (fun c365 => ?_)
                ·
                  refine r_aload_n S dX12_line_192 rfl (lv_at hl 2 rfl) ?_
                  refine r_kv (q_V (As := []) (rest := []) (K := 38) (ci := 10) S X339 (c_X12_skip_q l G t340 q342 bb nb 900 (stp bb nb fs).1.2.2 (MT_st hP362.2.1 (Or.inl (sLook_n e361).1)).1 (MT_st hP362.2.1 (Or.inl (sLook_n e361).1)).2.1 (MT_st hP362.2.1 (Or.inl (sLook_n e361).1)).2.2) ck12_186 (Nat.le_of_ble_eq_true rfl) rfl (fun _ => ⟨_, rfl⟩) ⟨_, _, rfl⟩ ⟨Nat.le_of_ble_eq_true rfl, Nat.le_of_ble_eq_true rfl⟩ rfl hl.1 rfl (Nat.le_of_ble_eq_true rfl) dX12_line_193 ⟨Nat.le_refl 0, Nat.le_refl 0⟩) X339 (fun t368 H lc q366 X367 => ?_)
                  unfold po_X12_skip_q at q366
                  obtain ⟨q369, q370, q371, q372, q373, q374, q375⟩ := q366
                  have F376 : Fr [(131, 15), (131, 16), (131, 4), (131, 11), (131, 12), (131, 13), (131, 14), (131, 18), (131, 20), (131, 21)] [134, 331, 336] τ t368 := Fr_call F348 q370 (by decide)
                  obtain ⟨v377, z378⟩ : ∃ x, t368 131 4 = x := ⟨_, rfl⟩
                  rw [z378] at q371
                  obtain ⟨v379, z380⟩ : ∃ x, t368 131 11 = x := ⟨_, rfl⟩
                  rw [z380] at q372
                  have e381 := congrArg Int32.toInt ((q343 131 4 (by decide)).trans z319)
                  have e382 := congrArg Int32.toInt z378
                  have e383 := congrArg Int32.toInt ((q343 131 4 (by decide)).trans z319)
                  have e384 := congrArg Int32.toInt z378
                  have e385 := congrArg Int32.toInt ((q343 131 11 (by decide)).trans z321)
                  have e386 := congrArg Int32.toInt z380
                  have hR387 : RM bb nb t368 (stp bb nb (stp bb nb fs)) := ⟨q375, RH_fr hP362.2.2.1 ((q370 131 20 (by decide)).trans rfl) (fun j _ => ((q370 134 j (by simp [fz])).trans rfl)) (fun j => ((q370 336 j (by simp [fz])).trans rfl)), RS2_fr hP362.2.2.2 (fun j => ((q370 337 j (by simp [fz])).trans rfl)) (fun j => ((q370 336 j (by simp [fz])).trans rfl))⟩
                  refine r_aload_n S dX12_line_196 rfl (lv_at hl 2 rfl) ?_
                  refine r_bipush S dX12_line_197 (by decide) (fun v388 z389 => ?_)
                  have r390 := R_eq z389
                  refine r_aload_n S dX12_line_199 rfl (lv_at hl 2 rfl) ?_
                  refine r_get (K := 38) (v := .ref (G.2.2.2.1 134)) S X367 (Nat.le_of_ble_eq_true rfl) rfl lk12_37_10 (fun _ => ⟨_, rfl, rfl⟩) dX12_line_200 ?_
                  refine r_iconst S dX12_line_203 (by decide) (fun v391 z392 => ?_)
                  have r393 := R_eq z392
                  refine r_aldi (x := v335) (n := 125) (K := 41) S X367 (Nat.le_of_ble_eq_true rfl) rfl (fun _ => rfl) (ix_of r393 rfl) (zc' (n := 1) (by omega) ((q370 134 1 (by decide)).trans ((q343 134 1 (by decide)).trans (zc (n := 1) (by omega) z336)))) dX12_line_204 ?_
                  refine r_ki (q_V (As := [.int v388, .int v335]) (rest := []) (K := 38) (ci := 10) S X367 (c_X12_looksAt_qm l G t368 q369 v388 v335 r390 r337 (by rw [((q370 131 15 (by decide)).trans z358)]; exact R_of p354 rfl) bb nb (stp bb nb (stp bb nb fs)) hR387 (by have q := hR387.2.1.2.2.2.2.2.2.1.1; rw [((q370 134 1 (by decide)).trans ((q343 134 1 (by decide)).trans (zc (n := 1) (by omega) z336)))] at q; exact q)) ck12_204 (Nat.le_of_ble_eq_true rfl) rfl (fun _ => ⟨_, rfl⟩) ⟨_, _, rfl⟩ ⟨Nat.le_of_ble_eq_true rfl, Nat.le_of_ble_eq_true rfl⟩ rfl hl.1 rfl (Nat.le_of_ble_eq_true rfl) dX12_line_205 ⟨Nat.le_refl 0, Nat.le_refl 0⟩) X367 (fun v398 t397 H lc q395 X396 => ?_)
                  unfold po_X12_looksAt_qm at q395
                  obtain ⟨q399, q400, q401, q402, q403, q404⟩ := q395
                  have F405 : Fr [(131, 15), (131, 16), (131, 4), (131, 11), (131, 12), (131, 13), (131, 14), (131, 18), (131, 20), (131, 21)] [134, 331, 336] τ t397 := Fr_call F376 q400 (by decide)
                  have e406 := congrArg Int32.toInt z380
                  have e407 := congrArg Int32.toInt ((q400 131 11 (by decide)).trans z380)
                  refine r_if_ne (tgt := 213) S dX12_line_208 (by decide) (fun c408 => ?_) (fun c408 => ?_)
                  ·
                    have r409 : R (1) (1) v398 := ⟨by omega, by omega⟩
                    obtain ⟨p410, p411⟩ := q402 (by omega)
                    obtain ⟨v412, z413⟩ : ∃ x, t397 131 18 = x := ⟨_, rfl⟩
                    rw [z413] at p410
                    obtain ⟨v414, z415⟩ : ∃ x, t397 131 15 = x := ⟨_, rfl⟩
                    rw [z415] at p411
                    have p416 := (QM_1 q404) (by omega)
                    obtain ⟨g417, e418, hP419⟩ := p416
                    refine r_aload_n S dX12_line_213 rfl (lv_at hl 2 rfl) ?_
                    refine r_geti (K := 38) S X396 (Nat.le_of_ble_eq_true rfl) rfl lk12_193_10 (fun _ => ⟨_, rfl, rfl⟩) z413 dX12_line_214 ?_
                    have e420 : v412.toInt = g417 := by rw [← z413]; exact hP419.1
                    have e421 := sLook_x e418
                    refine r_iload_n S dX12_line_217 rfl (lv_at hl 0 rfl) ?_
                    refine r_icmp_eq (tgt := 244) S dX12_line_218 (by decide) (fun c422 => ?_) (fun c422 => ?_)
                    ·
                      refine r_aload_n S dX12_line_244 rfl (lv_at hl 2 rfl) ?_
                      refine r_iconst S dX12_line_245 (by decide) (fun v423 z424 => ?_)
                      have r425 := R_eq z424
                      refine r_ki (q_V (As := [.int v423]) (rest := []) (K := 38) (ci := 10) S X396 (c_X12_bad_q l G t397 q399 v423 (R_of (lo := -2147483648) (hi := 2147483647) r425 rfl)) ck12_183 (Nat.le_of_ble_eq_true rfl) rfl (fun _ => ⟨_, rfl⟩) ⟨_, _, rfl⟩ ⟨Nat.le_of_ble_eq_true rfl, Nat.le_of_ble_eq_true rfl⟩ rfl hl.1 rfl (Nat.le_of_ble_eq_true rfl) dX12_line_246 ⟨Nat.le_refl 0, Nat.le_refl 0⟩) X396 (fun v429 t428 H lc q426 X427 => ?_)
                      unfold po_X12_bad_q at q426
                      obtain ⟨q430, q431, q432, q433⟩ := q426
                      have F434 : Fr [(131, 15), (131, 16), (131, 4), (131, 11), (131, 12), (131, 13), (131, 14), (131, 18), (131, 20), (131, 21)] [134, 331, 336] τ t428 := Fr_call F405 q431 (by decide)
                      exact r_ret S hr hlk X427 ⟨q430, F434, (R_of q432 rfl), (fun h => by exfalso; omega), (by rw [((q431 131 4 (by decide)).trans ((q400 131 4 (by decide)).trans z378))]; exact R_of q371 rfl), (by rw [((q431 131 11 (by decide)).trans ((q400 131 11 (by decide)).trans z380))]; exact R_of q372 rfl), (by have h1_0 := congrArg Int32.toInt ((q431 131 4 (by decide)).trans ((q400 131 4 (by decide)).trans z378)); have h2_0 := congrArg Int32.toInt z4; omega), (by have h1_0 := congrArg Int32.toInt ((q431 131 4 (by decide)).trans ((q400 131 4 (by decide)).trans z378)); have h2_0 := congrArg Int32.toInt z4; omega), (NB_fr hP419.2.2.2.2 (fun j => ((q431 336 j (by simp [fz])).trans rfl))), (QM_b ((sLine_7 p24 p36 p48 p60 p294 p306).trans (sKin_b e361 e418 (Or.inl (by omega)))) (by omega) (by rw [q433.1]; omega) (by rw [q433.2]; exact RM_at hP419.2))⟩ (nr_bool (R_of (lo := 0) (hi := 1) q432 rfl)) dX12_line_249
                    ·
                      refine r_iload_n S dX12_line_221 rfl (lv_at hl 1 rfl) ?_
                      refine r_if_ne (tgt := 250) S dX12_line_222 (by decide) (fun c435 => ?_) (fun c435 => ?_)
                      ·
                        exfalso; omega
                      ·
                        refine r_aload_n S dX12_line_225 rfl (lv_at hl 2 rfl) ?_
                        refine r_get (K := 38) (v := .ref (G.2.2.2.1 134)) S X396 (Nat.le_of_ble_eq_true rfl) rfl lk12_37_10 (fun _ => ⟨_, rfl, rfl⟩) dX12_line_226 ?_
                        refine r_bipush S dX12_line_229 (by decide) (fun v436 z437 => ?_)
                        have r438 := R_eq z437
                        refine r_iload_n S dX12_line_231 rfl (lv_at hl 0 rfl) ?_
                        refine r_iadd S dX12_line_232 (fun v439 z440 => ?_)
                        obtain ⟨e441, r442⟩ := i_add (lo := 115) (hi := 124) z440 r438 p353 rfl
                        refine r_aldn (n := 125) (K := 41) S X396 (Nat.le_of_ble_eq_true rfl) rfl (fun _ => rfl) (ix_of r442 rfl) dX12_line_233 (fun v443 z444 => ?_)
                        have r445 : R (0) (1023) v443 := rds (K := 41) (a := 115) (n := 10) q399 rfl z444 (R_of r442 rfl) (by decide +kernel)
                        have g446 : Rg 41 v439.toNatClampNeg v443 := rd q399 rfl z444
                        refine r_aload_n S dX12_line_234 rfl (lv_at hl 2 rfl) ?_
                        refine r_geti (K := 38) S X396 (Nat.le_of_ble_eq_true rfl) rfl lk12_193_10 (fun _ => ⟨_, rfl, rfl⟩) z413 dX12_line_235 ?_
                        refine r_ki (q_S (As := [.int v443, .int v412]) (rest := []) S X396 (c_X12_bitOf_q l G t397 q399 v443 v412 (R_of (lo := -2147483648) (hi := 2147483647) r445 rfl) p410) ck12_221 ⟨Nat.le_of_ble_eq_true rfl, Nat.le_of_ble_eq_true rfl⟩ rfl hl.1 rfl (Nat.le_of_ble_eq_true rfl) dX12_line_238 ⟨Nat.le_refl 0, Nat.le_refl 0⟩) X396 (fun v450 t449 H lc q447 X448 => ?_)
                        unfold po_X12_bitOf_q at q447
                        obtain ⟨q451, q452, q453⟩ := q447
                        rw [q451] at X448
                        have ho454 : (kb v443 v412.toInt.toNat ↔ gki fs.2 g360 g417 = true) := by have q := hP419.2.2.1.2.2.2.2.2.2.2.2 g360 g417 (by omega) (by omega); rw [show 115 + g360 = v439.toNatClampNeg by (have c : v439.toNatClampNeg = v439.toInt.toNat := rfl; omega), z444] at q; rw [show v412.toInt.toNat = g417 by omega]; exact q
                        refine r_if_eq (tgt := 250) S dX12_line_241 (by decide) (fun c455 => ?_) (fun c455 => ?_)
                        ·
                          have r456 : R (0) (0) v450 := ⟨by omega, by omega⟩
                          have p457 := (iff_n q453) (by omega)
                          refine r_iload_n S dX12_line_250 rfl (lv_at hl 1 rfl) ?_
                          refine r_if_eq (tgt := 272) S dX12_line_251 (by decide) (fun c458 => ?_) (fun c458 => ?_)
                          ·
                            refine r_aload_n S dX12_line_272 rfl (lv_at hl 2 rfl) ?_
                            refine r_get (K := 38) (v := .ref (G.2.2.2.1 134)) S X448 (Nat.le_of_ble_eq_true rfl) rfl lk12_37_10 (fun _ => ⟨_, rfl, rfl⟩) dX12_line_273 ?_
                            refine r_bipush S dX12_line_276 (by decide) (fun v459 z460 => ?_)
                            have r461 := R_eq z460
                            refine r_iload_n S dX12_line_278 rfl (lv_at hl 0 rfl) ?_
                            refine r_iadd S dX12_line_279 (fun v462 z463 => ?_)
                            obtain ⟨e464, r465⟩ := i_add (lo := 115) (hi := 124) z463 r461 p353 rfl
                            refine r_dup2 S dX12_line_280 rfl rfl ?_
                            refine r_aldn (n := 125) (K := 41) S X448 (Nat.le_of_ble_eq_true rfl) rfl (fun _ => rfl) (ix_of r465 rfl) dX12_line_281 (fun v466 z467 => ?_)
                            have r468 : R (0) (1023) v466 := rds (K := 41) (a := 115) (n := 10) q399 rfl z467 (R_of r465 rfl) (by decide +kernel)
                            have g469 : Rg 41 v462.toNatClampNeg v466 := rd q399 rfl z467
                            refine r_iconst S dX12_line_282 (by decide) (fun v470 z471 => ?_)
                            have r472 := R_eq z471
                            refine r_aload_n S dX12_line_283 rfl (lv_at hl 2 rfl) ?_
                            refine r_geti (K := 38) S X448 (Nat.le_of_ble_eq_true rfl) rfl lk12_193_10 (fun _ => ⟨_, rfl, rfl⟩) z413 dX12_line_284 ?_
                            refine r_ishl S dX12_line_287 (fun v473 z474 => ?_)
                            have r476 : R (1) (512) v473 := i_shl z474 r472 p410 rfl
                            refine r_ior S dX12_line_288 (fun v477 z478 => ?_)
                            have r480 : R (0) (1023) v477 := i_or 10 z478 r468 r476 rfl
                            refine r_ast (n := 125) (K := 41) S X448 (Nat.le_of_ble_eq_true rfl) rfl (fun _ _ => rfl) (ix_of r465 rfl) dX12_line_289 (fun t481 H lc M482 X483 => ?_)
                            have I484 := Inv_mu q399 M482 (show Rg (kd 134) _ v477 from wrs (K := 41) (a := 115) (n := 10) (R_of r465 rfl) (R_of (lo := 0) (hi := 1023) r480 rfl) (by decide +kernel))
                            have F485 : Fr [(131, 15), (131, 16), (131, 4), (131, 11), (131, 12), (131, 13), (131, 14), (131, 18), (131, 20), (131, 21)] [134, 331, 336] τ t481 := Fr_cell F405 M482 (by decide)
                            refine r_aload_n S dX12_line_290 rfl (lv_at hl 2 rfl) ?_
                            refine r_get (K := 38) (v := .ref (G.2.2.2.1 134)) S X483 (Nat.le_of_ble_eq_true rfl) rfl lk12_37_10 (fun _ => ⟨_, rfl, rfl⟩) dX12_line_291 ?_
                            refine r_bipush S dX12_line_294 (by decide) (fun v486 z487 => ?_)
                            have r488 := R_eq z487
                            refine r_aload_n S dX12_line_296 rfl (lv_at hl 2 rfl) ?_
                            refine r_geti (K := 38) S X483 (Nat.le_of_ble_eq_true rfl) rfl lk12_193_10 (fun _ => ⟨_, rfl, rfl⟩) ((M482.2 131 18 (Or.inl (by decide))).trans z413) dX12_line_297 ?_
                            refine r_iadd S dX12_line_300 (fun v489 z490 => ?_)
                            obtain ⟨e491, r492⟩ := i_add (lo := 115) (hi := 124) z490 r488 p410 rfl
                            refine r_dup2 S dX12_line_301 rfl rfl ?_
                            refine r_aldn (n := 125) (K := 41) S X483 (Nat.le_of_ble_eq_true rfl) rfl (fun _ => rfl) (ix_of r492 rfl) dX12_line_302 (fun v493 z494 => ?_)
                            have r495 : R (0) (1023) v493 := rds (K := 41) (a := 115) (n := 10) I484 rfl z494 (R_of r492 rfl) (by decide +kernel)
                            have g496 : Rg 41 v489.toNatClampNeg v493 := rd I484 rfl z494
                            refine r_iconst S dX12_line_303 (by decide) (fun v497 z498 => ?_)
                            have r499 := R_eq z498
                            refine r_iload_n S dX12_line_304 rfl (lv_at hl 0 rfl) ?_
                            refine r_ishl S dX12_line_305 (fun v500 z501 => ?_)
                            have r503 : R (1) (512) v500 := i_shl z501 r499 p353 rfl
                            refine r_ior S dX12_line_306 (fun v504 z505 => ?_)
                            have r507 : R (0) (1023) v504 := i_or 10 z505 r495 r503 rfl
                            refine r_ast (n := 125) (K := 41) S X483 (Nat.le_of_ble_eq_true rfl) rfl (fun _ _ => rfl) (ix_of r492 rfl) dX12_line_307 (fun t508 H lc M509 X510 => ?_)
                            have I511 := Inv_mu I484 M509 (show Rg (kd 134) _ v504 from wrs (K := 41) (a := 115) (n := 10) (R_of r492 rfl) (R_of (lo := 0) (hi := 1023) r507 rfl) (by decide +kernel))
                            have F512 : Fr [(131, 15), (131, 16), (131, 4), (131, 11), (131, 12), (131, 13), (131, 14), (131, 18), (131, 20), (131, 21)] [134, 331, 336] τ t508 := Fr_cell F485 M509 (by decide)
                            refine r_aload_n S dX12_line_308 rfl (lv_at hl 2 rfl) ?_
                            refine r_get (K := 38) (v := .ref (G.2.2.2.1 134)) S X510 (Nat.le_of_ble_eq_true rfl) rfl lk12_37_10 (fun _ => ⟨_, rfl, rfl⟩) dX12_line_309 ?_
                            refine r_iconst S dX12_line_312 (by decide) (fun v513 z514 => ?_)
                            have r515 := R_eq z514
                            refine r_dup2 S dX12_line_313 rfl rfl ?_
                            refine r_aldn (n := 125) (K := 41) S X510 (Nat.le_of_ble_eq_true rfl) rfl (fun _ => rfl) (ix_of r515 rfl) dX12_line_314 (fun v516 z517 => ?_)
                            have r519 := R_any v516
                            refine r_iconst S dX12_line_315 (by decide) (fun v520 z521 => ?_)
                            have r522 := R_eq z521
                            refine r_iadd S dX12_line_316 (fun v523 z524 => ?_)
                            have r525 := R_any v523
                            refine r_ast (n := 125) (K := 41) S X510 (Nat.le_of_ble_eq_true rfl) rfl (fun _ _ => rfl) (ix_of r515 rfl) dX12_line_317 (fun t526 H lc M527 X528 => ?_)
                            have I529 := Inv_mu I511 M527 (show Rg (kd 134) _ v523 from wrs (K := 41) (a := 4) (n := 1) (R_of r515 rfl) (R_of (lo := -2147483648) (hi := 2147483647) r525 rfl) (by decide +kernel))
                            have F530 : Fr [(131, 15), (131, 16), (131, 4), (131, 11), (131, 12), (131, 13), (131, 14), (131, 18), (131, 20), (131, 21)] [134, 331, 336] τ t526 := Fr_cell F512 M527 (by decide)
                            have hR531 : RM bb nb t526 ((stp bb nb (stp bb nb fs)).1, uki fs.2 g360 g417) := ⟨MT_fr hP419.2.1 ((M527.2 131 3 (Or.inl (by decide))).trans ((M509.2 131 3 (Or.inl (by decide))).trans ((M482.2 131 3 (Or.inl (by decide))).trans rfl))) ((M527.2 131 4 (Or.inl (by decide))).trans ((M509.2 131 4 (Or.inl (by decide))).trans ((M482.2 131 4 (Or.inl (by decide))).trans rfl))) ((M527.2 131 5 (Or.inl (by decide))).trans ((M509.2 131 5 (Or.inl (by decide))).trans ((M482.2 131 5 (Or.inl (by decide))).trans rfl))) ((M527.2 131 11 (Or.inl (by decide))).trans ((M509.2 131 11 (Or.inl (by decide))).trans ((M482.2 131 11 (Or.inl (by decide))).trans rfl))) ((M527.2 131 12 (Or.inl (by decide))).trans ((M509.2 131 12 (Or.inl (by decide))).trans ((M482.2 131 12 (Or.inl (by decide))).trans rfl))) ((M527.2 131 14 (Or.inl (by decide))).trans ((M509.2 131 14 (Or.inl (by decide))).trans ((M482.2 131 14 (Or.inl (by decide))).trans rfl))) (fun j => ((M527.2 132 j (Or.inl (by decide))).trans ((M509.2 132 j (Or.inl (by decide))).trans ((M482.2 132 j (Or.inl (by decide))).trans rfl)))) (fun j => ((M527.2 331 j (Or.inl (by decide))).trans ((M509.2 331 j (Or.inl (by decide))).trans ((M482.2 331 j (Or.inl (by decide))).trans rfl)))), RH_ki (s := fs.2) (k1 := v355) (k2 := v412) hP419.2.2.1 (show R 0 9 v355 from ⟨by omega, by omega⟩) (show R 0 9 v412 from ⟨by omega, by omega⟩) (by omega) (by omega) (by omega) M482 M509 M527 (by have c : v462.toNatClampNeg = v462.toInt.toNat := rfl; omega) (by have c : v489.toNatClampNeg = v489.toInt.toNat := rfl; omega) (by have c : v513.toNatClampNeg = v513.toInt.toNat := rfl; omega) z467 z494 (by rw [z478, z474, show v470 = 1 from Int32.toInt_inj.mp (by show v470.toInt = 1; omega)]) (by rw [z505, z501, show v497 = 1 from Int32.toInt_inj.mp (by show v497.toInt = 1; omega)]) (by rw [z524, show v520 = 1 from Int32.toInt_inj.mp (by show v520.toInt = 1; omega), show v516 = Int32.ofNat (gkn fs.2) from (by rw [← z517, show v513.toNatClampNeg = 4 by (have c : v513.toNatClampNeg = v513.toInt.toNat := rfl; omega)]; exact (((M509.2 134 4 (Or.inr (ixne r492 rfl))).trans ((M482.2 134 4 (Or.inr (ixne r465 rfl))).trans rfl))).trans hP419.2.2.1.2.2.2.2.1)]; exact (i32_succ _).symm), RS2_fr hP419.2.2.2 (fun j => ((M527.2 337 j (Or.inl (by decide))).trans ((M509.2 337 j (Or.inl (by decide))).trans ((M482.2 337 j (Or.inl (by decide))).trans rfl)))) (fun j => ((M527.2 336 j (Or.inl (by decide))).trans ((M509.2 336 j (Or.inl (by decide))).trans ((M482.2 336 j (Or.inl (by decide))).trans rfl))))⟩
                            refine r_aload_n S dX12_line_318 rfl (lv_at hl 2 rfl) ?_
                            refine r_kv (q_V (As := []) (rest := []) (K := 38) (ci := 10) S X528 (c_X12_skip_q l G t526 I529 bb nb 900 ((stp bb nb (stp bb nb fs)).1, uki fs.2 g360 g417).1.2.2 (MT_st hR531.1 (Or.inl (sLook_n e418).1)).1 (MT_st hR531.1 (Or.inl (sLook_n e418).1)).2.1 (MT_st hR531.1 (Or.inl (sLook_n e418).1)).2.2) ck12_186 (Nat.le_of_ble_eq_true rfl) rfl (fun _ => ⟨_, rfl⟩) ⟨_, _, rfl⟩ ⟨Nat.le_of_ble_eq_true rfl, Nat.le_of_ble_eq_true rfl⟩ rfl hl.1 rfl (Nat.le_of_ble_eq_true rfl) dX12_line_319 ⟨Nat.le_refl 0, Nat.le_refl 0⟩) X528 (fun t534 H lc q532 X533 => ?_)
                            unfold po_X12_skip_q at q532
                            obtain ⟨q535, q536, q537, q538, q539, q540, q541⟩ := q532
                            have F542 : Fr [(131, 15), (131, 16), (131, 4), (131, 11), (131, 12), (131, 13), (131, 14), (131, 18), (131, 20), (131, 21)] [134, 331, 336] τ t534 := Fr_call F530 q536 (by decide)
                            obtain ⟨v543, z544⟩ : ∃ x, t534 131 4 = x := ⟨_, rfl⟩
                            rw [z544] at q537
                            obtain ⟨v545, z546⟩ : ∃ x, t534 131 11 = x := ⟨_, rfl⟩
                            rw [z546] at q538
                            have e547 := congrArg Int32.toInt ((M527.2 131 4 (Or.inl (by decide))).trans ((M509.2 131 4 (Or.inl (by decide))).trans ((M482.2 131 4 (Or.inl (by decide))).trans ((q400 131 4 (by decide)).trans z378))))
                            have e548 := congrArg Int32.toInt z544
                            have e549 := congrArg Int32.toInt ((M527.2 131 4 (Or.inl (by decide))).trans ((M509.2 131 4 (Or.inl (by decide))).trans ((M482.2 131 4 (Or.inl (by decide))).trans ((q400 131 4 (by decide)).trans z378))))
                            have e550 := congrArg Int32.toInt z544
                            have e551 := congrArg Int32.toInt ((M527.2 131 11 (Or.inl (by decide))).trans ((M509.2 131 11 (Or.inl (by decide))).trans ((M482.2 131 11 (Or.inl (by decide))).trans ((q400 131 11 (by decide)).trans z380))))
                            have e552 := congrArg Int32.toInt z546
                            have hR553 : RM bb nb t534 (stp bb nb ((stp bb nb (stp bb nb fs)).1, uki fs.2 g360 g417)) := ⟨q541, RH_fr hR531.2.1 ((q536 131 20 (by decide)).trans rfl) (fun j _ => ((q536 134 j (by simp [fz])).trans rfl)) (fun j => ((q536 336 j (by simp [fz])).trans rfl)), RS2_fr hR531.2.2 (fun j => ((q536 337 j (by simp [fz])).trans rfl)) (fun j => ((q536 336 j (by simp [fz])).trans rfl))⟩
                            refine r_iconst S dX12_line_322 (by decide) (fun v554 z555 => ?_)
                            have r556 := R_eq z555
                            exact r_ret S hr hlk X533 ⟨q535, F542, (R_of r556 rfl), (fun h => (by rw [((q536 131 15 (by decide)).trans ((M527.2 131 15 (Or.inl (by decide))).trans ((M509.2 131 15 (Or.inl (by decide))).trans ((M482.2 131 15 (Or.inl (by decide))).trans z415))))]; exact R_of p411 rfl)), (by rw [z544]; exact R_of q537 rfl), (by rw [z546]; exact R_of q538 rfl), (by have h1_0 := congrArg Int32.toInt z544; have h2_0 := congrArg Int32.toInt z4; omega), (by have h1_0 := congrArg Int32.toInt z544; have h2_0 := congrArg Int32.toInt z4; omega), hR553.2.2.2, (QM_r ((sLine_7 p24 p36 p48 p60 p294 p306).trans (sKin_r e361 e418 (fun h => h.elim (fun h => by omega) (fun h => p457 (ho454.mpr h))))) (by omega) hR553)⟩ (nr_bool (R_of (lo := 0) (hi := 1) r556 rfl)) dX12_line_323
                          ·
                            exfalso; omega
                        ·
                          have r557 : R (1) (1) v450 := ⟨by omega, by omega⟩
                          have p558 := (q453).mp (by omega)
                          refine r_aload_n S dX12_line_244 rfl (lv_at hl 2 rfl) ?_
                          refine r_iconst S dX12_line_245 (by decide) (fun v559 z560 => ?_)
                          have r561 := R_eq z560
                          refine r_ki (q_V (As := [.int v559]) (rest := []) (K := 38) (ci := 10) S X448 (c_X12_bad_q l G t397 q399 v559 (R_of (lo := -2147483648) (hi := 2147483647) r561 rfl)) ck12_183 (Nat.le_of_ble_eq_true rfl) rfl (fun _ => ⟨_, rfl⟩) ⟨_, _, rfl⟩ ⟨Nat.le_of_ble_eq_true rfl, Nat.le_of_ble_eq_true rfl⟩ rfl hl.1 rfl (Nat.le_of_ble_eq_true rfl) dX12_line_246 ⟨Nat.le_refl 0, Nat.le_refl 0⟩) X448 (fun v565 t564 H lc q562 X563 => ?_)
                          unfold po_X12_bad_q at q562
                          obtain ⟨q566, q567, q568, q569⟩ := q562
                          have F570 : Fr [(131, 15), (131, 16), (131, 4), (131, 11), (131, 12), (131, 13), (131, 14), (131, 18), (131, 20), (131, 21)] [134, 331, 336] τ t564 := Fr_call F405 q567 (by decide)
                          exact r_ret S hr hlk X563 ⟨q566, F570, (R_of q568 rfl), (fun h => by exfalso; omega), (by rw [((q567 131 4 (by decide)).trans ((q400 131 4 (by decide)).trans z378))]; exact R_of q371 rfl), (by rw [((q567 131 11 (by decide)).trans ((q400 131 11 (by decide)).trans z380))]; exact R_of q372 rfl), (by have h1_0 := congrArg Int32.toInt ((q567 131 4 (by decide)).trans ((q400 131 4 (by decide)).trans z378)); have h2_0 := congrArg Int32.toInt z4; omega), (by have h1_0 := congrArg Int32.toInt ((q567 131 4 (by decide)).trans ((q400 131 4 (by decide)).trans z378)); have h2_0 := congrArg Int32.toInt z4; omega), (NB_fr hP419.2.2.2.2 (fun j => ((q567 336 j (by simp [fz])).trans rfl))), (QM_b ((sLine_7 p24 p36 p48 p60 p294 p306).trans (sKin_b e361 e418 (Or.inr (ho454.mp p558)))) (by omega) (by rw [q569.1]; omega) (by rw [q569.2]; exact RM_at hP419.2))⟩ (nr_bool (R_of (lo := 0) (hi := 1) q568 rfl)) dX12_line_249
                  ·
                    have r571 : R (0) (0) v398 := ⟨by omega, by omega⟩
                    have p572 := (QM_0 q404) (by omega)
                    obtain ⟨q573, e574, h575, h576⟩ := p572
                    refine r_iconst S dX12_line_211 (by decide) (fun v577 z578 => ?_)
                    have r579 := R_eq z578
                    exact r_ret S hr hlk X396 ⟨q399, F405, (R_of r579 rfl), (fun h => by exfalso; omega), (by rw [((q400 131 4 (by decide)).trans z378)]; exact R_of q371 rfl), (by rw [((q400 131 11 (by decide)).trans z380)]; exact R_of q372 rfl), (by have h1_0 := congrArg Int32.toInt ((q400 131 4 (by decide)).trans z378); have h2_0 := congrArg Int32.toInt z4; omega), (by have h1_0 := congrArg Int32.toInt ((q400 131 4 (by decide)).trans z378); have h2_0 := congrArg Int32.toInt z4; omega), (NB_fr hR387.2.2.2 (fun j => ((q400 336 j (by simp [fz])).trans rfl))), (QM_l ((sLine_7 p24 p36 p48 p60 p294 p306).trans (sKin_l2 e361 e574)) (by omega) h575 h576)⟩ (nr_bool (R_of (lo := 0) (hi := 1) r579 rfl)) dX12_line_212
                ·
                  exfalso; omega
              ·
                have r580 : R (0) (0) v341 := ⟨by omega, by omega⟩
                have p581 := (QM_0 q347) (by omega)
                obtain ⟨q582, e583, h584, h585⟩ := p581
                refine r_iconst S dX12_line_163 (by decide) (fun v586 z587 => ?_)
                have r588 := R_eq z587
                exact r_ret S hr hlk X339 ⟨q342, F348, (R_of r588 rfl), (fun h => by exfalso; omega), (by rw [((q343 131 4 (by decide)).trans z319)]; exact R_of q312 rfl), (by rw [((q343 131 11 (by decide)).trans z321)]; exact R_of q313 rfl), (by have h1_0 := congrArg Int32.toInt ((q343 131 4 (by decide)).trans z319); have h2_0 := congrArg Int32.toInt z4; omega), (by have h1_0 := congrArg Int32.toInt ((q343 131 4 (by decide)).trans z319); have h2_0 := congrArg Int32.toInt z4; omega), (NB_fr hR328.2.2.2 (fun j => ((q343 336 j (by simp [fz])).trans rfl))), (QM_l ((sLine_7 p24 p36 p48 p60 p294 p306).trans (sKin_l1 e583)) (by omega) h584 h585)⟩ (nr_bool (R_of (lo := 0) (hi := 1) r588 rfl)) dX12_line_164
            ·
              have r589 : R (0) (0) v300 := ⟨by omega, by omega⟩
              have p590 := (iff_n q303) (by omega)
              refine r_aload_n S dX12_line_138 rfl (lv_at hl 1 rfl) ?_
              refine r_iconst S dX12_line_139 (by decide) (fun v591 z592 => ?_)
              have r593 := R_eq z592
              refine r_ki (q_V (As := [.int v591]) (rest := []) (K := 38) (ci := 10) S X298 (c_X12_bad_q l G τ hI v591 (R_of (lo := -2147483648) (hi := 2147483647) r593 rfl)) ck12_183 (Nat.le_of_ble_eq_true rfl) rfl (fun _ => ⟨_, rfl⟩) ⟨_, _, rfl⟩ ⟨Nat.le_of_ble_eq_true rfl, Nat.le_of_ble_eq_true rfl⟩ rfl hl.1 rfl (Nat.le_of_ble_eq_true rfl) dX12_line_140 ⟨Nat.le_refl 0, Nat.le_refl 0⟩) X298 (fun v597 t596 H lc q594 X595 => ?_)
              unfold po_X12_bad_q at q594
              obtain ⟨q598, q599, q600, q601⟩ := q594
              have F602 : Fr [(131, 15), (131, 16), (131, 4), (131, 11), (131, 12), (131, 13), (131, 14), (131, 18), (131, 20), (131, 21)] [134, 331, 336] τ t596 := Fr_call Fr_rfl q599 (by decide)
              exact r_ret S hr hlk X595 ⟨q598, F602, (R_of q600 rfl), (fun h => by exfalso; omega), (by rw [((q599 131 4 (by decide)).trans z4)]; exact R_of r5 rfl), (by rw [((q599 131 11 (by decide)).trans z7)]; exact R_of r8 rfl), (by have h1_0 := congrArg Int32.toInt ((q599 131 4 (by decide)).trans z4); have h2_0 := congrArg Int32.toInt z4; omega), (by have h1_0 := congrArg Int32.toInt ((q599 131 4 (by decide)).trans z4); have h2_0 := congrArg Int32.toInt z4; omega), (NB_fr hR.2.2.2 (fun j => ((q599 336 j (by simp [fz])).trans rfl))), (QM_b (sLine_b p24 p36 p48 p60 p294 p590) (by omega) (by rw [q601.1]; omega) (by rw [q601.2]; exact RM_at hR))⟩ (nr_bool (R_of (lo := 0) (hi := 1) q600 rfl)) dX12_line_143
        ·
          have r603 : R (1) (1) v54 := ⟨by omega, by omega⟩
          have p604 := (q57).mp (by omega)
          refine r_aload_n S dX12_line_111 rfl (lv_at hl 0 rfl) ?_
          refine r_ki (q_V (As := []) (rest := []) (K := 38) (ci := 10) S X52 (c_X12_readMan_q l G τ hI (by rw [z2]; exact R_of hf_0 rfl) bb nb fs hR p604.1) ck12_231 (Nat.le_of_ble_eq_true rfl) rfl (fun _ => ⟨_, rfl⟩) ⟨_, _, rfl⟩ ⟨Nat.le_of_ble_eq_true rfl, Nat.le_of_ble_eq_true rfl⟩ rfl hl.1 rfl (Nat.le_of_ble_eq_true rfl) dX12_line_112 ⟨Nat.le_refl 0, Nat.le_refl 0⟩) X52 (fun v608 t607 H lc q605 X606 => ?_)
          unfold po_X12_readMan_q at q605
          obtain ⟨q609, q610, q611, q612, q613, q614, q615, q616, q617, q618⟩ := q605
          have F619 : Fr [(131, 15), (131, 16), (131, 4), (131, 11), (131, 12), (131, 13), (131, 14), (131, 18), (131, 20), (131, 21)] [134, 331, 336] τ t607 := Fr_call Fr_rfl q610 (by decide)
          obtain ⟨v620, z621⟩ : ∃ x, t607 131 4 = x := ⟨_, rfl⟩
          rw [z621] at q613
          obtain ⟨v622, z623⟩ : ∃ x, t607 131 11 = x := ⟨_, rfl⟩
          rw [z623] at q614
          have e624 := congrArg Int32.toInt z4
          have e625 := congrArg Int32.toInt z621
          have e626 := congrArg Int32.toInt z4
          have e627 := congrArg Int32.toInt z621
          exact r_ret S hr hlk X606 ⟨q609, F619, q611, (fun h => q612 h), (by rw [z621]; exact R_of q613 rfl), (by rw [z623]; exact R_of q614 rfl), (by have h1_0 := congrArg Int32.toInt z621; have h2_0 := congrArg Int32.toInt z4; omega), (by have h1_0 := congrArg Int32.toInt z621; have h2_0 := congrArg Int32.toInt z4; omega), q617, (by rw [(sLine_3 p24 p36 p48 p604)]; exact q618)⟩ (nr_bool (R_of (lo := 0) (hi := 1) q611 rfl)) dX12_line_115
      ·
        have r628 : R (1) (1) v42 := ⟨by omega, by omega⟩
        have p629 := (q45).mp (by omega)
        refine r_aload_n S dX12_line_50 rfl (lv_at hl 0 rfl) ?_
        refine r_get (K := 38) (v := .ref (G.2.2.2.1 134)) S X40 (Nat.le_of_ble_eq_true rfl) rfl lk12_37_10 (fun _ => ⟨_, rfl, rfl⟩) dX12_line_51 ?_
        refine r_iconst S dX12_line_54 (by decide) (fun v630 z631 => ?_)
        have r632 := R_eq z631
        refine r_aldn (n := 125) (K := 41) S X40 (Nat.le_of_ble_eq_true rfl) rfl (fun _ => rfl) (ix_of r632 rfl) dX12_line_55 (fun v633 z634 => ?_)
        have r635 : R (0) (9) v633 := rds (K := 41) (a := 0) (n := 1) hI rfl z634 (R_of r632 rfl) (by decide +kernel)
        refine r_bipush S dX12_line_56 (by decide) (fun v636 z637 => ?_)
        have r638 := R_eq z637
        have e639 := congrArg Int32.toInt (zc (n := 0) (by omega) z634)
        refine r_icmp_ne (tgt := 67) S dX12_line_58 (by decide) (fun c640 => ?_) (fun c640 => ?_)
        ·
          have r641 : R (0) (8) v633 := ⟨by omega, by omega⟩
          refine r_aload_n S dX12_line_67 rfl (lv_at hl 0 rfl) ?_
          refine r_kv (q_V (As := []) (rest := []) (K := 38) (ci := 10) S X40 (c_X12_skip_q l G τ hI bb nb 900 fs.1.2.2 (MT_st hR.1 (Or.inl p629.1)).1 (MT_st hR.1 (Or.inl p629.1)).2.1 (MT_st hR.1 (Or.inl p629.1)).2.2) ck12_186 (Nat.le_of_ble_eq_true rfl) rfl (fun _ => ⟨_, rfl⟩) ⟨_, _, rfl⟩ ⟨Nat.le_of_ble_eq_true rfl, Nat.le_of_ble_eq_true rfl⟩ rfl hl.1 rfl (Nat.le_of_ble_eq_true rfl) dX12_line_68 ⟨Nat.le_refl 0, Nat.le_refl 0⟩) X40 (fun t644 H lc q642 X643 => ?_)
          unfold po_X12_skip_q at q642
          obtain ⟨q645, q646, q647, q648, q649, q650, q651⟩ := q642
          have F652 : Fr [(131, 15), (131, 16), (131, 4), (131, 11), (131, 12), (131, 13), (131, 14), (131, 18), (131, 20), (131, 21)] [134, 331, 336] τ t644 := Fr_call Fr_rfl q646 (by decide)
          obtain ⟨v653, z654⟩ : ∃ x, t644 131 4 = x := ⟨_, rfl⟩
          rw [z654] at q647
          obtain ⟨v655, z656⟩ : ∃ x, t644 131 11 = x := ⟨_, rfl⟩
          rw [z656] at q648
          have e657 := congrArg Int32.toInt z4
          have e658 := congrArg Int32.toInt z654
          have e659 := congrArg Int32.toInt z4
          have e660 := congrArg Int32.toInt z654
          have e661 := congrArg Int32.toInt z7
          have e662 := congrArg Int32.toInt z656
          have hR663 : RM bb nb t644 (stp bb nb fs) := ⟨q651, RH_fr hR.2.1 ((q646 131 20 (by decide)).trans rfl) (fun j _ => ((q646 134 j (by simp [fz])).trans rfl)) (fun j => ((q646 336 j (by simp [fz])).trans rfl)), RS2_fr hR.2.2 (fun j => ((q646 337 j (by simp [fz])).trans rfl)) (fun j => ((q646 336 j (by simp [fz])).trans rfl))⟩
          refine r_aload_n S dX12_line_71 rfl (lv_at hl 0 rfl) ?_
          refine r_bipush S dX12_line_72 (by decide) (fun v664 z665 => ?_)
          have r666 := R_eq z665
          refine r_aload_n S dX12_line_74 rfl (lv_at hl 0 rfl) ?_
          refine r_get (K := 38) (v := .ref (G.2.2.2.1 134)) S X643 (Nat.le_of_ble_eq_true rfl) rfl lk12_37_10 (fun _ => ⟨_, rfl, rfl⟩) dX12_line_75 ?_
          refine r_iconst S dX12_line_78 (by decide) (fun v667 z668 => ?_)
          have r669 := R_eq z668
          refine r_aldi (x := v633) (n := 125) (K := 41) S X643 (Nat.le_of_ble_eq_true rfl) rfl (fun _ => rfl) (ix_of r669 rfl) (zc' (n := 0) (by omega) ((q646 134 0 (by decide)).trans (zc (n := 0) (by omega) z634))) dX12_line_79 ?_
          refine r_iadd S dX12_line_80 (fun v671 z672 => ?_)
          obtain ⟨e673, r674⟩ := i_add (lo := 19) (hi := 27) z672 r666 r641 rfl
          refine r_ki (q_V (As := [.int v671]) (rest := []) (K := 38) (ci := 10) S X643 (c_X12_fresh_q l G t644 q645 v671 (R_of (lo := 19) (hi := 37) r674 rfl) (by rw [((q646 131 15 (by decide)).trans z2)]; exact R_of hf_0 rfl) bb nb (stp bb nb fs) hR663 ⟨fun i hi => by have c : v671.toNatClampNeg = v671.toInt.toNat := rfl; have h9 : i < (gan fs.2).length := hi; omega, fun i hi => by have c : v671.toNatClampNeg = v671.toInt.toNat := rfl; have h9 : i < (gmn fs.2).length := hi; omega⟩) ck12_228 (Nat.le_of_ble_eq_true rfl) rfl (fun _ => ⟨_, rfl⟩) ⟨_, _, rfl⟩ ⟨Nat.le_of_ble_eq_true rfl, Nat.le_of_ble_eq_true rfl⟩ rfl hl.1 rfl (Nat.le_of_ble_eq_true rfl) dX12_line_81 ⟨Nat.le_refl 0, Nat.le_refl 0⟩) X643 (fun v678 t677 H lc q675 X676 => ?_)
          unfold po_X12_fresh_q at q675
          obtain ⟨q679, q680, q681, q682, q683, q684, q685, q686, q687, q688⟩ := q675
          have F689 : Fr [(131, 15), (131, 16), (131, 4), (131, 11), (131, 12), (131, 13), (131, 14), (131, 18), (131, 20), (131, 21)] [134, 331, 336] τ t677 := Fr_call F652 q680 (by decide)
          obtain ⟨v690, z691⟩ : ∃ x, t677 131 4 = x := ⟨_, rfl⟩
          rw [z691] at q683
          obtain ⟨v692, z693⟩ : ∃ x, t677 131 11 = x := ⟨_, rfl⟩
          rw [z693] at q684
          have e694 := congrArg Int32.toInt z654
          have e695 := congrArg Int32.toInt z691
          have e696 := congrArg Int32.toInt z656
          have e697 := congrArg Int32.toInt z693
          refine r_if_ne (tgt := 89) S dX12_line_84 (by decide) (fun c698 => ?_) (fun c698 => ?_)
          ·
            have r699 : R (1) (1) v678 := ⟨by omega, by omega⟩
            have p700 := q682 (by omega)
            obtain ⟨v701, z702⟩ : ∃ x, t677 131 15 = x := ⟨_, rfl⟩
            rw [z702] at p700
            have p703 := (QM_1 q688) (by omega)
            obtain ⟨g704, e705, hP706⟩ := p703
            refine r_aload_n S dX12_line_89 rfl (lv_at hl 0 rfl) ?_
            refine r_get (K := 38) (v := .ref (G.2.2.2.1 134)) S X676 (Nat.le_of_ble_eq_true rfl) rfl lk12_37_10 (fun _ => ⟨_, rfl, rfl⟩) dX12_line_90 ?_
            refine r_iconst S dX12_line_93 (by decide) (fun v707 z708 => ?_)
            have r709 := R_eq z708
            refine r_dup2 S dX12_line_94 rfl rfl ?_
            refine r_aldi (x := v633) (n := 125) (K := 41) S X676 (Nat.le_of_ble_eq_true rfl) rfl (fun _ => rfl) (ix_of r709 rfl) (zc' (n := 0) (by omega) ((q680 134 0 (by decide)).trans ((q646 134 0 (by decide)).trans (zc (n := 0) (by omega) z634)))) dX12_line_95 ?_
            refine r_iconst S dX12_line_96 (by decide) (fun v711 z712 => ?_)
            have r713 := R_eq z712
            refine r_iadd S dX12_line_97 (fun v714 z715 => ?_)
            obtain ⟨e716, r717⟩ := i_add (lo := 1) (hi := 9) z715 r641 r713 rfl
            refine r_ast (n := 125) (K := 41) S X676 (Nat.le_of_ble_eq_true rfl) rfl (fun _ _ => rfl) (ix_of r709 rfl) dX12_line_98 (fun t718 H lc M719 X720 => ?_)
            have I721 := Inv_mu q679 M719 (show Rg (kd 134) _ v714 from wrs (K := 41) (a := 0) (n := 1) (R_of r709 rfl) (R_of (lo := 0) (hi := 9) r717 rfl) (by decide +kernel))
            have F722 : Fr [(131, 15), (131, 16), (131, 4), (131, 11), (131, 12), (131, 13), (131, 14), (131, 18), (131, 20), (131, 21)] [134, 331, 336] τ t718 := Fr_cell F689 M719 (by decide)
            have hR723 : RM bb nb t718 ((stp bb nb (stp bb nb fs)).1, uan fs.2 (wrd bb (stp bb nb fs).1)) := ⟨MT_fr hP706.1.1 ((M719.2 131 3 (Or.inl (by decide))).trans rfl) ((M719.2 131 4 (Or.inl (by decide))).trans rfl) ((M719.2 131 5 (Or.inl (by decide))).trans rfl) ((M719.2 131 11 (Or.inl (by decide))).trans rfl) ((M719.2 131 12 (Or.inl (by decide))).trans rfl) ((M719.2 131 14 (Or.inl (by decide))).trans rfl) (fun j => ((M719.2 132 j (Or.inl (by decide))).trans rfl)) (fun j => ((M719.2 331 j (Or.inl (by decide))).trans rfl)), RH_an (s := fs.2) hP706.1.2.1 M719 (by have c : v707.toNatClampNeg = v707.toInt.toNat := rfl; omega) (by rw [show 19 + (gan fs.2).length = v671.toInt.toNat by omega]; exact hP706.2.1) (MT_low hR663.1 (hP706.2.2).1).1 (by omega), RS2_fr hP706.1.2.2 (fun j => ((M719.2 337 j (Or.inl (by decide))).trans rfl)) (fun j => ((M719.2 336 j (Or.inl (by decide))).trans rfl))⟩
            refine r_iconst S dX12_line_99 (by decide) (fun v724 z725 => ?_)
            have r726 := R_eq z725
            exact r_ret S hr hlk X720 ⟨I721, F722, (R_of r726 rfl), (fun h => (by rw [((M719.2 131 15 (Or.inl (by decide))).trans z702)]; exact R_of p700 rfl)), (by rw [((M719.2 131 4 (Or.inl (by decide))).trans z691)]; exact R_of q683 rfl), (by rw [((M719.2 131 11 (Or.inl (by decide))).trans z693)]; exact R_of q684 rfl), (by have h1_0 := congrArg Int32.toInt ((M719.2 131 4 (Or.inl (by decide))).trans z691); have h2_0 := congrArg Int32.toInt z4; omega), (by have h1_0 := congrArg Int32.toInt ((M719.2 131 4 (Or.inl (by decide))).trans z691); have h2_0 := congrArg Int32.toInt z4; omega), hR723.2.2.2, (QM_r ((sLine_2 p24 p36 p629).trans (sAsk_r (by omega) e705)) (by omega) hR723)⟩ (nr_bool (R_of (lo := 0) (hi := 1) r726 rfl)) dX12_line_100
          ·
            have r727 : R (0) (0) v678 := ⟨by omega, by omega⟩
            have p728 := (QM_0 q688) (by omega)
            obtain ⟨q729, e730, h731, h732⟩ := p728
            refine r_iconst S dX12_line_87 (by decide) (fun v733 z734 => ?_)
            have r735 := R_eq z734
            exact r_ret S hr hlk X676 ⟨q679, F689, (R_of r735 rfl), (fun h => by exfalso; omega), (by rw [z691]; exact R_of q683 rfl), (by rw [z693]; exact R_of q684 rfl), (by have h1_0 := congrArg Int32.toInt z691; have h2_0 := congrArg Int32.toInt z4; omega), (by have h1_0 := congrArg Int32.toInt z691; have h2_0 := congrArg Int32.toInt z4; omega), q687, (QM_l ((sLine_2 p24 p36 p629).trans (sAsk_l (by omega) e730)) (by omega) h731 h732)⟩ (nr_bool (R_of (lo := 0) (hi := 1) r735 rfl)) dX12_line_88
        ·
          have r736 : R (9) (9) v633 := ⟨by omega, by omega⟩
          refine r_aload_n S dX12_line_61 rfl (lv_at hl 0 rfl) ?_
          refine r_iconst S dX12_line_62 (by decide) (fun v737 z738 => ?_)
          have r739 := R_eq z738
          refine r_ki (q_V (As := [.int v737]) (rest := []) (K := 38) (ci := 10) S X40 (c_X12_bad_q l G τ hI v737 (R_of (lo := -2147483648) (hi := 2147483647) r739 rfl)) ck12_183 (Nat.le_of_ble_eq_true rfl) rfl (fun _ => ⟨_, rfl⟩) ⟨_, _, rfl⟩ ⟨Nat.le_of_ble_eq_true rfl, Nat.le_of_ble_eq_true rfl⟩ rfl hl.1 rfl (Nat.le_of_ble_eq_true rfl) dX12_line_63 ⟨Nat.le_refl 0, Nat.le_refl 0⟩) X40 (fun v743 t742 H lc q740 X741 => ?_)
          unfold po_X12_bad_q at q740
          obtain ⟨q744, q745, q746, q747⟩ := q740
          have F748 : Fr [(131, 15), (131, 16), (131, 4), (131, 11), (131, 12), (131, 13), (131, 14), (131, 18), (131, 20), (131, 21)] [134, 331, 336] τ t742 := Fr_call Fr_rfl q745 (by decide)
          exact r_ret S hr hlk X741 ⟨q744, F748, (R_of q746 rfl), (fun h => by exfalso; omega), (by rw [((q745 131 4 (by decide)).trans z4)]; exact R_of r5 rfl), (by rw [((q745 131 11 (by decide)).trans z7)]; exact R_of r8 rfl), (by have h1_0 := congrArg Int32.toInt ((q745 131 4 (by decide)).trans z4); have h2_0 := congrArg Int32.toInt z4; omega), (by have h1_0 := congrArg Int32.toInt ((q745 131 4 (by decide)).trans z4); have h2_0 := congrArg Int32.toInt z4; omega), (NB_fr hR.2.2.2 (fun j => ((q745 336 j (by simp [fz])).trans rfl))), (QM_b ((sLine_2 p24 p36 p629).trans (sAsk_b (by omega))) (by omega) (by rw [q747.1]; omega) (by rw [q747.2]; exact RM_at hR))⟩ (nr_bool (R_of (lo := 0) (hi := 1) q746 rfl)) dX12_line_66
    ·
      have r749 : R (1) (1) v30 := ⟨by omega, by omega⟩
      have p750 := (q33).mp (by omega)
      refine r_aload_n S dX12_line_30 rfl (lv_at hl 0 rfl) ?_
      refine r_iconst S dX12_line_31 (by decide) (fun v751 z752 => ?_)
      have r753 := R_eq z752
      refine r_iconst S dX12_line_32 (by decide) (fun v754 z755 => ?_)
      have r756 := R_eq z755
      refine r_iconst S dX12_line_33 (by decide) (fun v757 z758 => ?_)
      have r759 := R_eq z758
      refine r_bipush S dX12_line_34 (by decide) (fun v760 z761 => ?_)
      have r762 := R_eq z761
      refine r_ki (q_V (As := [.int v751, .int v754, .int v757, .int v760]) (rest := []) (K := 38) (ci := 10) S X28 (c_X12_once_q1 l G τ hI v751 v754 v757 v760 r753 r756 r759 r762 (by rw [z2]; exact R_of hf_0 rfl) bb nb fs hR p750) ck12_224 (Nat.le_of_ble_eq_true rfl) rfl (fun _ => ⟨_, rfl⟩) ⟨_, _, rfl⟩ ⟨Nat.le_of_ble_eq_true rfl, Nat.le_of_ble_eq_true rfl⟩ rfl hl.1 rfl (Nat.le_of_ble_eq_true rfl) dX12_line_36 ⟨Nat.le_refl 0, Nat.le_refl 0⟩) X28 (fun v766 t765 H lc q763 X764 => ?_)
      unfold po_X12_once_q1 at q763
      obtain ⟨q767, q768, q769, q770, q771, q772, q773, q774, q775⟩ := q763
      have F776 : Fr [(131, 15), (131, 16), (131, 4), (131, 11), (131, 12), (131, 13), (131, 14), (131, 18), (131, 20), (131, 21)] [134, 331, 336] τ t765 := Fr_call Fr_rfl q768 (by decide)
      obtain ⟨v777, z778⟩ : ∃ x, t765 131 4 = x := ⟨_, rfl⟩
      rw [z778] at q771
      obtain ⟨v779, z780⟩ : ∃ x, t765 131 11 = x := ⟨_, rfl⟩
      rw [z780] at q772
      have e781 := congrArg Int32.toInt z4
      have e782 := congrArg Int32.toInt z778
      have e783 := congrArg Int32.toInt z4
      have e784 := congrArg Int32.toInt z778
      exact r_ret S hr hlk X764 ⟨q767, F776, q769, (fun h => q770 h), (by rw [z778]; exact R_of q771 rfl), (by rw [z780]; exact R_of q772 rfl), (by have h1_0 := congrArg Int32.toInt z778; have h2_0 := congrArg Int32.toInt z4; omega), (by have h1_0 := congrArg Int32.toInt z778; have h2_0 := congrArg Int32.toInt z4; omega), (NB_fr hR.2.2.2 (fun j => ((q768 336 j (by simp [fz])).trans rfl))), (by rw [(sLine_1 p24 p750)]; exact q775)⟩ (nr_bool (R_of (lo := 0) (hi := 1) q769 rfl)) dX12_line_39
  ·
    have r785 : R (1) (1) v18 := ⟨by omega, by omega⟩
    have p786 := (q21).mp (by omega)
    refine r_aload_n S dX12_line_10 rfl (lv_at hl 0 rfl) ?_
    refine r_iconst S dX12_line_11 (by decide) (fun v787 z788 => ?_)
    have r789 := R_eq z788
    refine r_iconst S dX12_line_12 (by decide) (fun v790 z791 => ?_)
    have r792 := R_eq z791
    refine r_iconst S dX12_line_13 (by decide) (fun v793 z794 => ?_)
    have r795 := R_eq z794
    refine r_bipush S dX12_line_14 (by decide) (fun v796 z797 => ?_)
    have r798 := R_eq z797
    refine r_ki (q_V (As := [.int v787, .int v790, .int v793, .int v796]) (rest := []) (K := 38) (ci := 10) S X16 (c_X12_once_q0 l G τ hI v787 v790 v793 v796 r789 r792 r795 r798 (by rw [z2]; exact R_of hf_0 rfl) bb nb fs hR p786) ck12_224 (Nat.le_of_ble_eq_true rfl) rfl (fun _ => ⟨_, rfl⟩) ⟨_, _, rfl⟩ ⟨Nat.le_of_ble_eq_true rfl, Nat.le_of_ble_eq_true rfl⟩ rfl hl.1 rfl (Nat.le_of_ble_eq_true rfl) dX12_line_16 ⟨Nat.le_refl 0, Nat.le_refl 0⟩) X16 (fun v802 t801 H lc q799 X800 => ?_)
    unfold po_X12_once_q0 at q799
    obtain ⟨q803, q804, q805, q806, q807, q808, q809, q810, q811⟩ := q799
    have F812 : Fr [(131, 15), (131, 16), (131, 4), (131, 11), (131, 12), (131, 13), (131, 14), (131, 18), (131, 20), (131, 21)] [134, 331, 336] τ t801 := Fr_call Fr_rfl q804 (by decide)
    obtain ⟨v813, z814⟩ : ∃ x, t801 131 4 = x := ⟨_, rfl⟩
    rw [z814] at q807
    obtain ⟨v815, z816⟩ : ∃ x, t801 131 11 = x := ⟨_, rfl⟩
    rw [z816] at q808
    have e817 := congrArg Int32.toInt z4
    have e818 := congrArg Int32.toInt z814
    have e819 := congrArg Int32.toInt z4
    have e820 := congrArg Int32.toInt z814
    exact r_ret S hr hlk X800 ⟨q803, F812, q805, (fun h => q806 h), (by rw [z814]; exact R_of q807 rfl), (by rw [z816]; exact R_of q808 rfl), (by have h1_0 := congrArg Int32.toInt z814; have h2_0 := congrArg Int32.toInt z4; omega), (by have h1_0 := congrArg Int32.toInt z814; have h2_0 := congrArg Int32.toInt z4; omega), (NB_fr hR.2.2.2 (fun j => ((q804 336 j (by simp [fz])).trans rfl))), (by rw [(sLine_0  p786)]; exact q811)⟩ (nr_bool (R_of (lo := 0) (hi := 1) q805 rfl)) dX12_line_19
