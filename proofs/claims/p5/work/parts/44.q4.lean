def po_X11_bit_q (τ : Tau)  (a0 a1 : Int32)   (r : Int32) (u : Tau) : Prop := u = τ ∧ R (0) (1) r ∧ (r.toInt = 1 ↔ kb a0 a1.toInt.toNat)
set_option maxHeartbeats 4000000 in
set_option maxRecDepth 100000 in
theorem c_X11_bit_q (l : Launch) (G : Gx) (τ : Tau) (hI : Inv τ) (a0 : Int32) (a1 : Int32) (h_a0 : R (0) (1023) a0) (h_a1 : R (0) (9) a1) : Ci l G yX11_bit cX11_bit 2 (some .int) 0 0 [.int a0, .int a1] τ (po_X11_bit_q τ  a0 a1  ) := by
  unfold Ci
  refine C_of (own := RX11) (by decide) rfl (Nat.le_of_ble_eq_true rfl) ?_
  intro p e s m below meth c ls S hr hlk X hl
  have hl : lv_has ls 2 [(0, .int a0), (1, .int a1)] := hl
  refine r_iload_n S dX11_bit_0 rfl (lv_at hl 0 rfl) ?_
  refine r_iload_n S dX11_bit_1 rfl (lv_at hl 1 rfl) ?_
  refine r_ishr S dX11_bit_2 (fun v1 z2 => ?_)
  have r4 : R (0) (1023) v1 := i_shr z2 h_a0 h_a1 rfl
  refine r_iconst S dX11_bit_3 (by decide) (fun v5 z6 => ?_)
  have r7 := R_eq z6
  refine r_iand S dX11_bit_4 (fun v8 z9 => ?_)
  have r11 : R (0) (1) v8 := i_and2 z9 r4 r7 rfl
  have e12 := i_andle z9 r4 rfl
  exact r_ret S hr hlk X ⟨rfl, r11, (bit_q z2 (by omega) z9 h_a1)⟩ rfl dX11_bit_5
def po_X0_readChild_q (τ : Tau)    (bb : Nat → Int) (nb : Nat) (fs : FS) (r : Int32) (u : Tau) : Prop := Inv u ∧ Fr [(3, 1), (3, 2), (1, 3), (1, 4), (1, 5), (1, 7), (1, 8)] [6, 201] τ u ∧ R (0) (1) r ∧ (r.toInt = 1 → R (0) (0) (u 3 1)) ∧ QX (sChild bb nb fs) r u (fun g => RC bb nb u g)
set_option maxHeartbeats 4000000 in
set_option maxRecDepth 100000 in
theorem c_X0_readChild_q (l : Launch) (G : Gx) (τ : Tau) (hI : Inv τ) (hf_0 : R (0) (0) (τ 3 1)) (bb : Nat → Int) (nb : Nat) (fs : FS) (hR : RC bb nb τ fs) (hW : fs.1.1 = 1) : Ci l G yX0_readChild cX0_readChild 2 (some .boolean) 2 44 [.ref (G.2.2.2.1 3)] τ (po_X0_readChild_q τ    bb nb fs) := by
  unfold Ci
  refine C_of (own := RX0) (by decide) rfl (Nat.le_of_ble_eq_true rfl) ?_
  intro p e s m below meth c ls S hr hlk X hl
  have hl : lv_has ls 2 [(0, .ref (G.2.2.2.1 3))] := hl
  obtain ⟨v1, z2⟩ : ∃ x, τ 3 1 = x := ⟨_, rfl⟩
  rw [z2] at hf_0
  refine r_aload_n S dX0_readChild_0 rfl (lv_at hl 0 rfl) ?_
  refine r_get (K := 3) (v := .ref (G.2.2.2.1 1)) S X (Nat.le_of_ble_eq_true rfl) rfl lk0_38_0 (fun _ => ⟨_, rfl, rfl⟩) dX0_readChild_1 ?_
  refine r_kv (q_V (As := []) (rest := []) (K := 1) (ci := 7) S X (c_X7_step_q l G τ hI bb nb 900 fs.1.2.2 (RT_st hR.1 (Or.inl hW)).1 (RT_st hR.1 (Or.inl hW)).2.1 (RT_st hR.1 (Or.inl hW)).2.2) ck0_102 (Nat.le_of_ble_eq_true rfl) rfl (fun _ => ⟨_, rfl⟩) ⟨_, _, rfl⟩ ⟨Nat.le_of_ble_eq_true rfl, Nat.le_of_ble_eq_true rfl⟩ rfl hl.1 rfl (Nat.le_of_ble_eq_true rfl) dX0_readChild_4 ⟨Nat.le_refl 0, Nat.le_refl 0⟩) X (fun t5 H lc q3 X4 => ?_)
  unfold po_X7_step_q at q3
  obtain ⟨q6, q7, q8⟩ := q3
  have F9 : Fr [(3, 1), (3, 2), (1, 3), (1, 4), (1, 5), (1, 7), (1, 8)] [6, 201] τ t5 := Fr_call Fr_rfl q7 (by decide)
  have hR10 : RC bb nb t5 (stp bb nb fs) := ⟨q8, RP_fr hR.2 ((q7 3 5 (by decide)).trans rfl) ((q7 3 6 (by decide)).trans rfl) (fun j => ((q7 4 j (by simp [fz])).trans rfl)) (fun j => ((q7 6 j (by simp [fz])).trans rfl)) (fun j => ((q7 7 j (by simp [fz])).trans rfl)) (fun j => ((q7 8 j (by simp [fz])).trans rfl)) (fun j => ((q7 209 j (by simp [fz])).trans rfl)) (fun j => ((q7 210 j (by simp [fz])).trans rfl))⟩
  refine r_aload_n S dX0_readChild_7 rfl (lv_at hl 0 rfl) ?_
  refine r_aload_n S dX0_readChild_8 rfl (lv_at hl 0 rfl) ?_
  refine r_get (K := 3) (v := .ref (G.2.2.2.1 4)) S X4 (Nat.le_of_ble_eq_true rfl) rfl lk0_14_0 (fun _ => ⟨_, rfl, rfl⟩) dX0_readChild_9 ?_
  refine r_ki (q_U (As := [.ref (G.2.2.2.1 4)]) (rest := []) (K := 3) (ci := 0) S X4 (c_X8_seeMan_q l G t5 q6 (by rw [((q7 3 1 (by decide)).trans z2)]; exact R_of hf_0 rfl) bb nb (stp bb nb fs) hR10 ) ck0_169_0 (Nat.le_of_ble_eq_true rfl) rfl (fun _ => ⟨_, rfl⟩) ⟨_, _, rfl⟩ ⟨Nat.le_of_ble_eq_true rfl, Nat.le_of_ble_eq_true rfl⟩ rfl hl.1 rfl (Nat.le_of_ble_eq_true rfl) dX0_readChild_12 ⟨Nat.le_refl 0, Nat.le_refl 0⟩) X4 (fun v14 t13 H lc q11 X12 => ?_)
  unfold po_X8_seeMan_q at q11
  obtain ⟨q15, q16, q17, q18, q19⟩ := q11
  have F20 : Fr [(3, 1), (3, 2), (1, 3), (1, 4), (1, 5), (1, 7), (1, 8)] [6, 201] τ t13 := Fr_call F9 q16 (by decide)
  refine r_if_ne (tgt := 20) S dX0_readChild_15 (by decide) (fun c21 => ?_) (fun c21 => ?_)
  ·
    have r22 : R (1) (1) v14 := ⟨by omega, by omega⟩
    obtain ⟨p23, p24⟩ := q18 (by omega)
    obtain ⟨v25, z26⟩ : ∃ x, t13 3 2 = x := ⟨_, rfl⟩
    rw [z26] at p23
    obtain ⟨v27, z28⟩ : ∃ x, t13 3 1 = x := ⟨_, rfl⟩
    rw [z28] at p24
    have p29 := (QX_1 q19) (by omega)
    obtain ⟨g30, e31, hP32⟩ := p29
    refine r_aload_n S dX0_readChild_20 rfl (lv_at hl 0 rfl) ?_
    refine r_geti (K := 3) S X12 (Nat.le_of_ble_eq_true rfl) rfl lk0_109_0 (fun _ => ⟨_, rfl, rfl⟩) z26 dX0_readChild_21 ?_
    have e33 : v25.toInt = g30 := by rw [← z26]; exact hP32.1
    have e34 := sLook_x e31
    refine r_istore_n (lv' := [(1, .int v25), (0, .ref (G.2.2.2.1 3))]) S dX0_readChild_24 rfl hl (by decide) rfl (fun ls hl => ?_)
    refine r_aload_n S dX0_readChild_25 rfl (lv_at hl 1 rfl) ?_
    refine r_get (K := 3) (v := .ref (G.2.2.2.1 4)) S X12 (Nat.le_of_ble_eq_true rfl) rfl lk0_14_0 (fun _ => ⟨_, rfl, rfl⟩) dX0_readChild_26 ?_
    refine r_get (K := 4) (v := .ref (G.2.2.2.1 6)) S X12 (Nat.le_of_ble_eq_true rfl) rfl lk0_172_2 (fun _ => ⟨_, rfl, rfl⟩) dX0_readChild_29 ?_
    refine r_iload_n S dX0_readChild_32 rfl (lv_at hl 0 rfl) ?_
    refine r_aldn (n := 10) (K := 6) S X12 (Nat.le_of_ble_eq_true rfl) rfl (fun _ => rfl) (ix_of p23 rfl) dX0_readChild_33 (fun v35 z36 => ?_)
    have r37 : R (-1) (9) v35 := rd q15 rfl z36
    have e39 : t13 6 g30 = v35 := by rw [show g30 = v25.toNatClampNeg by (have c : v25.toNatClampNeg = v25.toInt.toNat := rfl; omega)]; exact z36
    have ho38 : (v35.toInt ≠ -1 ↔ gpa fs.2 g30 = true) := by have q := RP_par hP32.2.2 (i := g30) (by omega); rw [show t13 6 g30 = v35 by assumption] at q; exact q
    refine r_iconst S dX0_readChild_34 (by decide) (fun v40 z41 => ?_)
    have r42 := R_eq z41
    refine r_icmp_eq (tgt := 44) S dX0_readChild_35 (by decide) (fun c43 => ?_) (fun c43 => ?_)
    ·
      have r44 : R (-1) (-1) v35 := ⟨by omega, by omega⟩
      refine r_aload_n S dX0_readChild_44 rfl (lv_at hl 1 rfl) ?_
      refine r_get (K := 3) (v := .ref (G.2.2.2.1 1)) S X12 (Nat.le_of_ble_eq_true rfl) rfl lk0_38_0 (fun _ => ⟨_, rfl, rfl⟩) dX0_readChild_45 ?_
      refine r_kv (q_V (As := []) (rest := []) (K := 1) (ci := 7) S X12 (c_X7_step_q l G t13 q15 bb nb 900 (stp bb nb fs).1.2.2 (RT_st hP32.2.1 (Or.inl (sLook_n e31).1)).1 (RT_st hP32.2.1 (Or.inl (sLook_n e31).1)).2.1 (RT_st hP32.2.1 (Or.inl (sLook_n e31).1)).2.2) ck0_102 (Nat.le_of_ble_eq_true rfl) rfl (fun _ => ⟨_, rfl⟩) ⟨_, _, rfl⟩ ⟨Nat.le_of_ble_eq_true rfl, Nat.le_of_ble_eq_true rfl⟩ rfl hl.1 rfl (Nat.le_of_ble_eq_true rfl) dX0_readChild_48 ⟨Nat.le_refl 0, Nat.le_refl 0⟩) X12 (fun t47 H lc q45 X46 => ?_)
      unfold po_X7_step_q at q45
      obtain ⟨q48, q49, q50⟩ := q45
      have F51 : Fr [(3, 1), (3, 2), (1, 3), (1, 4), (1, 5), (1, 7), (1, 8)] [6, 201] τ t47 := Fr_call F20 q49 (by decide)
      have hR52 : RC bb nb t47 (stp bb nb (stp bb nb fs)) := ⟨q50, RP_fr hP32.2.2 ((q49 3 5 (by decide)).trans rfl) ((q49 3 6 (by decide)).trans rfl) (fun j => ((q49 4 j (by simp [fz])).trans rfl)) (fun j => ((q49 6 j (by simp [fz])).trans rfl)) (fun j => ((q49 7 j (by simp [fz])).trans rfl)) (fun j => ((q49 8 j (by simp [fz])).trans rfl)) (fun j => ((q49 209 j (by simp [fz])).trans rfl)) (fun j => ((q49 210 j (by simp [fz])).trans rfl))⟩
      refine r_aload_n S dX0_readChild_51 rfl (lv_at hl 1 rfl) ?_
      refine r_aload_n S dX0_readChild_52 rfl (lv_at hl 1 rfl) ?_
      refine r_get (K := 3) (v := .ref (G.2.2.2.1 4)) S X46 (Nat.le_of_ble_eq_true rfl) rfl lk0_14_0 (fun _ => ⟨_, rfl, rfl⟩) dX0_readChild_53 ?_
      refine r_ki (q_U (As := [.ref (G.2.2.2.1 4)]) (rest := []) (K := 3) (ci := 0) S X46 (c_X8_seeMan_q l G t47 q48 (by rw [((q49 3 1 (by decide)).trans z28)]; exact R_of p24 rfl) bb nb (stp bb nb (stp bb nb fs)) hR52 ) ck0_169_0 (Nat.le_of_ble_eq_true rfl) rfl (fun _ => ⟨_, rfl⟩) ⟨_, _, rfl⟩ ⟨Nat.le_of_ble_eq_true rfl, Nat.le_of_ble_eq_true rfl⟩ rfl hl.1 rfl (Nat.le_of_ble_eq_true rfl) dX0_readChild_56 ⟨Nat.le_refl 0, Nat.le_refl 0⟩) X46 (fun v56 t55 H lc q53 X54 => ?_)
      unfold po_X8_seeMan_q at q53
      obtain ⟨q57, q58, q59, q60, q61⟩ := q53
      have F62 : Fr [(3, 1), (3, 2), (1, 3), (1, 4), (1, 5), (1, 7), (1, 8)] [6, 201] τ t55 := Fr_call F51 q58 (by decide)
      refine r_if_ne (tgt := 64) S dX0_readChild_59 (by decide) (fun c63 => ?_) (fun c63 => ?_)
      ·
        have r64 : R (1) (1) v56 := ⟨by omega, by omega⟩
        obtain ⟨p65, p66⟩ := q60 (by omega)
        obtain ⟨v67, z68⟩ : ∃ x, t55 3 2 = x := ⟨_, rfl⟩
        rw [z68] at p65
        obtain ⟨v69, z70⟩ : ∃ x, t55 3 1 = x := ⟨_, rfl⟩
        rw [z70] at p66
        have p71 := (QX_1 q61) (by omega)
        obtain ⟨g72, e73, hP74⟩ := p71
        refine r_aload_n S dX0_readChild_64 rfl (lv_at hl 1 rfl) ?_
        refine r_geti (K := 3) S X54 (Nat.le_of_ble_eq_true rfl) rfl lk0_109_0 (fun _ => ⟨_, rfl, rfl⟩) z68 dX0_readChild_65 ?_
        have e75 : v67.toInt = g72 := by rw [← z68]; exact hP74.1
        have e76 := sLook_x e73
        refine r_iload_n S dX0_readChild_68 rfl (lv_at hl 0 rfl) ?_
        refine r_icmp_ne (tgt := 78) S dX0_readChild_69 (by decide) (fun c77 => ?_) (fun c77 => ?_)
        ·
          refine r_aload_n S dX0_readChild_78 rfl (lv_at hl 1 rfl) ?_
          refine r_get (K := 3) (v := .ref (G.2.2.2.1 4)) S X54 (Nat.le_of_ble_eq_true rfl) rfl lk0_14_0 (fun _ => ⟨_, rfl, rfl⟩) dX0_readChild_79 ?_
          refine r_get (K := 4) (v := .ref (G.2.2.2.1 6)) S X54 (Nat.le_of_ble_eq_true rfl) rfl lk0_172_2 (fun _ => ⟨_, rfl, rfl⟩) dX0_readChild_82 ?_
          refine r_iload_n S dX0_readChild_85 rfl (lv_at hl 0 rfl) ?_
          refine r_aload_n S dX0_readChild_86 rfl (lv_at hl 1 rfl) ?_
          refine r_geti (K := 3) S X54 (Nat.le_of_ble_eq_true rfl) rfl lk0_109_0 (fun _ => ⟨_, rfl, rfl⟩) z68 dX0_readChild_87 ?_
          refine r_ast (n := 10) (K := 6) S X54 (Nat.le_of_ble_eq_true rfl) rfl (fun _ _ => rfl) (ix_of p23 rfl) dX0_readChild_90 (fun t78 H lc M79 X80 => ?_)
          have I81 := Inv_mu q57 M79 (show Rg (kd 6) _ v67 from (R_of (lo := -1) (hi := 9) p65 rfl))
          have F82 : Fr [(3, 1), (3, 2), (1, 3), (1, 4), (1, 5), (1, 7), (1, 8)] [6, 201] τ t78 := Fr_cell F62 M79 (by decide)
          have hR83 : RC bb nb t78 ((stp bb nb (stp bb nb fs)).1, upa fs.2 g30) := ⟨RT_fr hP74.2.1 (fun j => ((M79.2 1 j (Or.inl (by decide))).trans rfl)) (fun j => ((M79.2 2 j (Or.inl (by decide))).trans rfl)) (fun j => ((M79.2 201 j (Or.inl (by decide))).trans rfl)), (by have q := RP_pa hP74.2.2 M79 (by omega); rw [show v25.toNatClampNeg = g30 by (have c : v25.toNatClampNeg = v25.toInt.toNat := rfl; omega)] at q; exact q)⟩
          refine r_aload_n S dX0_readChild_91 rfl (lv_at hl 1 rfl) ?_
          refine r_get (K := 3) (v := .ref (G.2.2.2.1 1)) S X80 (Nat.le_of_ble_eq_true rfl) rfl lk0_38_0 (fun _ => ⟨_, rfl, rfl⟩) dX0_readChild_92 ?_
          refine r_kv (q_V (As := []) (rest := []) (K := 1) (ci := 7) S X80 (c_X7_step_q l G t78 I81 bb nb 900 ((stp bb nb (stp bb nb fs)).1, upa fs.2 g30).1.2.2 (RT_st hR83.1 (Or.inl (sLook_n e73).1)).1 (RT_st hR83.1 (Or.inl (sLook_n e73).1)).2.1 (RT_st hR83.1 (Or.inl (sLook_n e73).1)).2.2) ck0_102 (Nat.le_of_ble_eq_true rfl) rfl (fun _ => ⟨_, rfl⟩) ⟨_, _, rfl⟩ ⟨Nat.le_of_ble_eq_true rfl, Nat.le_of_ble_eq_true rfl⟩ rfl hl.1 rfl (Nat.le_of_ble_eq_true rfl) dX0_readChild_95 ⟨Nat.le_refl 0, Nat.le_refl 0⟩) X80 (fun t86 H lc q84 X85 => ?_)
          unfold po_X7_step_q at q84
          obtain ⟨q87, q88, q89⟩ := q84
          have F90 : Fr [(3, 1), (3, 2), (1, 3), (1, 4), (1, 5), (1, 7), (1, 8)] [6, 201] τ t86 := Fr_call F82 q88 (by decide)
          have hR91 : RC bb nb t86 (stp bb nb ((stp bb nb (stp bb nb fs)).1, upa fs.2 g30)) := ⟨q89, RP_fr hR83.2 ((q88 3 5 (by decide)).trans rfl) ((q88 3 6 (by decide)).trans rfl) (fun j => ((q88 4 j (by simp [fz])).trans rfl)) (fun j => ((q88 6 j (by simp [fz])).trans rfl)) (fun j => ((q88 7 j (by simp [fz])).trans rfl)) (fun j => ((q88 8 j (by simp [fz])).trans rfl)) (fun j => ((q88 209 j (by simp [fz])).trans rfl)) (fun j => ((q88 210 j (by simp [fz])).trans rfl))⟩
          refine r_iconst S dX0_readChild_98 (by decide) (fun v92 z93 => ?_)
          have r94 := R_eq z93
          exact r_ret S hr hlk X85 ⟨q87, F90, (R_of r94 rfl), (fun h => (by rw [((q88 3 1 (by decide)).trans ((M79.2 3 1 (Or.inl (by decide))).trans z70))]; exact R_of p66 rfl)), (QX_r (sChild_r e31 (fun h => absurd (ho38.mpr h) (by omega)) e73 (by omega)) (by omega) hR91)⟩ (nr_bool (R_of (lo := 0) (hi := 1) r94 rfl)) dX0_readChild_99
        ·
          refine r_aload_n S dX0_readChild_72 rfl (lv_at hl 1 rfl) ?_
          refine r_iconst S dX0_readChild_73 (by decide) (fun v95 z96 => ?_)
          have r97 := R_eq z96
          refine r_ki (q_U (As := [.int v95]) (rest := []) (K := 3) (ci := 0) S X54 (c_X8_fail_q l G t55 q57 v95 (R_of (lo := -2147483648) (hi := 2147483647) r97 rfl)) ck0_98_0 (Nat.le_of_ble_eq_true rfl) rfl (fun _ => ⟨_, rfl⟩) ⟨_, _, rfl⟩ ⟨Nat.le_of_ble_eq_true rfl, Nat.le_of_ble_eq_true rfl⟩ rfl hl.1 rfl (Nat.le_of_ble_eq_true rfl) dX0_readChild_74 ⟨Nat.le_refl 0, Nat.le_refl 0⟩) X54 (fun v101 t100 H lc q98 X99 => ?_)
          unfold po_X8_fail_q at q98
          obtain ⟨q102, q103, q104, q105⟩ := q98
          have F106 : Fr [(3, 1), (3, 2), (1, 3), (1, 4), (1, 5), (1, 7), (1, 8)] [6, 201] τ t100 := Fr_call F62 q103 (by decide)
          exact r_ret S hr hlk X99 ⟨q102, F106, (R_of q104 rfl), (fun h => by exfalso; omega), (QX_b (sChild_b2 e31 (fun h => absurd (ho38.mpr h) (by omega)) e73 (by omega)) (by omega) (by rw [q105]; omega) (RC_at (RC_fr hP74.2 (fun j => ((q103 1 j (by simp [fz])).trans rfl)) (fun j => ((q103 2 j (by simp [fz])).trans rfl)) (fun j => ((q103 201 j (by simp [fz])).trans rfl)) ((q103 3 5 (by decide)).trans rfl) ((q103 3 6 (by decide)).trans rfl) (fun j => ((q103 4 j (by simp [fz])).trans rfl)) (fun j => ((q103 6 j (by simp [fz])).trans rfl)) (fun j => ((q103 7 j (by simp [fz])).trans rfl)) (fun j => ((q103 8 j (by simp [fz])).trans rfl)) (fun j => ((q103 209 j (by simp [fz])).trans rfl)) (fun j => ((q103 210 j (by simp [fz])).trans rfl)))))⟩ (nr_bool (R_of (lo := 0) (hi := 1) q104 rfl)) dX0_readChild_77
      ·
        have r107 : R (0) (0) v56 := ⟨by omega, by omega⟩
        have p108 := (QX_0 q61) (by omega)
        obtain ⟨q109, e110, h111, h112⟩ := p108
        refine r_iconst S dX0_readChild_62 (by decide) (fun v113 z114 => ?_)
        have r115 := R_eq z114
        exact r_ret S hr hlk X54 ⟨q57, F62, (R_of r115 rfl), (fun h => by exfalso; omega), (QX_l (sChild_l2 e31 (fun h => absurd (ho38.mpr h) (by omega)) e110) (by omega) h111 h112)⟩ (nr_bool (R_of (lo := 0) (hi := 1) r115 rfl)) dX0_readChild_63
    ·
      have r116 : R (0) (9) v35 := ⟨by omega, by omega⟩
      refine r_aload_n S dX0_readChild_38 rfl (lv_at hl 1 rfl) ?_
      refine r_iconst S dX0_readChild_39 (by decide) (fun v117 z118 => ?_)
      have r119 := R_eq z118
      refine r_ki (q_U (As := [.int v117]) (rest := []) (K := 3) (ci := 0) S X12 (c_X8_fail_q l G t13 q15 v117 (R_of (lo := -2147483648) (hi := 2147483647) r119 rfl)) ck0_98_0 (Nat.le_of_ble_eq_true rfl) rfl (fun _ => ⟨_, rfl⟩) ⟨_, _, rfl⟩ ⟨Nat.le_of_ble_eq_true rfl, Nat.le_of_ble_eq_true rfl⟩ rfl hl.1 rfl (Nat.le_of_ble_eq_true rfl) dX0_readChild_40 ⟨Nat.le_refl 0, Nat.le_refl 0⟩) X12 (fun v123 t122 H lc q120 X121 => ?_)
      unfold po_X8_fail_q at q120
      obtain ⟨q124, q125, q126, q127⟩ := q120
      have F128 : Fr [(3, 1), (3, 2), (1, 3), (1, 4), (1, 5), (1, 7), (1, 8)] [6, 201] τ t122 := Fr_call F20 q125 (by decide)
      exact r_ret S hr hlk X121 ⟨q124, F128, (R_of q126 rfl), (fun h => by exfalso; omega), (QX_b (sChild_b1 e31 (ho38.mp (by omega))) (by omega) (by rw [q127]; omega) (RC_at (RC_fr hP32.2 (fun j => ((q125 1 j (by simp [fz])).trans rfl)) (fun j => ((q125 2 j (by simp [fz])).trans rfl)) (fun j => ((q125 201 j (by simp [fz])).trans rfl)) ((q125 3 5 (by decide)).trans rfl) ((q125 3 6 (by decide)).trans rfl) (fun j => ((q125 4 j (by simp [fz])).trans rfl)) (fun j => ((q125 6 j (by simp [fz])).trans rfl)) (fun j => ((q125 7 j (by simp [fz])).trans rfl)) (fun j => ((q125 8 j (by simp [fz])).trans rfl)) (fun j => ((q125 209 j (by simp [fz])).trans rfl)) (fun j => ((q125 210 j (by simp [fz])).trans rfl)))))⟩ (nr_bool (R_of (lo := 0) (hi := 1) q126 rfl)) dX0_readChild_43
  ·
    have r129 : R (0) (0) v14 := ⟨by omega, by omega⟩
    have p130 := (QX_0 q19) (by omega)
    obtain ⟨q131, e132, h133, h134⟩ := p130
    refine r_iconst S dX0_readChild_18 (by decide) (fun v135 z136 => ?_)
    have r137 := R_eq z136
    exact r_ret S hr hlk X12 ⟨q15, F20, (R_of r137 rfl), (fun h => by exfalso; omega), (QX_l (sChild_l1 e132) (by omega) h133 h134)⟩ (nr_bool (R_of (lo := 0) (hi := 1) r137 rfl)) dX0_readChild_19
def po_X0_readKin_q (τ : Tau)    (bb : Nat → Int) (nb : Nat) (fs : FS) (r : Int32) (u : Tau) : Prop := Inv u ∧ Fr [(3, 1), (3, 2), (4, 4), (1, 3), (1, 4), (1, 5), (1, 7), (1, 8)] [7, 201] τ u ∧ R (0) (1) r ∧ (r.toInt = 1 → R (0) (0) (u 3 1)) ∧ QX (sKin bb nb fs) r u (fun g => RC bb nb u g)
set_option maxHeartbeats 4000000 in
set_option maxRecDepth 100000 in
theorem c_X0_readKin_q (l : Launch) (G : Gx) (τ : Tau) (hI : Inv τ) (hf_0 : R (0) (0) (τ 3 1)) (bb : Nat → Int) (nb : Nat) (fs : FS) (hR : RC bb nb τ fs) (hW : fs.1.1 = 1) : Ci l G yX0_readKin cX0_readKin 2 (some .boolean) 2 44 [.ref (G.2.2.2.1 3)] τ (po_X0_readKin_q τ    bb nb fs) := by
  unfold Ci
  refine C_of (own := RX0) (by decide) rfl (Nat.le_of_ble_eq_true rfl) ?_
  intro p e s m below meth c ls S hr hlk X hl
  have hl : lv_has ls 2 [(0, .ref (G.2.2.2.1 3))] := hl
  obtain ⟨v1, z2⟩ : ∃ x, τ 3 1 = x := ⟨_, rfl⟩
  rw [z2] at hf_0
  refine r_aload_n S dX0_readKin_0 rfl (lv_at hl 0 rfl) ?_
  refine r_get (K := 3) (v := .ref (G.2.2.2.1 1)) S X (Nat.le_of_ble_eq_true rfl) rfl lk0_38_0 (fun _ => ⟨_, rfl, rfl⟩) dX0_readKin_1 ?_
  refine r_kv (q_V (As := []) (rest := []) (K := 1) (ci := 7) S X (c_X7_step_q l G τ hI bb nb 900 fs.1.2.2 (RT_st hR.1 (Or.inl hW)).1 (RT_st hR.1 (Or.inl hW)).2.1 (RT_st hR.1 (Or.inl hW)).2.2) ck0_102 (Nat.le_of_ble_eq_true rfl) rfl (fun _ => ⟨_, rfl⟩) ⟨_, _, rfl⟩ ⟨Nat.le_of_ble_eq_true rfl, Nat.le_of_ble_eq_true rfl⟩ rfl hl.1 rfl (Nat.le_of_ble_eq_true rfl) dX0_readKin_4 ⟨Nat.le_refl 0, Nat.le_refl 0⟩) X (fun t5 H lc q3 X4 => ?_)
  unfold po_X7_step_q at q3
  obtain ⟨q6, q7, q8⟩ := q3
  have F9 : Fr [(3, 1), (3, 2), (4, 4), (1, 3), (1, 4), (1, 5), (1, 7), (1, 8)] [7, 201] τ t5 := Fr_call Fr_rfl q7 (by decide)
  have hR10 : RC bb nb t5 (stp bb nb fs) := ⟨q8, RP_fr hR.2 ((q7 3 5 (by decide)).trans rfl) ((q7 3 6 (by decide)).trans rfl) (fun j => ((q7 4 j (by simp [fz])).trans rfl)) (fun j => ((q7 6 j (by simp [fz])).trans rfl)) (fun j => ((q7 7 j (by simp [fz])).trans rfl)) (fun j => ((q7 8 j (by simp [fz])).trans rfl)) (fun j => ((q7 209 j (by simp [fz])).trans rfl)) (fun j => ((q7 210 j (by simp [fz])).trans rfl))⟩
  refine r_aload_n S dX0_readKin_7 rfl (lv_at hl 0 rfl) ?_
  refine r_aload_n S dX0_readKin_8 rfl (lv_at hl 0 rfl) ?_
  refine r_get (K := 3) (v := .ref (G.2.2.2.1 4)) S X4 (Nat.le_of_ble_eq_true rfl) rfl lk0_14_0 (fun _ => ⟨_, rfl, rfl⟩) dX0_readKin_9 ?_
  refine r_ki (q_U (As := [.ref (G.2.2.2.1 4)]) (rest := []) (K := 3) (ci := 0) S X4 (c_X8_seeMan_q l G t5 q6 (by rw [((q7 3 1 (by decide)).trans z2)]; exact R_of hf_0 rfl) bb nb (stp bb nb fs) hR10 ) ck0_169_0 (Nat.le_of_ble_eq_true rfl) rfl (fun _ => ⟨_, rfl⟩) ⟨_, _, rfl⟩ ⟨Nat.le_of_ble_eq_true rfl, Nat.le_of_ble_eq_true rfl⟩ rfl hl.1 rfl (Nat.le_of_ble_eq_true rfl) dX0_readKin_12 ⟨Nat.le_refl 0, Nat.le_refl 0⟩) X4 (fun v14 t13 H lc q11 X12 => ?_)
  unfold po_X8_seeMan_q at q11
  obtain ⟨q15, q16, q17, q18, q19⟩ := q11
  have F20 : Fr [(3, 1), (3, 2), (4, 4), (1, 3), (1, 4), (1, 5), (1, 7), (1, 8)] [7, 201] τ t13 := Fr_call F9 q16 (by decide)
  refine r_if_ne (tgt := 20) S dX0_readKin_15 (by decide) (fun c21 => ?_) (fun c21 => ?_)
  ·
    have r22 : R (1) (1) v14 := ⟨by omega, by omega⟩
    obtain ⟨p23, p24⟩ := q18 (by omega)
    obtain ⟨v25, z26⟩ : ∃ x, t13 3 2 = x := ⟨_, rfl⟩
    rw [z26] at p23
    obtain ⟨v27, z28⟩ : ∃ x, t13 3 1 = x := ⟨_, rfl⟩
    rw [z28] at p24
    have p29 := (QX_1 q19) (by omega)
    obtain ⟨g30, e31, hP32⟩ := p29
    refine r_aload_n S dX0_readKin_20 rfl (lv_at hl 0 rfl) ?_
    refine r_geti (K := 3) S X12 (Nat.le_of_ble_eq_true rfl) rfl lk0_109_0 (fun _ => ⟨_, rfl, rfl⟩) z26 dX0_readKin_21 ?_
    have e33 : v25.toInt = g30 := by rw [← z26]; exact hP32.1
    have e34 := sLook_x e31
    refine r_istore_n (lv' := [(1, .int v25), (0, .ref (G.2.2.2.1 3))]) S dX0_readKin_24 rfl hl (by decide) rfl (fun ls hl => ?_)
    refine r_aload_n S dX0_readKin_25 rfl (lv_at hl 1 rfl) ?_
    refine r_get (K := 3) (v := .ref (G.2.2.2.1 1)) S X12 (Nat.le_of_ble_eq_true rfl) rfl lk0_38_0 (fun _ => ⟨_, rfl, rfl⟩) dX0_readKin_26 ?_
    refine r_kv (q_V (As := []) (rest := []) (K := 1) (ci := 7) S X12 (c_X7_step_q l G t13 q15 bb nb 900 (stp bb nb fs).1.2.2 (RT_st hP32.2.1 (Or.inl (sLook_n e31).1)).1 (RT_st hP32.2.1 (Or.inl (sLook_n e31).1)).2.1 (RT_st hP32.2.1 (Or.inl (sLook_n e31).1)).2.2) ck0_102 (Nat.le_of_ble_eq_true rfl) rfl (fun _ => ⟨_, rfl⟩) ⟨_, _, rfl⟩ ⟨Nat.le_of_ble_eq_true rfl, Nat.le_of_ble_eq_true rfl⟩ rfl hl.1 rfl (Nat.le_of_ble_eq_true rfl) dX0_readKin_29 ⟨Nat.le_refl 0, Nat.le_refl 0⟩) X12 (fun t37 H lc q35 X36 => ?_)
    unfold po_X7_step_q at q35
    obtain ⟨q38, q39, q40⟩ := q35
    have F41 : Fr [(3, 1), (3, 2), (4, 4), (1, 3), (1, 4), (1, 5), (1, 7), (1, 8)] [7, 201] τ t37 := Fr_call F20 q39 (by decide)
    have hR42 : RC bb nb t37 (stp bb nb (stp bb nb fs)) := ⟨q40, RP_fr hP32.2.2 ((q39 3 5 (by decide)).trans rfl) ((q39 3 6 (by decide)).trans rfl) (fun j => ((q39 4 j (by simp [fz])).trans rfl)) (fun j => ((q39 6 j (by simp [fz])).trans rfl)) (fun j => ((q39 7 j (by simp [fz])).trans rfl)) (fun j => ((q39 8 j (by simp [fz])).trans rfl)) (fun j => ((q39 209 j (by simp [fz])).trans rfl)) (fun j => ((q39 210 j (by simp [fz])).trans rfl))⟩
    refine r_aload_n S dX0_readKin_32 rfl (lv_at hl 1 rfl) ?_
    refine r_aload_n S dX0_readKin_33 rfl (lv_at hl 1 rfl) ?_
    refine r_get (K := 3) (v := .ref (G.2.2.2.1 4)) S X36 (Nat.le_of_ble_eq_true rfl) rfl lk0_14_0 (fun _ => ⟨_, rfl, rfl⟩) dX0_readKin_34 ?_
    refine r_ki (q_U (As := [.ref (G.2.2.2.1 4)]) (rest := []) (K := 3) (ci := 0) S X36 (c_X8_seeMan_q l G t37 q38 (by rw [((q39 3 1 (by decide)).trans z28)]; exact R_of p24 rfl) bb nb (stp bb nb (stp bb nb fs)) hR42 ) ck0_169_0 (Nat.le_of_ble_eq_true rfl) rfl (fun _ => ⟨_, rfl⟩) ⟨_, _, rfl⟩ ⟨Nat.le_of_ble_eq_true rfl, Nat.le_of_ble_eq_true rfl⟩ rfl hl.1 rfl (Nat.le_of_ble_eq_true rfl) dX0_readKin_37 ⟨Nat.le_refl 0, Nat.le_refl 0⟩) X36 (fun v46 t45 H lc q43 X44 => ?_)
    unfold po_X8_seeMan_q at q43
    obtain ⟨q47, q48, q49, q50, q51⟩ := q43
    have F52 : Fr [(3, 1), (3, 2), (4, 4), (1, 3), (1, 4), (1, 5), (1, 7), (1, 8)] [7, 201] τ t45 := Fr_call F41 q48 (by decide)
    refine r_if_ne (tgt := 45) S dX0_readKin_40 (by decide) (fun c53 => ?_) (fun c53 => ?_)
    ·
      have r54 : R (1) (1) v46 := ⟨by omega, by omega⟩
      obtain ⟨p55, p56⟩ := q50 (by omega)
      obtain ⟨v57, z58⟩ : ∃ x, t45 3 2 = x := ⟨_, rfl⟩
      rw [z58] at p55
      obtain ⟨v59, z60⟩ : ∃ x, t45 3 1 = x := ⟨_, rfl⟩
      rw [z60] at p56
      have p61 := (QX_1 q51) (by omega)
      obtain ⟨g62, e63, hP64⟩ := p61
      refine r_aload_n S dX0_readKin_45 rfl (lv_at hl 1 rfl) ?_
      refine r_geti (K := 3) S X44 (Nat.le_of_ble_eq_true rfl) rfl lk0_109_0 (fun _ => ⟨_, rfl, rfl⟩) z58 dX0_readKin_46 ?_
      have e65 : v57.toInt = g62 := by rw [← z58]; exact hP64.1
      have e66 := sLook_x e63
      refine r_iload_n S dX0_readKin_49 rfl (lv_at hl 0 rfl) ?_
      refine r_icmp_eq (tgt := 73) S dX0_readKin_50 (by decide) (fun c67 => ?_) (fun c67 => ?_)
      ·
        refine r_aload_n S dX0_readKin_73 rfl (lv_at hl 1 rfl) ?_
        refine r_iconst S dX0_readKin_74 (by decide) (fun v68 z69 => ?_)
        have r70 := R_eq z69
        refine r_ki (q_U (As := [.int v68]) (rest := []) (K := 3) (ci := 0) S X44 (c_X8_fail_q l G t45 q47 v68 (R_of (lo := -2147483648) (hi := 2147483647) r70 rfl)) ck0_98_0 (Nat.le_of_ble_eq_true rfl) rfl (fun _ => ⟨_, rfl⟩) ⟨_, _, rfl⟩ ⟨Nat.le_of_ble_eq_true rfl, Nat.le_of_ble_eq_true rfl⟩ rfl hl.1 rfl (Nat.le_of_ble_eq_true rfl) dX0_readKin_75 ⟨Nat.le_refl 0, Nat.le_refl 0⟩) X44 (fun v74 t73 H lc q71 X72 => ?_)
        unfold po_X8_fail_q at q71
        obtain ⟨q75, q76, q77, q78⟩ := q71
        have F79 : Fr [(3, 1), (3, 2), (4, 4), (1, 3), (1, 4), (1, 5), (1, 7), (1, 8)] [7, 201] τ t73 := Fr_call F52 q76 (by decide)
        exact r_ret S hr hlk X72 ⟨q75, F79, (R_of q77 rfl), (fun h => by exfalso; omega), (QX_b (sKin_b e31 e63 (Or.inl (by omega))) (by omega) (by rw [q78]; omega) (RC_at (RC_fr hP64.2 (fun j => ((q76 1 j (by simp [fz])).trans rfl)) (fun j => ((q76 2 j (by simp [fz])).trans rfl)) (fun j => ((q76 201 j (by simp [fz])).trans rfl)) ((q76 3 5 (by decide)).trans rfl) ((q76 3 6 (by decide)).trans rfl) (fun j => ((q76 4 j (by simp [fz])).trans rfl)) (fun j => ((q76 6 j (by simp [fz])).trans rfl)) (fun j => ((q76 7 j (by simp [fz])).trans rfl)) (fun j => ((q76 8 j (by simp [fz])).trans rfl)) (fun j => ((q76 209 j (by simp [fz])).trans rfl)) (fun j => ((q76 210 j (by simp [fz])).trans rfl)))))⟩ (nr_bool (R_of (lo := 0) (hi := 1) q77 rfl)) dX0_readKin_78
      ·
        refine r_aload_n S dX0_readKin_53 rfl (lv_at hl 1 rfl) ?_
        refine r_get (K := 3) (v := .ref (G.2.2.2.1 4)) S X44 (Nat.le_of_ble_eq_true rfl) rfl lk0_14_0 (fun _ => ⟨_, rfl, rfl⟩) dX0_readKin_54 ?_
        refine r_get (K := 4) (v := .ref (G.2.2.2.1 7)) S X44 (Nat.le_of_ble_eq_true rfl) rfl lk0_175_2 (fun _ => ⟨_, rfl, rfl⟩) dX0_readKin_57 ?_
        refine r_iload_n S dX0_readKin_60 rfl (lv_at hl 0 rfl) ?_
        refine r_aldn (n := 10) (K := 7) S X44 (Nat.le_of_ble_eq_true rfl) rfl (fun _ => rfl) (ix_of p23 rfl) dX0_readKin_61 (fun v80 z81 => ?_)
        have r82 : R (0) (1023) v80 := rd q47 rfl z81
        refine r_aload_n S dX0_readKin_62 rfl (lv_at hl 1 rfl) ?_
        refine r_geti (K := 3) S X44 (Nat.le_of_ble_eq_true rfl) rfl lk0_109_0 (fun _ => ⟨_, rfl, rfl⟩) z58 dX0_readKin_63 ?_
        refine r_ki (q_N (As := [.int v80, .int v57]) (rest := []) S X44 (c_X11_bit_q l G t45 q47 v80 v57 r82 p55) ck0_178 ⟨Nat.le_of_ble_eq_true rfl, Nat.le_of_ble_eq_true rfl⟩ rfl hl.1 rfl (Nat.le_of_ble_eq_true rfl) dX0_readKin_66 ⟨Nat.le_refl 0, Nat.le_refl 0⟩) X44 (fun v86 t85 H lc q83 X84 => ?_)
        unfold po_X11_bit_q at q83
        obtain ⟨q87, q88, q89⟩ := q83
        rw [q87] at X84
        have e91 : t45 7 g30 = v80 := by rw [show g30 = v25.toNatClampNeg by (have c : v25.toNatClampNeg = v25.toInt.toNat := rfl; omega)]; exact z81
        have ho90 : (kb v80 v57.toInt.toNat ↔ gki fs.2 g30 g62 = true) := by have q := RP_kb hP64.2.2 (i := g30) (j := g62) (by omega) (by omega); rw [show t45 7 g30 = v80 by assumption] at q; rw [show v57.toInt.toNat = g62 by omega]; exact q
        refine r_iconst S dX0_readKin_69 (by decide) (fun v92 z93 => ?_)
        have r94 := R_eq z93
        refine r_icmp_ne (tgt := 79) S dX0_readKin_70 (by decide) (fun c95 => ?_) (fun c95 => ?_)
        ·
          have r96 : R (0) (0) v86 := ⟨by omega, by omega⟩
          have p97 := (iff_n q89) (by omega)
          refine r_aload_n S dX0_readKin_79 rfl (lv_at hl 1 rfl) ?_
          refine r_get (K := 3) (v := .ref (G.2.2.2.1 4)) S X84 (Nat.le_of_ble_eq_true rfl) rfl lk0_14_0 (fun _ => ⟨_, rfl, rfl⟩) dX0_readKin_80 ?_
          refine r_get (K := 4) (v := .ref (G.2.2.2.1 7)) S X84 (Nat.le_of_ble_eq_true rfl) rfl lk0_175_2 (fun _ => ⟨_, rfl, rfl⟩) dX0_readKin_83 ?_
          refine r_iload_n S dX0_readKin_86 rfl (lv_at hl 0 rfl) ?_
          refine r_dup2 S dX0_readKin_87 rfl rfl ?_
          refine r_aldn (n := 10) (K := 7) S X84 (Nat.le_of_ble_eq_true rfl) rfl (fun _ => rfl) (ix_of p23 rfl) dX0_readKin_88 (fun v98 z99 => ?_)
          have r100 : R (0) (1023) v98 := rd q47 rfl z99
          refine r_iconst S dX0_readKin_89 (by decide) (fun v101 z102 => ?_)
          have r103 := R_eq z102
          refine r_aload_n S dX0_readKin_90 rfl (lv_at hl 1 rfl) ?_
          refine r_geti (K := 3) S X84 (Nat.le_of_ble_eq_true rfl) rfl lk0_109_0 (fun _ => ⟨_, rfl, rfl⟩) z58 dX0_readKin_91 ?_
          refine r_ishl S dX0_readKin_94 (fun v104 z105 => ?_)
          have r107 : R (1) (512) v104 := i_shl z105 r103 p55 rfl
          refine r_ior S dX0_readKin_95 (fun v108 z109 => ?_)
          have r111 : R (0) (1023) v108 := i_or 10 z109 r100 r107 rfl
          refine r_ast (n := 10) (K := 7) S X84 (Nat.le_of_ble_eq_true rfl) rfl (fun _ _ => rfl) (ix_of p23 rfl) dX0_readKin_96 (fun t112 H lc M113 X114 => ?_)
          have I115 := Inv_mu q47 M113 (show Rg (kd 7) _ v108 from (R_of (lo := 0) (hi := 1023) r111 rfl))
          have F116 : Fr [(3, 1), (3, 2), (4, 4), (1, 3), (1, 4), (1, 5), (1, 7), (1, 8)] [7, 201] τ t112 := Fr_cell F52 M113 (by decide)
          refine r_aload_n S dX0_readKin_97 rfl (lv_at hl 1 rfl) ?_
          refine r_get (K := 3) (v := .ref (G.2.2.2.1 4)) S X114 (Nat.le_of_ble_eq_true rfl) rfl lk0_14_0 (fun _ => ⟨_, rfl, rfl⟩) dX0_readKin_98 ?_
          refine r_get (K := 4) (v := .ref (G.2.2.2.1 7)) S X114 (Nat.le_of_ble_eq_true rfl) rfl lk0_175_2 (fun _ => ⟨_, rfl, rfl⟩) dX0_readKin_101 ?_
          refine r_aload_n S dX0_readKin_104 rfl (lv_at hl 1 rfl) ?_
          refine r_geti (K := 3) S X114 (Nat.le_of_ble_eq_true rfl) rfl lk0_109_0 (fun _ => ⟨_, rfl, rfl⟩) ((M113.2 3 2 (Or.inl (by decide))).trans z58) dX0_readKin_105 ?_
          refine r_dup2 S dX0_readKin_108 rfl rfl ?_
          refine r_aldn (n := 10) (K := 7) S X114 (Nat.le_of_ble_eq_true rfl) rfl (fun _ => rfl) (ix_of p55 rfl) dX0_readKin_109 (fun v117 z118 => ?_)
          have r119 : R (0) (1023) v117 := rd I115 rfl z118
          refine r_iconst S dX0_readKin_110 (by decide) (fun v120 z121 => ?_)
          have r122 := R_eq z121
          refine r_iload_n S dX0_readKin_111 rfl (lv_at hl 0 rfl) ?_
          refine r_ishl S dX0_readKin_112 (fun v123 z124 => ?_)
          have r126 : R (1) (512) v123 := i_shl z124 r122 p23 rfl
          refine r_ior S dX0_readKin_113 (fun v127 z128 => ?_)
          have r130 : R (0) (1023) v127 := i_or 10 z128 r119 r126 rfl
          refine r_ast (n := 10) (K := 7) S X114 (Nat.le_of_ble_eq_true rfl) rfl (fun _ _ => rfl) (ix_of p55 rfl) dX0_readKin_114 (fun t131 H lc M132 X133 => ?_)
          have I134 := Inv_mu I115 M132 (show Rg (kd 7) _ v127 from (R_of (lo := 0) (hi := 1023) r130 rfl))
          have F135 : Fr [(3, 1), (3, 2), (4, 4), (1, 3), (1, 4), (1, 5), (1, 7), (1, 8)] [7, 201] τ t131 := Fr_cell F116 M132 (by decide)
          refine r_aload_n S dX0_readKin_115 rfl (lv_at hl 1 rfl) ?_
          refine r_get (K := 3) (v := .ref (G.2.2.2.1 4)) S X133 (Nat.le_of_ble_eq_true rfl) rfl lk0_14_0 (fun _ => ⟨_, rfl, rfl⟩) dX0_readKin_116 ?_
          refine r_dup S dX0_readKin_119 rfl ?_
          refine r_getn (K := 4) S X133 (Nat.le_of_ble_eq_true rfl) rfl lk0_182_2 (fun _ => ⟨_, rfl, rfl⟩) dX0_readKin_120 (fun v136 z137 => ?_)
          have r139 := R_any v136
          refine r_iconst S dX0_readKin_123 (by decide) (fun v140 z141 => ?_)
          have r142 := R_eq z141
          refine r_iadd S dX0_readKin_124 (fun v143 z144 => ?_)
          have r145 := R_any v143
          refine r_put (K := 4) (ty := .int) S X133 (Nat.le_of_ble_eq_true rfl) rfl lk0_182_2 (fun _ => ⟨_, rfl, Nat.le_of_ble_eq_true rfl, rfl⟩) (fun _ _ _ h => by cases h; exact ⟨rfl, rfl⟩) rfl rfl dX0_readKin_125 (fun t146 H lc M147 X148 => ?_)
          have I149 := Inv_mu I134 M147 (R_any v143)
          have F150 : Fr [(3, 1), (3, 2), (4, 4), (1, 3), (1, 4), (1, 5), (1, 7), (1, 8)] [7, 201] τ t146 := Fr_mu F135 M147 (by decide)
          have rp151 := RP_ki (s := fs.2) hP64.2.2 (show R 0 9 v25 from ⟨by omega, by omega⟩) (show R 0 9 v57 from ⟨by omega, by omega⟩) (by omega) M113 M132 M147 z99 z118 (by rw [z109, z105, show v101 = 1 from Int32.toInt_inj.mp (by show v101.toInt = 1; omega)]) (by rw [z128, z124, show v120 = 1 from Int32.toInt_inj.mp (by show v120.toInt = 1; omega)]) (by rw [z144, show v140 = 1 from Int32.toInt_inj.mp (by show v140.toInt = 1; omega), ← (((M132.2 4 4 (Or.inl (by decide))).trans ((M113.2 4 4 (Or.inl (by decide))).trans rfl)).symm.trans z137), RP_kn hP64.2.2]; exact (i32_succ _).symm)
          rw [show v25.toInt.toNat = g30 by omega, show v57.toInt.toNat = g62 by omega] at rp151
          have hR152 : RC bb nb t146 ((stp bb nb (stp bb nb fs)).1, uki fs.2 g30 g62) := ⟨RT_fr hP64.2.1 (fun j => ((M147.2 1 j (Or.inl (by decide))).trans ((M132.2 1 j (Or.inl (by decide))).trans ((M113.2 1 j (Or.inl (by decide))).trans rfl)))) (fun j => ((M147.2 2 j (Or.inl (by decide))).trans ((M132.2 2 j (Or.inl (by decide))).trans ((M113.2 2 j (Or.inl (by decide))).trans rfl)))) (fun j => ((M147.2 201 j (Or.inl (by decide))).trans ((M132.2 201 j (Or.inl (by decide))).trans ((M113.2 201 j (Or.inl (by decide))).trans rfl)))), rp151⟩
          refine r_aload_n S dX0_readKin_128 rfl (lv_at hl 1 rfl) ?_
          refine r_get (K := 3) (v := .ref (G.2.2.2.1 1)) S X148 (Nat.le_of_ble_eq_true rfl) rfl lk0_38_0 (fun _ => ⟨_, rfl, rfl⟩) dX0_readKin_129 ?_
          refine r_kv (q_V (As := []) (rest := []) (K := 1) (ci := 7) S X148 (c_X7_step_q l G t146 I149 bb nb 900 ((stp bb nb (stp bb nb fs)).1, uki fs.2 g30 g62).1.2.2 (RT_st hR152.1 (Or.inl (sLook_n e63).1)).1 (RT_st hR152.1 (Or.inl (sLook_n e63).1)).2.1 (RT_st hR152.1 (Or.inl (sLook_n e63).1)).2.2) ck0_102 (Nat.le_of_ble_eq_true rfl) rfl (fun _ => ⟨_, rfl⟩) ⟨_, _, rfl⟩ ⟨Nat.le_of_ble_eq_true rfl, Nat.le_of_ble_eq_true rfl⟩ rfl hl.1 rfl (Nat.le_of_ble_eq_true rfl) dX0_readKin_132 ⟨Nat.le_refl 0, Nat.le_refl 0⟩) X148 (fun t155 H lc q153 X154 => ?_)
          unfold po_X7_step_q at q153
          obtain ⟨q156, q157, q158⟩ := q153
          have F159 : Fr [(3, 1), (3, 2), (4, 4), (1, 3), (1, 4), (1, 5), (1, 7), (1, 8)] [7, 201] τ t155 := Fr_call F150 q157 (by decide)
          have hR160 : RC bb nb t155 (stp bb nb ((stp bb nb (stp bb nb fs)).1, uki fs.2 g30 g62)) := ⟨q158, RP_fr hR152.2 ((q157 3 5 (by decide)).trans rfl) ((q157 3 6 (by decide)).trans rfl) (fun j => ((q157 4 j (by simp [fz])).trans rfl)) (fun j => ((q157 6 j (by simp [fz])).trans rfl)) (fun j => ((q157 7 j (by simp [fz])).trans rfl)) (fun j => ((q157 8 j (by simp [fz])).trans rfl)) (fun j => ((q157 209 j (by simp [fz])).trans rfl)) (fun j => ((q157 210 j (by simp [fz])).trans rfl))⟩
          refine r_iconst S dX0_readKin_135 (by decide) (fun v161 z162 => ?_)
          have r163 := R_eq z162
          exact r_ret S hr hlk X154 ⟨q156, F159, (R_of r163 rfl), (fun h => (by rw [((q157 3 1 (by decide)).trans ((M147.2 3 1 (Or.inl (by decide))).trans ((M132.2 3 1 (Or.inl (by decide))).trans ((M113.2 3 1 (Or.inl (by decide))).trans z60))))]; exact R_of p56 rfl)), (QX_r (sKin_r e31 e63 (fun h => h.elim (fun h => by omega) (fun h => p97 (ho90.mpr h)))) (by omega) hR160)⟩ (nr_bool (R_of (lo := 0) (hi := 1) r163 rfl)) dX0_readKin_136
        ·
          have r164 : R (1) (1) v86 := ⟨by omega, by omega⟩
          have p165 := (q89).mp (by omega)
          refine r_aload_n S dX0_readKin_73 rfl (lv_at hl 1 rfl) ?_
          refine r_iconst S dX0_readKin_74 (by decide) (fun v166 z167 => ?_)
          have r168 := R_eq z167
          refine r_ki (q_U (As := [.int v166]) (rest := []) (K := 3) (ci := 0) S X84 (c_X8_fail_q l G t45 q47 v166 (R_of (lo := -2147483648) (hi := 2147483647) r168 rfl)) ck0_98_0 (Nat.le_of_ble_eq_true rfl) rfl (fun _ => ⟨_, rfl⟩) ⟨_, _, rfl⟩ ⟨Nat.le_of_ble_eq_true rfl, Nat.le_of_ble_eq_true rfl⟩ rfl hl.1 rfl (Nat.le_of_ble_eq_true rfl) dX0_readKin_75 ⟨Nat.le_refl 0, Nat.le_refl 0⟩) X84 (fun v172 t171 H lc q169 X170 => ?_)
          unfold po_X8_fail_q at q169
          obtain ⟨q173, q174, q175, q176⟩ := q169
          have F177 : Fr [(3, 1), (3, 2), (4, 4), (1, 3), (1, 4), (1, 5), (1, 7), (1, 8)] [7, 201] τ t171 := Fr_call F52 q174 (by decide)
          exact r_ret S hr hlk X170 ⟨q173, F177, (R_of q175 rfl), (fun h => by exfalso; omega), (QX_b (sKin_b e31 e63 (Or.inr (ho90.mp p165))) (by omega) (by rw [q176]; omega) (RC_at (RC_fr hP64.2 (fun j => ((q174 1 j (by simp [fz])).trans rfl)) (fun j => ((q174 2 j (by simp [fz])).trans rfl)) (fun j => ((q174 201 j (by simp [fz])).trans rfl)) ((q174 3 5 (by decide)).trans rfl) ((q174 3 6 (by decide)).trans rfl) (fun j => ((q174 4 j (by simp [fz])).trans rfl)) (fun j => ((q174 6 j (by simp [fz])).trans rfl)) (fun j => ((q174 7 j (by simp [fz])).trans rfl)) (fun j => ((q174 8 j (by simp [fz])).trans rfl)) (fun j => ((q174 209 j (by simp [fz])).trans rfl)) (fun j => ((q174 210 j (by simp [fz])).trans rfl)))))⟩ (nr_bool (R_of (lo := 0) (hi := 1) q175 rfl)) dX0_readKin_78
    ·
      have r178 : R (0) (0) v46 := ⟨by omega, by omega⟩
      have p179 := (QX_0 q51) (by omega)
      obtain ⟨q180, e181, h182, h183⟩ := p179
      refine r_iconst S dX0_readKin_43 (by decide) (fun v184 z185 => ?_)
      have r186 := R_eq z185
      exact r_ret S hr hlk X44 ⟨q47, F52, (R_of r186 rfl), (fun h => by exfalso; omega), (QX_l (sKin_l2 e31 e181) (by omega) h182 h183)⟩ (nr_bool (R_of (lo := 0) (hi := 1) r186 rfl)) dX0_readKin_44
  ·
    have r187 : R (0) (0) v14 := ⟨by omega, by omega⟩
    have p188 := (QX_0 q19) (by omega)
    obtain ⟨q189, e190, h191, h192⟩ := p188
    refine r_iconst S dX0_readKin_18 (by decide) (fun v193 z194 => ?_)
    have r195 := R_eq z194
    exact r_ret S hr hlk X12 ⟨q15, F20, (R_of r195 rfl), (fun h => by exfalso; omega), (QX_l (sKin_l1 e190) (by omega) h191 h192)⟩ (nr_bool (R_of (lo := 0) (hi := 1) r195 rfl)) dX0_readKin_19
def po_X0_readMan_q (τ : Tau)    (bb : Nat → Int) (nb : Nat) (fs : FS) (r : Int32) (u : Tau) : Prop := Inv u ∧ Fr [(3, 1), (3, 2), (4, 3), (1, 3), (1, 4), (1, 5), (1, 7), (1, 8)] [5, 8, 201, 210] τ u ∧ R (0) (1) r ∧ (r.toInt = 1 → R (0) (0) (u 3 1)) ∧ QX (sMan bb nb fs) r u (fun g => RC bb nb u g)
set_option maxHeartbeats 4000000 in
set_option maxRecDepth 100000 in
theorem c_X0_readMan_q (l : Launch) (G : Gx) (τ : Tau) (hI : Inv τ) (hf_0 : R (0) (0) (τ 3 1)) (bb : Nat → Int) (nb : Nat) (fs : FS) (hR : RC bb nb τ fs) (hW : fs.1.1 = 1) : Ci l G yX0_readMan cX0_readMan 3 (some .boolean) 3 69 [.ref (G.2.2.2.1 3)] τ (po_X0_readMan_q τ    bb nb fs) := by
  unfold Ci
  refine C_of (own := RX0) (by decide) rfl (Nat.le_of_ble_eq_true rfl) ?_
  intro p e s m below meth c ls S hr hlk X hl
  have hl : lv_has ls 3 [(0, .ref (G.2.2.2.1 3))] := hl
  obtain ⟨v1, z2⟩ : ∃ x, τ 3 1 = x := ⟨_, rfl⟩
  rw [z2] at hf_0
  refine r_aload_n S dX0_readMan_0 rfl (lv_at hl 0 rfl) ?_
  refine r_get (K := 3) (v := .ref (G.2.2.2.1 4)) S X (Nat.le_of_ble_eq_true rfl) rfl lk0_14_0 (fun _ => ⟨_, rfl, rfl⟩) dX0_readMan_1 ?_
  refine r_getn (K := 4) S X (Nat.le_of_ble_eq_true rfl) rfl lk0_143_2 (fun _ => ⟨_, rfl, rfl⟩) dX0_readMan_4 (fun v3 z4 => ?_)
  have r5 : R (0) (10) v3 := rd hI rfl z4
  refine r_bipush S dX0_readMan_7 (by decide) (fun v6 z7 => ?_)
  have r8 := R_eq z7
  refine r_icmp_lt (tgt := 18) S dX0_readMan_9 (by decide) (fun c9 => ?_) (fun c9 => ?_)
  ·
    have r10 : R (0) (9) v3 := ⟨by omega, by omega⟩
    refine r_aload_n S dX0_readMan_18 rfl (lv_at hl 0 rfl) ?_
    refine r_get (K := 3) (v := .ref (G.2.2.2.1 1)) S X (Nat.le_of_ble_eq_true rfl) rfl lk0_38_0 (fun _ => ⟨_, rfl, rfl⟩) dX0_readMan_19 ?_
    refine r_kv (q_V (As := []) (rest := []) (K := 1) (ci := 7) S X (c_X7_step_q l G τ hI bb nb 900 fs.1.2.2 (RT_st hR.1 (Or.inl hW)).1 (RT_st hR.1 (Or.inl hW)).2.1 (RT_st hR.1 (Or.inl hW)).2.2) ck0_102 (Nat.le_of_ble_eq_true rfl) rfl (fun _ => ⟨_, rfl⟩) ⟨_, _, rfl⟩ ⟨Nat.le_of_ble_eq_true rfl, Nat.le_of_ble_eq_true rfl⟩ rfl hl.1 rfl (Nat.le_of_ble_eq_true rfl) dX0_readMan_22 ⟨Nat.le_refl 0, Nat.le_refl 0⟩) X (fun t13 H lc q11 X12 => ?_)
    unfold po_X7_step_q at q11
    obtain ⟨q14, q15, q16⟩ := q11
    have F17 : Fr [(3, 1), (3, 2), (4, 3), (1, 3), (1, 4), (1, 5), (1, 7), (1, 8)] [5, 8, 201, 210] τ t13 := Fr_call Fr_rfl q15 (by decide)
    have hR18 : RC bb nb t13 (stp bb nb fs) := ⟨q16, RP_fr hR.2 ((q15 3 5 (by decide)).trans rfl) ((q15 3 6 (by decide)).trans rfl) (fun j => ((q15 4 j (by simp [fz])).trans rfl)) (fun j => ((q15 6 j (by simp [fz])).trans rfl)) (fun j => ((q15 7 j (by simp [fz])).trans rfl)) (fun j => ((q15 8 j (by simp [fz])).trans rfl)) (fun j => ((q15 209 j (by simp [fz])).trans rfl)) (fun j => ((q15 210 j (by simp [fz])).trans rfl))⟩
    refine r_aload_n S dX0_readMan_25 rfl (lv_at hl 0 rfl) ?_
    refine r_ki (q_V (As := []) (rest := []) (K := 3) (ci := 0) S X12 (c_X0_seeNewName_q l G t13 q14 (by rw [((q15 3 1 (by decide)).trans z2)]; exact R_of hf_0 rfl) bb nb (stp bb nb fs) hR18 ) ck0_136 (Nat.le_of_ble_eq_true rfl) rfl (fun _ => ⟨_, rfl⟩) ⟨_, _, rfl⟩ ⟨Nat.le_of_ble_eq_true rfl, Nat.le_of_ble_eq_true rfl⟩ rfl hl.1 rfl (Nat.le_of_ble_eq_true rfl) dX0_readMan_26 ⟨Nat.le_refl 0, Nat.le_refl 0⟩) X12 (fun v22 t21 H lc q19 X20 => ?_)
    unfold po_X0_seeNewName_q at q19
    obtain ⟨q23, q24, q25, q26, q27⟩ := q19
    have F28 : Fr [(3, 1), (3, 2), (4, 3), (1, 3), (1, 4), (1, 5), (1, 7), (1, 8)] [5, 8, 201, 210] τ t21 := Fr_call F17 q24 (by decide)
    refine r_if_ne (tgt := 34) S dX0_readMan_29 (by decide) (fun c29 => ?_) (fun c29 => ?_)
    ·
      have r30 : R (1) (1) v22 := ⟨by omega, by omega⟩
      have p31 := q26 (by omega)
      obtain ⟨v32, z33⟩ : ∃ x, t21 3 1 = x := ⟨_, rfl⟩
      rw [z33] at p31
      have p34 := (QX_1 q27) (by omega)
      obtain ⟨g35, e36, hP37⟩ := p34
      refine r_aload_n S dX0_readMan_34 rfl (lv_at hl 0 rfl) ?_
      refine r_get (K := 3) (v := .ref (G.2.2.2.1 4)) S X20 (Nat.le_of_ble_eq_true rfl) rfl lk0_14_0 (fun _ => ⟨_, rfl, rfl⟩) dX0_readMan_35 ?_
      refine r_geti (K := 4) S X20 (Nat.le_of_ble_eq_true rfl) rfl lk0_143_2 (fun _ => ⟨_, rfl, rfl⟩) ((q24 4 3 (by decide)).trans ((q15 4 3 (by decide)).trans z4)) dX0_readMan_38 ?_
      refine r_istore_n (lv' := [(1, .int v3), (0, .ref (G.2.2.2.1 3))]) S dX0_readMan_41 rfl hl (by decide) rfl (fun ls hl => ?_)
      refine r_aload_n S dX0_readMan_42 rfl (lv_at hl 1 rfl) ?_
      refine r_get (K := 3) (v := .ref (G.2.2.2.1 4)) S X20 (Nat.le_of_ble_eq_true rfl) rfl lk0_14_0 (fun _ => ⟨_, rfl, rfl⟩) dX0_readMan_43 ?_
      refine r_get (K := 4) (v := .ref (G.2.2.2.1 10)) S X20 (Nat.le_of_ble_eq_true rfl) rfl lk0_146_2 (fun _ => ⟨_, rfl, rfl⟩) dX0_readMan_46 ?_
      refine r_iload_n S dX0_readMan_49 rfl (lv_at hl 0 rfl) ?_
      refine r_aload_n S dX0_readMan_50 rfl (lv_at hl 1 rfl) ?_
      refine r_get (K := 3) (v := .ref (G.2.2.2.1 1)) S X20 (Nat.le_of_ble_eq_true rfl) rfl lk0_38_0 (fun _ => ⟨_, rfl, rfl⟩) dX0_readMan_51 ?_
      refine r_getJ (K := 1) S X20 (Nat.le_of_ble_eq_true rfl) rfl lk0_118_7 (fun _ => ⟨_, rfl, rfl⟩) dX0_readMan_54 (fun j38 z39 => ?_)
      refine r_last (n := 10) (K := 10) S X20 (Nat.le_of_ble_eq_true rfl) rfl (fun _ => rfl) (ix_of r10 rfl) dX0_readMan_57 (fun t41 H lc M42 X40 => ?_)
      have I43 := Inv_ml q23 M42
      have F44 : Fr [(3, 1), (3, 2), (4, 3), (1, 3), (1, 4), (1, 5), (1, 7), (1, 8)] [5, 8, 201, 210] τ t41 := Fr_ml F28 M42 (by decide)
      refine r_aload_n S dX0_readMan_58 rfl (lv_at hl 1 rfl) ?_
      refine r_get (K := 3) (v := .ref (G.2.2.2.1 4)) S X40 (Nat.le_of_ble_eq_true rfl) rfl lk0_14_0 (fun _ => ⟨_, rfl, rfl⟩) dX0_readMan_59 ?_
      refine r_dup S dX0_readMan_62 rfl ?_
      refine r_geti (K := 4) S X40 (Nat.le_of_ble_eq_true rfl) rfl lk0_143_2 (fun _ => ⟨_, rfl, rfl⟩) ((M42.1 4 (by decide) 3).trans ((q24 4 3 (by decide)).trans ((q15 4 3 (by decide)).trans z4))) dX0_readMan_63 ?_
      refine r_iconst S dX0_readMan_66 (by decide) (fun v45 z46 => ?_)
      have r47 := R_eq z46
      refine r_iadd S dX0_readMan_67 (fun v48 z49 => ?_)
      obtain ⟨e50, r51⟩ := i_add (lo := 1) (hi := 10) z49 r10 r47 rfl
      refine r_put (K := 4) (ty := .int) S X40 (Nat.le_of_ble_eq_true rfl) rfl lk0_143_2 (fun _ => ⟨_, rfl, Nat.le_of_ble_eq_true rfl, rfl⟩) (fun _ _ _ h => by cases h; exact ⟨rfl, rfl⟩) rfl rfl dX0_readMan_68 (fun t52 H lc M53 X54 => ?_)
      have I55 := Inv_mu I43 M53 (show Rg (kd 4) 3 v48 from (R_of (lo := 0) (hi := 10) r51 rfl))
      have F56 : Fr [(3, 1), (3, 2), (4, 3), (1, 3), (1, 4), (1, 5), (1, 7), (1, 8)] [5, 8, 201, 210] τ t52 := Fr_mu F44 M53 (by decide)
      have e57 : v3.toInt = (((gmn fs.2).length : Nat) : Int) := by have q : (t21 4 3).toInt = (((gmn fs.2).length : Nat) : Int) := (RP_mnm hP37.2).1; rw [((q24 4 3 (by decide)).trans ((q15 4 3 (by decide)).trans z4))] at q; exact q
      have hR58 : RC bb nb t52 ((stp bb nb fs).1, umn fs.2 (wrd bb (stp bb nb fs).1)) := ⟨RT_fr hP37.1 (fun j => ((M53.2 1 j (Or.inl (by decide))).trans ((M42.1 1 (by decide) j).trans rfl))) (fun j => ((M53.2 2 j (Or.inl (by decide))).trans ((M42.1 2 (by decide) j).trans rfl))) (fun j => ((M53.2 201 j (Or.inl (by decide))).trans ((M42.1 201 (by decide) j).trans rfl))), RP_mn hP37.2 M42 M53 (by have c : v3.toNatClampNeg = v3.toInt.toNat := rfl; omega) (by rw [← z39]; exact (RT_low hP37.1 (sNew_n e36).1).2) (RT_low hP37.1 (sNew_n e36).1).1 (by omega)⟩
      refine r_aload_n S dX0_readMan_71 rfl (lv_at hl 1 rfl) ?_
      refine r_get (K := 3) (v := .ref (G.2.2.2.1 1)) S X54 (Nat.le_of_ble_eq_true rfl) rfl lk0_38_0 (fun _ => ⟨_, rfl, rfl⟩) dX0_readMan_72 ?_
      refine r_kv (q_V (As := []) (rest := []) (K := 1) (ci := 7) S X54 (c_X7_step_q l G t52 I55 bb nb 900 ((stp bb nb fs).1, umn fs.2 (wrd bb (stp bb nb fs).1)).1.2.2 (RT_st hR58.1 (Or.inl (sNew_n e36).1)).1 (RT_st hR58.1 (Or.inl (sNew_n e36).1)).2.1 (RT_st hR58.1 (Or.inl (sNew_n e36).1)).2.2) ck0_102 (Nat.le_of_ble_eq_true rfl) rfl (fun _ => ⟨_, rfl⟩) ⟨_, _, rfl⟩ ⟨Nat.le_of_ble_eq_true rfl, Nat.le_of_ble_eq_true rfl⟩ rfl hl.1 rfl (Nat.le_of_ble_eq_true rfl) dX0_readMan_75 ⟨Nat.le_refl 0, Nat.le_refl 0⟩) X54 (fun t61 H lc q59 X60 => ?_)
      unfold po_X7_step_q at q59
      obtain ⟨q62, q63, q64⟩ := q59
      have F65 : Fr [(3, 1), (3, 2), (4, 3), (1, 3), (1, 4), (1, 5), (1, 7), (1, 8)] [5, 8, 201, 210] τ t61 := Fr_call F56 q63 (by decide)
      have hR66 : RC bb nb t61 (stp bb nb ((stp bb nb fs).1, umn fs.2 (wrd bb (stp bb nb fs).1))) := ⟨q64, RP_fr hR58.2 ((q63 3 5 (by decide)).trans rfl) ((q63 3 6 (by decide)).trans rfl) (fun j => ((q63 4 j (by simp [fz])).trans rfl)) (fun j => ((q63 6 j (by simp [fz])).trans rfl)) (fun j => ((q63 7 j (by simp [fz])).trans rfl)) (fun j => ((q63 8 j (by simp [fz])).trans rfl)) (fun j => ((q63 209 j (by simp [fz])).trans rfl)) (fun j => ((q63 210 j (by simp [fz])).trans rfl))⟩
      refine r_aload_n S dX0_readMan_78 rfl (lv_at hl 1 rfl) ?_
      refine r_iconst S dX0_readMan_79 (by decide) (fun v67 z68 => ?_)
      have r69 := R_eq z68
      refine r_bipush S dX0_readMan_80 (by decide) (fun v70 z71 => ?_)
      have r72 := R_eq z71
      refine r_ki (q_U (As := [.int v67, .int v70]) (rest := []) (K := 3) (ci := 0) S X60 (c_X8_takeNumber_q_0_20 l G t61 q62 v67 v70 r69 r72 (by rw [((q63 3 1 (by decide)).trans ((M53.2 3 1 (Or.inl (by decide))).trans ((M42.1 3 (by decide) 1).trans z33)))]; exact R_of p31 rfl) bb nb (stp bb nb ((stp bb nb fs).1, umn fs.2 (wrd bb (stp bb nb fs).1))) hR66 ) ck0_105_0 (Nat.le_of_ble_eq_true rfl) rfl (fun _ => ⟨_, rfl⟩) ⟨_, _, rfl⟩ ⟨Nat.le_of_ble_eq_true rfl, Nat.le_of_ble_eq_true rfl⟩ rfl hl.1 rfl (Nat.le_of_ble_eq_true rfl) dX0_readMan_82 ⟨Nat.le_refl 0, Nat.le_refl 0⟩) X60 (fun v76 t75 H lc q73 X74 => ?_)
      unfold po_X8_takeNumber_q_0_20 at q73
      obtain ⟨q77, q78, q79, q80, q81⟩ := q73
      have F82 : Fr [(3, 1), (3, 2), (4, 3), (1, 3), (1, 4), (1, 5), (1, 7), (1, 8)] [5, 8, 201, 210] τ t75 := Fr_call F65 q78 (by decide)
      refine r_if_ne (tgt := 90) S dX0_readMan_85 (by decide) (fun c83 => ?_) (fun c83 => ?_)
      ·
        have r84 : R (1) (1) v76 := ⟨by omega, by omega⟩
        obtain ⟨p85, p86⟩ := q80 (by omega)
        obtain ⟨v87, z88⟩ : ∃ x, t75 3 2 = x := ⟨_, rfl⟩
        rw [z88] at p85
        obtain ⟨v89, z90⟩ : ∃ x, t75 3 1 = x := ⟨_, rfl⟩
        rw [z90] at p86
        have p91 := (QX_1 q81) (by omega)
        obtain ⟨g92, e93, hP94⟩ := p91
        refine r_aload_n S dX0_readMan_90 rfl (lv_at hl 1 rfl) ?_
        refine r_get (K := 3) (v := .ref (G.2.2.2.1 4)) S X74 (Nat.le_of_ble_eq_true rfl) rfl lk0_14_0 (fun _ => ⟨_, rfl, rfl⟩) dX0_readMan_91 ?_
        refine r_get (K := 4) (v := .ref (G.2.2.2.1 5)) S X74 (Nat.le_of_ble_eq_true rfl) rfl lk0_149_2 (fun _ => ⟨_, rfl, rfl⟩) dX0_readMan_94 ?_
        refine r_iload_n S dX0_readMan_97 rfl (lv_at hl 0 rfl) ?_
        refine r_aload_n S dX0_readMan_98 rfl (lv_at hl 1 rfl) ?_
        refine r_geti (K := 3) S X74 (Nat.le_of_ble_eq_true rfl) rfl lk0_109_0 (fun _ => ⟨_, rfl, rfl⟩) z88 dX0_readMan_99 ?_
        refine r_ast (n := 10) (K := 5) S X74 (Nat.le_of_ble_eq_true rfl) rfl (fun _ _ => rfl) (ix_of r10 rfl) dX0_readMan_102 (fun t95 H lc M96 X97 => ?_)
        have I98 := Inv_mu q77 M96 (show Rg (kd 5) _ v87 from (R_of (lo := 0) (hi := 20) p85 rfl))
        have F99 : Fr [(3, 1), (3, 2), (4, 3), (1, 3), (1, 4), (1, 5), (1, 7), (1, 8)] [5, 8, 201, 210] τ t95 := Fr_cell F82 M96 (by decide)
        refine r_iconst S dX0_readMan_103 (by decide) (fun v100 z101 => ?_)
        have r102 := R_eq z101
        refine r_istore_n (lv' := [(2, .int v100), (1, .int v3), (0, .ref (G.2.2.2.1 3))]) S dX0_readMan_104 rfl hl (by decide) rfl (fun ls hl => ?_)
        have L635 : ∀ (n : Nat) (t627 : Tau) (H : Heap) (lc : List Loc) (ls : Array Slot) (i625 : Int32) (f632 : Int32), Xd G s H lc t627 → Inv t627 → Fr [(3, 1), (3, 2), (4, 3), (1, 3), (1, 4), (1, 5), (1, 7), (1, 8)] [5, 8, 201, 210] τ t627 → R (0) (10) i625 → t627 4 3 = v48 → t627 3 1 = f632 → R (0) (0) f632 → (∃ (fc : FS) (op : Nat → Bool), RC bb nb t627 fc ∧ RO t627 (v3).toInt.toNat op ∧ (v3).toInt.toNat < (gmn fc.2).length ∧ sOps bb nb (10 - (i625).toInt.toNat) op fc = sMan bb nb fs) → lv_has ls 3 [(0, .ref (G.2.2.2.1 3)), (1, .int v3), (2, .int i625)] → (10 - i625.toInt).toNat < n → W p l e (Rm 3 69) s m ([.ref (G.2.2.2.1 3)] : List Value).toArray below meth c H lc 0 0 (MQ below (va_Qi (po_X0_readMan_q τ    bb nb fs) (Bs G) G.2.2.2.2) ([.ref (G.2.2.2.1 3)] : List Value).toArray s 0 0 G.2.2.2.2) (F0 m 105 ls []) := by
          intro n
          induction n with
          | zero => intros; omega
          | succ n ih637 =>
            intro t627 H lc ls i625 f632 X630 I628 F629 r626 z631 z634 r633 x636 hl hm
            obtain ⟨fc638, op639, hR640, hO641, hm642, he643⟩ := x636
            refine r_iload_n S dX0_readMan_105 rfl (lv_at hl 2 rfl) ?_
            refine r_bipush S dX0_readMan_106 (by decide) (fun v644 z645 => ?_)
            have r646 := R_eq z645
            refine r_icmp_gt (tgt := 139) S dX0_readMan_108 (by decide) (fun c647 => ?_) (fun c647 => ?_)
            ·
              have r648 : R (10) (10) i625 := ⟨by omega, by omega⟩
              refine r_iconst S dX0_readMan_139 (by decide) (fun v649 z650 => ?_)
              have r651 := R_eq z650
              exact r_ret S hr hlk X630 ⟨I628, F629, (R_of r651 rfl), (fun h => (by rw [z634]; exact R_of r633 rfl)), (QX_r (by rw [← he643, show 10 - i625.toInt.toNat = 0 by omega]; rfl) (by omega) hR640)⟩ (nr_bool (R_of (lo := 0) (hi := 1) r651 rfl)) dX0_readMan_140
            ·
              have r652 : R (0) (9) i625 := ⟨by omega, by omega⟩
              refine r_aload_n S dX0_readMan_111 rfl (lv_at hl 0 rfl) ?_
              refine r_get (K := 3) (v := .ref (G.2.2.2.1 1)) S X630 (Nat.le_of_ble_eq_true rfl) rfl lk0_38_0 (fun _ => ⟨_, rfl, rfl⟩) dX0_readMan_112 ?_
              refine r_bipush S dX0_readMan_115 (by decide) (fun v653 z654 => ?_)
              have r655 := R_eq z654
              refine r_ki (q_V (As := [.int v653]) (rest := []) (K := 1) (ci := 7) S X630 (c_X7_isSigned_q l G t627 I628 v653 (R_of (lo := 0) (hi := 65535) r655 rfl) bb nb 900 fc638.1 hR640.1) ck0_153 (Nat.le_of_ble_eq_true rfl) rfl (fun _ => ⟨_, rfl⟩) ⟨_, _, rfl⟩ ⟨Nat.le_of_ble_eq_true rfl, Nat.le_of_ble_eq_true rfl⟩ rfl hl.1 rfl (Nat.le_of_ble_eq_true rfl) dX0_readMan_117 ⟨Nat.le_refl 0, Nat.le_refl 0⟩) X630 (fun v659 t658 H lc q656 X657 => ?_)
              unfold po_X7_isSigned_q at q656
              obtain ⟨q660, q661, q662⟩ := q656
              rw [q660] at X657
              refine r_if_ne (tgt := 139) S dX0_readMan_120 (by decide) (fun c663 => ?_) (fun c663 => ?_)
              ·
                have r664 : R (1) (1) v659 := ⟨by omega, by omega⟩
                have p665 := (q662).mp (by omega)
                refine r_iconst S dX0_readMan_139 (by decide) (fun v666 z667 => ?_)
                have r668 := R_eq z667
                exact r_ret S hr hlk X657 ⟨I628, F629, (R_of r668 rfl), (fun h => (by rw [z634]; exact R_of r633 rfl)), (QX_r (by rw [← he643]; exact sOps_e ⟨p665.1, by have q := p665.2; omega⟩) (by omega) hR640)⟩ (nr_bool (R_of (lo := 0) (hi := 1) r668 rfl)) dX0_readMan_140
              ·
                have r669 : R (0) (0) v659 := ⟨by omega, by omega⟩
                have p670 := (iff_n q662) (by omega)
                refine r_aload_n S dX0_readMan_123 rfl (lv_at hl 0 rfl) ?_
                refine r_iload_n S dX0_readMan_124 rfl (lv_at hl 1 rfl) ?_
                refine r_ki (q_V (As := [.int v3]) (rest := []) (K := 3) (ci := 0) S X657 (c_X0_readOpinion_q l G t627 I628 v3 r10 (by rw [z634]; exact R_of r633 rfl) bb nb fc638 op639 hR640 hO641 hm642) ck0_156 (Nat.le_of_ble_eq_true rfl) rfl (fun _ => ⟨_, rfl⟩) ⟨_, _, rfl⟩ ⟨Nat.le_of_ble_eq_true rfl, Nat.le_of_ble_eq_true rfl⟩ rfl hl.1 rfl (Nat.le_of_ble_eq_true rfl) dX0_readMan_125 ⟨Nat.le_refl 0, Nat.le_refl 0⟩) X657 (fun v674 t673 H lc q671 X672 => ?_)
                unfold po_X0_readOpinion_q at q671
                obtain ⟨q675, q676, q677, q678, q679⟩ := q671
                have F680 : Fr [(3, 1), (3, 2), (4, 3), (1, 3), (1, 4), (1, 5), (1, 7), (1, 8)] [5, 8, 201, 210] τ t673 := Fr_call F629 q676 (by decide)
                refine r_if_ne (tgt := 133) S dX0_readMan_128 (by decide) (fun c681 => ?_) (fun c681 => ?_)
                ·
                  have r682 : R (1) (1) v674 := ⟨by omega, by omega⟩
                  have p683 := q678 (by omega)
                  obtain ⟨v684, z685⟩ : ∃ x, t673 3 1 = x := ⟨_, rfl⟩
                  rw [z685] at p683
                  have p686 := (QX_1 q679) (by omega)
                  obtain ⟨g687, e688, hP689⟩ := p686
                  refine r_iinc (k := 2) S dX0_readMan_133 hl rfl (by decide) (by decide) (fun v690 d691 ls z692 z693 hl => ?_)
                  obtain ⟨e694, r695⟩ := i_add (lo := 1) (hi := 10) z692 r652 (R_eq z693) rfl
                  have hl : lv_has ls 3 [(2, .int v690), (0, .ref (G.2.2.2.1 3)), (1, .int v3)] := hl
                  refine r_goto (tgt := 105) S dX0_readMan_136 (by decide) ?_
                  exact ih637 t673 _ _ _ v690 v684 X672 q675 F680 (R_of r695 rfl) ((q676 4 3 (by decide)).trans z631) z685 ⟨by omega, by omega⟩ ⟨g687.2, (fun j => op639 j || j == g687.1), hP689.1, hP689.2, (by rw [sOp_s e688]; exact hm642), (by rw [← he643, show 10 - i625.toInt.toNat = (10 - v690.toInt.toNat) + 1 by omega]; exact (sOps_r (fun h => p670 ⟨h.1, by have q := h.2; omega⟩) e688).symm)⟩ (lv_sub hl [1, 2, 0] rfl) (by omega)
                ·
                  have r696 : R (0) (0) v674 := ⟨by omega, by omega⟩
                  have p697 := (QX_0 q679) (by omega)
                  obtain ⟨q698, e699, h700, h701⟩ := p697
                  refine r_iconst S dX0_readMan_131 (by decide) (fun v702 z703 => ?_)
                  have r704 := R_eq z703
                  exact r_ret S hr hlk X672 ⟨q675, F680, (R_of r704 rfl), (fun h => by exfalso; omega), (QX_l (by rw [← he643, show 10 - i625.toInt.toNat = (9 - i625.toInt.toNat) + 1 by omega]; exact sOps_l (fun h => p670 ⟨h.1, by have q := h.2; omega⟩) e699) (by omega) h700 h701)⟩ (nr_bool (R_of (lo := 0) (hi := 1) r704 rfl)) dX0_readMan_132
        exact L635 _ t95 _ _ _ v100 v89 X97 I98 F99 (R_of r102 rfl) ((M96.2 4 3 (Or.inl (by decide))).trans ((q78 4 3 (by decide)).trans ((q63 4 3 (by decide)).trans M53.1))) ((M96.2 3 1 (Or.inl (by decide))).trans z90) ⟨by omega, by omega⟩ ⟨g92.2, (fun _ => false), (RC_fr hP94.2 (fun j => ((M96.2 1 j (Or.inl (by decide))).trans rfl)) (fun j => ((M96.2 2 j (Or.inl (by decide))).trans rfl)) (fun j => ((M96.2 201 j (Or.inl (by decide))).trans rfl)) ((M96.2 3 5 (Or.inl (by decide))).trans rfl) ((M96.2 3 6 (Or.inl (by decide))).trans rfl) (fun j => ((M96.2 4 j (Or.inl (by decide))).trans rfl)) (fun j => ((M96.2 6 j (Or.inl (by decide))).trans rfl)) (fun j => ((M96.2 7 j (Or.inl (by decide))).trans rfl)) (fun j => ((M96.2 8 j (Or.inl (by decide))).trans rfl)) (fun j => ((M96.2 209 j (Or.inl (by decide))).trans rfl)) (fun j => ((M96.2 210 j (Or.inl (by decide))).trans rfl))), RO_eq (RO_0 hP37.2 (m := v3.toInt.toNat) (by show (gmn fs.2).length ≤ _; omega) (by omega)) (fun j => ((M96.2 8 j (Or.inl (by decide))).trans ((q78 8 j (by simp [fz])).trans ((q63 8 j (by simp [fz])).trans ((M53.2 8 j (Or.inl (by decide))).trans ((M42.1 8 (by decide) j).trans rfl)))))), (by rw [sNum_s e93]; show _ < (gmn fs.2 ++ [_]).length; rw [List.length_append]; show _ < _ + 1; omega), (by rw [show 10 - v100.toInt.toNat = 10 by omega]; exact (sMan_r (by have q := (RP_mnm hR.2).1; rw [z4] at q; omega) e36 e93).symm)⟩ (lv_sub hl [2, 1, 0] rfl) (Nat.lt_succ_self _)
      ·
        have r705 : R (0) (0) v76 := ⟨by omega, by omega⟩
        have p706 := (QX_0 q81) (by omega)
        obtain ⟨q707, e708, h709, h710⟩ := p706
        refine r_iconst S dX0_readMan_88 (by decide) (fun v711 z712 => ?_)
        have r713 := R_eq z712
        exact r_ret S hr hlk X74 ⟨q77, F82, (R_of r713 rfl), (fun h => by exfalso; omega), (QX_l (sMan_l2 (by have q := (RP_mnm hR.2).1; rw [z4] at q; omega) e36 e708) (by omega) h709 h710)⟩ (nr_bool (R_of (lo := 0) (hi := 1) r713 rfl)) dX0_readMan_89
    ·
      have r714 : R (0) (0) v22 := ⟨by omega, by omega⟩
      have p715 := (QX_0 q27) (by omega)
      obtain ⟨q716, e717, h718, h719⟩ := p715
      refine r_iconst S dX0_readMan_32 (by decide) (fun v720 z721 => ?_)
      have r722 := R_eq z721
      exact r_ret S hr hlk X20 ⟨q23, F28, (R_of r722 rfl), (fun h => by exfalso; omega), (QX_l (sMan_l1 (by have q := (RP_mnm hR.2).1; rw [z4] at q; omega) e717) (by omega) h718 h719)⟩ (nr_bool (R_of (lo := 0) (hi := 1) r722 rfl)) dX0_readMan_33
  ·
    have r723 : R (10) (10) v3 := ⟨by omega, by omega⟩
    refine r_aload_n S dX0_readMan_12 rfl (lv_at hl 0 rfl) ?_
    refine r_iconst S dX0_readMan_13 (by decide) (fun v724 z725 => ?_)
    have r726 := R_eq z725
    refine r_ki (q_U (As := [.int v724]) (rest := []) (K := 3) (ci := 0) S X (c_X8_fail_q l G τ hI v724 (R_of (lo := -2147483648) (hi := 2147483647) r726 rfl)) ck0_98_0 (Nat.le_of_ble_eq_true rfl) rfl (fun _ => ⟨_, rfl⟩) ⟨_, _, rfl⟩ ⟨Nat.le_of_ble_eq_true rfl, Nat.le_of_ble_eq_true rfl⟩ rfl hl.1 rfl (Nat.le_of_ble_eq_true rfl) dX0_readMan_14 ⟨Nat.le_refl 0, Nat.le_refl 0⟩) X (fun v730 t729 H lc q727 X728 => ?_)
    unfold po_X8_fail_q at q727
    obtain ⟨q731, q732, q733, q734⟩ := q727
    have F735 : Fr [(3, 1), (3, 2), (4, 3), (1, 3), (1, 4), (1, 5), (1, 7), (1, 8)] [5, 8, 201, 210] τ t729 := Fr_call Fr_rfl q732 (by decide)
    exact r_ret S hr hlk X728 ⟨q731, F735, (R_of q733 rfl), (fun h => by exfalso; omega), (QX_b (sMan_b (by have q := (RP_mnm hR.2).1; rw [z4] at q; omega)) (by omega) (by rw [q734]; omega) (RC_at (RC_fr hR (fun j => ((q732 1 j (by simp [fz])).trans rfl)) (fun j => ((q732 2 j (by simp [fz])).trans rfl)) (fun j => ((q732 201 j (by simp [fz])).trans rfl)) ((q732 3 5 (by decide)).trans rfl) ((q732 3 6 (by decide)).trans rfl) (fun j => ((q732 4 j (by simp [fz])).trans rfl)) (fun j => ((q732 6 j (by simp [fz])).trans rfl)) (fun j => ((q732 7 j (by simp [fz])).trans rfl)) (fun j => ((q732 8 j (by simp [fz])).trans rfl)) (fun j => ((q732 209 j (by simp [fz])).trans rfl)) (fun j => ((q732 210 j (by simp [fz])).trans rfl)))))⟩ (nr_bool (R_of (lo := 0) (hi := 1) q733 rfl)) dX0_readMan_17
def po_X0_readLine_q (τ : Tau)    (bb : Nat → Int) (nb : Nat) (fs : FS) (r : Int32) (u : Tau) : Prop := Inv u ∧ Fr [(3, 1), (3, 2), (3, 5), (3, 6), (4, 0), (4, 1), (4, 2), (4, 3), (4, 4), (1, 3), (1, 4), (1, 5), (1, 7), (1, 8)] [5, 6, 7, 8, 201, 210, 209] τ u ∧ R (0) (1) r ∧ (r.toInt = 1 → R (0) (0) (u 3 1)) ∧ QX (sLine bb nb fs) r u (fun g => RC bb nb u g)
set_option maxHeartbeats 4000000 in
set_option maxRecDepth 100000 in
theorem c_X0_readLine_q (l : Launch) (G : Gx) (τ : Tau) (hI : Inv τ) (hf_0 : R (0) (0) (τ 3 1)) (bb : Nat → Int) (nb : Nat) (fs : FS) (hR : RC bb nb τ fs) : Ci l G yX0_readLine cX0_readLine 1 (some .boolean) 4 91 [.ref (G.2.2.2.1 3)] τ (po_X0_readLine_q τ    bb nb fs) := by
  unfold Ci
  refine C_of (own := RX0) (by decide) rfl (Nat.le_of_ble_eq_true rfl) ?_
  intro p e s m below meth c ls S hr hlk X hl
  have hl : lv_has ls 1 [(0, .ref (G.2.2.2.1 3))] := hl
  obtain ⟨v1, z2⟩ : ∃ x, τ 3 1 = x := ⟨_, rfl⟩
  rw [z2] at hf_0
  refine r_aload_n S dX0_readLine_0 rfl (lv_at hl 0 rfl) ?_
  refine r_get (K := 3) (v := .ref (G.2.2.2.1 1)) S X (Nat.le_of_ble_eq_true rfl) rfl lk0_38_0 (fun _ => ⟨_, rfl, rfl⟩) dX0_readLine_1 ?_
  refine r_wst (i := 0) S X (by decide) kw18 dX0_readLine_4 ?_
  refine r_ki (q_V (As := [.ref (G.2.2.1 0)]) (rest := []) (K := 1) (ci := 7) S X (c_X7_is_q l G τ hI 0 (by decide) bb nb 900 fs.1 hR.1) ck0_61 (Nat.le_of_ble_eq_true rfl) rfl (fun _ => ⟨_, rfl⟩) ⟨_, _, rfl⟩ ⟨Nat.le_of_ble_eq_true rfl, Nat.le_of_ble_eq_true rfl⟩ rfl hl.1 rfl (Nat.le_of_ble_eq_true rfl) dX0_readLine_7 ⟨Nat.le_refl 0, Nat.le_refl 0⟩) X (fun v6 t5 H lc q3 X4 => ?_)
  unfold po_X7_is_q at q3
  obtain ⟨q7, q8, q9⟩ := q3
  rw [q7] at X4
  refine r_if_eq (tgt := 18) S dX0_readLine_10 (by decide) (fun c10 => ?_) (fun c10 => ?_)
  ·
    have r11 : R (0) (0) v6 := ⟨by omega, by omega⟩
    have p12 := (iff_n q9) (by omega)
    refine r_aload_n S dX0_readLine_18 rfl (lv_at hl 0 rfl) ?_
    refine r_get (K := 3) (v := .ref (G.2.2.2.1 1)) S X4 (Nat.le_of_ble_eq_true rfl) rfl lk0_38_0 (fun _ => ⟨_, rfl, rfl⟩) dX0_readLine_19 ?_
    refine r_wst (i := 1) S X4 (by decide) kw19 dX0_readLine_22 ?_
    refine r_ki (q_V (As := [.ref (G.2.2.1 1)]) (rest := []) (K := 1) (ci := 7) S X4 (c_X7_is_q l G τ hI 1 (by decide) bb nb 900 fs.1 hR.1) ck0_61 (Nat.le_of_ble_eq_true rfl) rfl (fun _ => ⟨_, rfl⟩) ⟨_, _, rfl⟩ ⟨Nat.le_of_ble_eq_true rfl, Nat.le_of_ble_eq_true rfl⟩ rfl hl.1 rfl (Nat.le_of_ble_eq_true rfl) dX0_readLine_25 ⟨Nat.le_refl 0, Nat.le_refl 0⟩) X4 (fun v16 t15 H lc q13 X14 => ?_)
    unfold po_X7_is_q at q13
    obtain ⟨q17, q18, q19⟩ := q13
    rw [q17] at X14
    refine r_if_eq (tgt := 36) S dX0_readLine_28 (by decide) (fun c20 => ?_) (fun c20 => ?_)
    ·
      have r21 : R (0) (0) v16 := ⟨by omega, by omega⟩
      have p22 := (iff_n q19) (by omega)
      refine r_aload_n S dX0_readLine_36 rfl (lv_at hl 0 rfl) ?_
      refine r_get (K := 3) (v := .ref (G.2.2.2.1 1)) S X14 (Nat.le_of_ble_eq_true rfl) rfl lk0_38_0 (fun _ => ⟨_, rfl, rfl⟩) dX0_readLine_37 ?_
      refine r_wst (i := 2) S X14 (by decide) kw20 dX0_readLine_40 ?_
      refine r_ki (q_V (As := [.ref (G.2.2.1 2)]) (rest := []) (K := 1) (ci := 7) S X14 (c_X7_is_q l G τ hI 2 (by decide) bb nb 900 fs.1 hR.1) ck0_61 (Nat.le_of_ble_eq_true rfl) rfl (fun _ => ⟨_, rfl⟩) ⟨_, _, rfl⟩ ⟨Nat.le_of_ble_eq_true rfl, Nat.le_of_ble_eq_true rfl⟩ rfl hl.1 rfl (Nat.le_of_ble_eq_true rfl) dX0_readLine_43 ⟨Nat.le_refl 0, Nat.le_refl 0⟩) X14 (fun v26 t25 H lc q23 X24 => ?_)
      unfold po_X7_is_q at q23
      obtain ⟨q27, q28, q29⟩ := q23
      rw [q27] at X24
      refine r_if_eq (tgt := 54) S dX0_readLine_46 (by decide) (fun c30 => ?_) (fun c30 => ?_)
      ·
        have r31 : R (0) (0) v26 := ⟨by omega, by omega⟩
        have p32 := (iff_n q29) (by omega)
        refine r_aload_n S dX0_readLine_54 rfl (lv_at hl 0 rfl) ?_
        refine r_get (K := 3) (v := .ref (G.2.2.2.1 1)) S X24 (Nat.le_of_ble_eq_true rfl) rfl lk0_38_0 (fun _ => ⟨_, rfl, rfl⟩) dX0_readLine_55 ?_
        refine r_wst (i := 3) S X24 (by decide) kw21 dX0_readLine_58 ?_
        refine r_ki (q_V (As := [.ref (G.2.2.1 3)]) (rest := []) (K := 1) (ci := 7) S X24 (c_X7_is_q l G τ hI 3 (by decide) bb nb 900 fs.1 hR.1) ck0_61 (Nat.le_of_ble_eq_true rfl) rfl (fun _ => ⟨_, rfl⟩) ⟨_, _, rfl⟩ ⟨Nat.le_of_ble_eq_true rfl, Nat.le_of_ble_eq_true rfl⟩ rfl hl.1 rfl (Nat.le_of_ble_eq_true rfl) dX0_readLine_61 ⟨Nat.le_refl 0, Nat.le_refl 0⟩) X24 (fun v36 t35 H lc q33 X34 => ?_)
        unfold po_X7_is_q at q33
        obtain ⟨q37, q38, q39⟩ := q33
        rw [q37] at X34
        refine r_if_eq (tgt := 72) S dX0_readLine_64 (by decide) (fun c40 => ?_) (fun c40 => ?_)
        ·
          have r41 : R (0) (0) v36 := ⟨by omega, by omega⟩
          have p42 := (iff_n q39) (by omega)
          refine r_aload_n S dX0_readLine_72 rfl (lv_at hl 0 rfl) ?_
          refine r_get (K := 3) (v := .ref (G.2.2.2.1 1)) S X34 (Nat.le_of_ble_eq_true rfl) rfl lk0_38_0 (fun _ => ⟨_, rfl, rfl⟩) dX0_readLine_73 ?_
          refine r_wst (i := 6) S X34 (by decide) kw22 dX0_readLine_76 ?_
          refine r_ki (q_V (As := [.ref (G.2.2.1 6)]) (rest := []) (K := 1) (ci := 7) S X34 (c_X7_is_q l G τ hI 6 (by decide) bb nb 900 fs.1 hR.1) ck0_61 (Nat.le_of_ble_eq_true rfl) rfl (fun _ => ⟨_, rfl⟩) ⟨_, _, rfl⟩ ⟨Nat.le_of_ble_eq_true rfl, Nat.le_of_ble_eq_true rfl⟩ rfl hl.1 rfl (Nat.le_of_ble_eq_true rfl) dX0_readLine_79 ⟨Nat.le_refl 0, Nat.le_refl 0⟩) X34 (fun v46 t45 H lc q43 X44 => ?_)
          unfold po_X7_is_q at q43
          obtain ⟨q47, q48, q49⟩ := q43
          rw [q47] at X44
          refine r_if_eq (tgt := 90) S dX0_readLine_82 (by decide) (fun c50 => ?_) (fun c50 => ?_)
          ·
            have r51 : R (0) (0) v46 := ⟨by omega, by omega⟩
            have p52 := (iff_n q49) (by omega)
            refine r_aload_n S dX0_readLine_90 rfl (lv_at hl 0 rfl) ?_
            refine r_get (K := 3) (v := .ref (G.2.2.2.1 1)) S X44 (Nat.le_of_ble_eq_true rfl) rfl lk0_38_0 (fun _ => ⟨_, rfl, rfl⟩) dX0_readLine_91 ?_
            refine r_wst (i := 7) S X44 (by decide) kw23 dX0_readLine_94 ?_
            refine r_ki (q_V (As := [.ref (G.2.2.1 7)]) (rest := []) (K := 1) (ci := 7) S X44 (c_X7_is_q l G τ hI 7 (by decide) bb nb 900 fs.1 hR.1) ck0_61 (Nat.le_of_ble_eq_true rfl) rfl (fun _ => ⟨_, rfl⟩) ⟨_, _, rfl⟩ ⟨Nat.le_of_ble_eq_true rfl, Nat.le_of_ble_eq_true rfl⟩ rfl hl.1 rfl (Nat.le_of_ble_eq_true rfl) dX0_readLine_97 ⟨Nat.le_refl 0, Nat.le_refl 0⟩) X44 (fun v56 t55 H lc q53 X54 => ?_)
            unfold po_X7_is_q at q53
            obtain ⟨q57, q58, q59⟩ := q53
            rw [q57] at X54
            refine r_if_eq (tgt := 108) S dX0_readLine_100 (by decide) (fun c60 => ?_) (fun c60 => ?_)
            ·
              have r61 : R (0) (0) v56 := ⟨by omega, by omega⟩
              have p62 := (iff_n q59) (by omega)
              refine r_aload_n S dX0_readLine_108 rfl (lv_at hl 0 rfl) ?_
              refine r_iconst S dX0_readLine_109 (by decide) (fun v63 z64 => ?_)
              have r65 := R_eq z64
              refine r_ki (q_U (As := [.int v63]) (rest := []) (K := 3) (ci := 0) S X54 (c_X8_fail_q l G τ hI v63 (R_of (lo := -2147483648) (hi := 2147483647) r65 rfl)) ck0_98_0 (Nat.le_of_ble_eq_true rfl) rfl (fun _ => ⟨_, rfl⟩) ⟨_, _, rfl⟩ ⟨Nat.le_of_ble_eq_true rfl, Nat.le_of_ble_eq_true rfl⟩ rfl hl.1 rfl (Nat.le_of_ble_eq_true rfl) dX0_readLine_110 ⟨Nat.le_refl 0, Nat.le_refl 0⟩) X54 (fun v69 t68 H lc q66 X67 => ?_)
              unfold po_X8_fail_q at q66
              obtain ⟨q70, q71, q72, q73⟩ := q66
              have F74 : Fr [(3, 1), (3, 2), (3, 5), (3, 6), (4, 0), (4, 1), (4, 2), (4, 3), (4, 4), (1, 3), (1, 4), (1, 5), (1, 7), (1, 8)] [5, 6, 7, 8, 201, 210, 209] τ t68 := Fr_call Fr_rfl q71 (by decide)
              exact r_ret S hr hlk X67 ⟨q70, F74, (R_of q72 rfl), (fun h => by exfalso; omega), (QX_b (sLine_b p12 p22 p32 p42 p52 p62) (by omega) (by rw [q73]; omega) (RC_at (RC_fr hR (fun j => ((q71 1 j (by simp [fz])).trans rfl)) (fun j => ((q71 2 j (by simp [fz])).trans rfl)) (fun j => ((q71 201 j (by simp [fz])).trans rfl)) ((q71 3 5 (by decide)).trans rfl) ((q71 3 6 (by decide)).trans rfl) (fun j => ((q71 4 j (by simp [fz])).trans rfl)) (fun j => ((q71 6 j (by simp [fz])).trans rfl)) (fun j => ((q71 7 j (by simp [fz])).trans rfl)) (fun j => ((q71 8 j (by simp [fz])).trans rfl)) (fun j => ((q71 209 j (by simp [fz])).trans rfl)) (fun j => ((q71 210 j (by simp [fz])).trans rfl)))))⟩ (nr_bool (R_of (lo := 0) (hi := 1) q72 rfl)) dX0_readLine_113
            ·
              have r75 : R (1) (1) v56 := ⟨by omega, by omega⟩
              have p76 := (q59).mp (by omega)
              refine r_aload_n S dX0_readLine_103 rfl (lv_at hl 0 rfl) ?_
              refine r_ki (q_V (As := []) (rest := []) (K := 3) (ci := 0) S X54 (c_X0_readKin_q l G τ hI (by rw [z2]; exact R_of hf_0 rfl) bb nb fs hR p76.1) ck0_95 (Nat.le_of_ble_eq_true rfl) rfl (fun _ => ⟨_, rfl⟩) ⟨_, _, rfl⟩ ⟨Nat.le_of_ble_eq_true rfl, Nat.le_of_ble_eq_true rfl⟩ rfl hl.1 rfl (Nat.le_of_ble_eq_true rfl) dX0_readLine_104 ⟨Nat.le_refl 0, Nat.le_refl 0⟩) X54 (fun v80 t79 H lc q77 X78 => ?_)
              unfold po_X0_readKin_q at q77
              obtain ⟨q81, q82, q83, q84, q85⟩ := q77
              have F86 : Fr [(3, 1), (3, 2), (3, 5), (3, 6), (4, 0), (4, 1), (4, 2), (4, 3), (4, 4), (1, 3), (1, 4), (1, 5), (1, 7), (1, 8)] [5, 6, 7, 8, 201, 210, 209] τ t79 := Fr_call Fr_rfl q82 (by decide)
              exact r_ret S hr hlk X78 ⟨q81, F86, q83, (fun h => q84 h), (by rw [sLine_7 p12 p22 p32 p42 p52 p76]; exact q85)⟩ (nr_bool (R_of (lo := 0) (hi := 1) q83 rfl)) dX0_readLine_107
          ·
            have r87 : R (1) (1) v46 := ⟨by omega, by omega⟩
            have p88 := (q49).mp (by omega)
            refine r_aload_n S dX0_readLine_85 rfl (lv_at hl 0 rfl) ?_
            refine r_ki (q_V (As := []) (rest := []) (K := 3) (ci := 0) S X44 (c_X0_readChild_q l G τ hI (by rw [z2]; exact R_of hf_0 rfl) bb nb fs hR p88.1) ck0_89 (Nat.le_of_ble_eq_true rfl) rfl (fun _ => ⟨_, rfl⟩) ⟨_, _, rfl⟩ ⟨Nat.le_of_ble_eq_true rfl, Nat.le_of_ble_eq_true rfl⟩ rfl hl.1 rfl (Nat.le_of_ble_eq_true rfl) dX0_readLine_86 ⟨Nat.le_refl 0, Nat.le_refl 0⟩) X44 (fun v92 t91 H lc q89 X90 => ?_)
            unfold po_X0_readChild_q at q89
            obtain ⟨q93, q94, q95, q96, q97⟩ := q89
            have F98 : Fr [(3, 1), (3, 2), (3, 5), (3, 6), (4, 0), (4, 1), (4, 2), (4, 3), (4, 4), (1, 3), (1, 4), (1, 5), (1, 7), (1, 8)] [5, 6, 7, 8, 201, 210, 209] τ t91 := Fr_call Fr_rfl q94 (by decide)
            exact r_ret S hr hlk X90 ⟨q93, F98, q95, (fun h => q96 h), (by rw [sLine_6 p12 p22 p32 p42 p88]; exact q97)⟩ (nr_bool (R_of (lo := 0) (hi := 1) q95 rfl)) dX0_readLine_89
        ·
          have r99 : R (1) (1) v36 := ⟨by omega, by omega⟩
          have p100 := (q39).mp (by omega)
          refine r_aload_n S dX0_readLine_67 rfl (lv_at hl 0 rfl) ?_
          refine r_ki (q_V (As := []) (rest := []) (K := 3) (ci := 0) S X34 (c_X0_readMan_q l G τ hI (by rw [z2]; exact R_of hf_0 rfl) bb nb fs hR p100.1) ck0_83 (Nat.le_of_ble_eq_true rfl) rfl (fun _ => ⟨_, rfl⟩) ⟨_, _, rfl⟩ ⟨Nat.le_of_ble_eq_true rfl, Nat.le_of_ble_eq_true rfl⟩ rfl hl.1 rfl (Nat.le_of_ble_eq_true rfl) dX0_readLine_68 ⟨Nat.le_refl 0, Nat.le_refl 0⟩) X34 (fun v104 t103 H lc q101 X102 => ?_)
          unfold po_X0_readMan_q at q101
          obtain ⟨q105, q106, q107, q108, q109⟩ := q101
          have F110 : Fr [(3, 1), (3, 2), (3, 5), (3, 6), (4, 0), (4, 1), (4, 2), (4, 3), (4, 4), (1, 3), (1, 4), (1, 5), (1, 7), (1, 8)] [5, 6, 7, 8, 201, 210, 209] τ t103 := Fr_call Fr_rfl q106 (by decide)
          exact r_ret S hr hlk X102 ⟨q105, F110, q107, (fun h => q108 h), (by rw [sLine_3 p12 p22 p32 p100]; exact q109)⟩ (nr_bool (R_of (lo := 0) (hi := 1) q107 rfl)) dX0_readLine_71
      ·
        have r111 : R (1) (1) v26 := ⟨by omega, by omega⟩
        have p112 := (q29).mp (by omega)
        refine r_aload_n S dX0_readLine_49 rfl (lv_at hl 0 rfl) ?_
        refine r_ki (q_V (As := []) (rest := []) (K := 3) (ci := 0) S X24 (c_X0_readAsk_q l G τ hI (by rw [z2]; exact R_of hf_0 rfl) bb nb fs hR p112.1) ck0_77 (Nat.le_of_ble_eq_true rfl) rfl (fun _ => ⟨_, rfl⟩) ⟨_, _, rfl⟩ ⟨Nat.le_of_ble_eq_true rfl, Nat.le_of_ble_eq_true rfl⟩ rfl hl.1 rfl (Nat.le_of_ble_eq_true rfl) dX0_readLine_50 ⟨Nat.le_refl 0, Nat.le_refl 0⟩) X24 (fun v116 t115 H lc q113 X114 => ?_)
        unfold po_X0_readAsk_q at q113
        obtain ⟨q117, q118, q119, q120, q121⟩ := q113
        have F122 : Fr [(3, 1), (3, 2), (3, 5), (3, 6), (4, 0), (4, 1), (4, 2), (4, 3), (4, 4), (1, 3), (1, 4), (1, 5), (1, 7), (1, 8)] [5, 6, 7, 8, 201, 210, 209] τ t115 := Fr_call Fr_rfl q118 (by decide)
        exact r_ret S hr hlk X114 ⟨q117, F122, q119, (fun h => q120 h), (by rw [sLine_2 p12 p22 p112]; exact q121)⟩ (nr_bool (R_of (lo := 0) (hi := 1) q119 rfl)) dX0_readLine_53
    ·
      have r123 : R (1) (1) v16 := ⟨by omega, by omega⟩
      have p124 := (q19).mp (by omega)
      refine r_aload_n S dX0_readLine_31 rfl (lv_at hl 0 rfl) ?_
      refine r_ki (q_V (As := []) (rest := []) (K := 3) (ci := 0) S X14 (c_X0_readSlack_q l G τ hI (by rw [z2]; exact R_of hf_0 rfl) bb nb fs hR p124) ck0_71 (Nat.le_of_ble_eq_true rfl) rfl (fun _ => ⟨_, rfl⟩) ⟨_, _, rfl⟩ ⟨Nat.le_of_ble_eq_true rfl, Nat.le_of_ble_eq_true rfl⟩ rfl hl.1 rfl (Nat.le_of_ble_eq_true rfl) dX0_readLine_32 ⟨Nat.le_refl 0, Nat.le_refl 0⟩) X14 (fun v128 t127 H lc q125 X126 => ?_)
      unfold po_X0_readSlack_q at q125
      obtain ⟨q129, q130, q131, q132, q133⟩ := q125
      have F134 : Fr [(3, 1), (3, 2), (3, 5), (3, 6), (4, 0), (4, 1), (4, 2), (4, 3), (4, 4), (1, 3), (1, 4), (1, 5), (1, 7), (1, 8)] [5, 6, 7, 8, 201, 210, 209] τ t127 := Fr_call Fr_rfl q130 (by decide)
      exact r_ret S hr hlk X126 ⟨q129, F134, q131, (fun h => q132 h), (by rw [sLine_1 p12 p124]; exact q133)⟩ (nr_bool (R_of (lo := 0) (hi := 1) q131 rfl)) dX0_readLine_35
  ·
    have r135 : R (1) (1) v6 := ⟨by omega, by omega⟩
    have p136 := (q9).mp (by omega)
    refine r_aload_n S dX0_readLine_13 rfl (lv_at hl 0 rfl) ?_
    refine r_ki (q_V (As := []) (rest := []) (K := 3) (ci := 0) S X4 (c_X0_readSeats_q l G τ hI (by rw [z2]; exact R_of hf_0 rfl) bb nb fs hR p136) ck0_65 (Nat.le_of_ble_eq_true rfl) rfl (fun _ => ⟨_, rfl⟩) ⟨_, _, rfl⟩ ⟨Nat.le_of_ble_eq_true rfl, Nat.le_of_ble_eq_true rfl⟩ rfl hl.1 rfl (Nat.le_of_ble_eq_true rfl) dX0_readLine_14 ⟨Nat.le_refl 0, Nat.le_refl 0⟩) X4 (fun v140 t139 H lc q137 X138 => ?_)
    unfold po_X0_readSeats_q at q137
    obtain ⟨q141, q142, q143, q144, q145⟩ := q137
    have F146 : Fr [(3, 1), (3, 2), (3, 5), (3, 6), (4, 0), (4, 1), (4, 2), (4, 3), (4, 4), (1, 3), (1, 4), (1, 5), (1, 7), (1, 8)] [5, 6, 7, 8, 201, 210, 209] τ t139 := Fr_call Fr_rfl q142 (by decide)
    exact r_ret S hr hlk X138 ⟨q141, F146, q143, (fun h => q144 h), (by rw [sLine_0 p136]; exact q145)⟩ (nr_bool (R_of (lo := 0) (hi := 1) q143 rfl)) dX0_readLine_17
