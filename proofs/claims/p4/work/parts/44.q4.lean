def po_X11_bit_q (τ : Tau)  (a0 a1 : Int32)   (r : Int32) (u : Tau) : Prop := u = τ ∧ R (0) (1) r ∧ (r.toInt = 1 ↔ kb a0 a1.toInt.toNat)
set_option maxHeartbeats 4000000 in
set_option maxRecDepth 100000 in
theorem c_X11_bit_q (l : Launch) (G : Gx) (τ : Tau) (hI : Inv τ) (a0 : Int32) (a1 : Int32) (h_a0 : R (0) (1023) a0) (h_a1 : R (0) (9) a1) : Ci l G yX11_bit cX11_bit 2 (some .int) 0 0 [.int a0, .int a1] τ (po_X11_bit_q τ  a0 a1  ) := by
  unfold Ci
  refine C_of (own := RX11) (by decide) rfl (Nat.le_of_ble_eq_true rfl) ?_
  intro p e s m below meth c ls S hr hlk X hl
  have hl : lv_has ls 2 [(0, .int a0), (1, .int a1)] := hl
  refine r_iload_n S dX11_bit_0 rfl (lv_at hl 0 rfl) ?_
  refine r_iload_n S dX11_bit_1 rfl (lv_at hl 1 rfl) ?_
  refine r_ishr S dX11_bit_2 (fun v1 z2 => ?_)
  have r4 : R (0) (1023) v1 := i_shr z2 h_a0 h_a1 rfl
  refine r_iconst S dX11_bit_3 (by decide) (fun v5 z6 => ?_)
  have r7 := R_eq z6
  refine r_iand S dX11_bit_4 (fun v8 z9 => ?_)
  have r11 : R (0) (1) v8 := i_and2 z9 r4 r7 rfl
  have e12 := i_andle z9 r4 rfl
  exact r_ret S hr hlk X ⟨rfl, r11, (bit_q z2 (by omega) z9 h_a1)⟩ rfl dX11_bit_5
def po_X0_readChild_q (τ : Tau)    (bb : Nat → Int) (nb : Nat) (fs : FS) (r : Int32) (u : Tau) : Prop := Inv u ∧ Fr [(3, 1), (3, 2), (1, 3), (1, 4), (1, 5), (1, 7), (1, 8)] [6, 201] τ u ∧ R (0) (1) r ∧ QX (sChild bb nb fs) r u (fun g => RC bb nb u g)
set_option maxHeartbeats 4000000 in
set_option maxRecDepth 100000 in
theorem c_X0_readChild_q (l : Launch) (G : Gx) (τ : Tau) (hI : Inv τ) (bb : Nat → Int) (nb : Nat) (fs : FS) (hR : RC bb nb τ fs) (hW : fs.1.1 = 1) : Ci l G yX0_readChild cX0_readChild 2 (some .boolean) 2 44 [.ref (G.2.2.2.1 3)] τ (po_X0_readChild_q τ    bb nb fs) := by
  unfold Ci
  refine C_of (own := RX0) (by decide) rfl (Nat.le_of_ble_eq_true rfl) ?_
  intro p e s m below meth c ls S hr hlk X hl
  have hl : lv_has ls 2 [(0, .ref (G.2.2.2.1 3))] := hl
  refine r_aload_n S dX0_readChild_0 rfl (lv_at hl 0 rfl) ?_
  refine r_get (K := 3) (v := .ref (G.2.2.2.1 1)) S X (Nat.le_of_ble_eq_true rfl) rfl lk0_38_0 (fun _ => ⟨_, rfl, rfl⟩) dX0_readChild_1 ?_
  refine r_kv (q_V (As := []) (rest := []) (K := 1) (ci := 7) S X (c_X7_step_q l G τ hI bb nb 900 fs.1.2.2 (RT_st hR.1 (Or.inl hW)).1 (RT_st hR.1 (Or.inl hW)).2.1 (RT_st hR.1 (Or.inl hW)).2.2) ck0_102 (Nat.le_of_ble_eq_true rfl) rfl (fun _ => ⟨_, rfl⟩) ⟨_, _, rfl⟩ ⟨Nat.le_of_ble_eq_true rfl, Nat.le_of_ble_eq_true rfl⟩ rfl hl.1 rfl (Nat.le_of_ble_eq_true rfl) dX0_readChild_4 ⟨Nat.le_refl 0, Nat.le_refl 0⟩) X (fun t3 H lc q1 X2 => ?_)
  unfold po_X7_step_q at q1
  obtain ⟨q4, q5, q6⟩ := q1
  have F7 : Fr [(3, 1), (3, 2), (1, 3), (1, 4), (1, 5), (1, 7), (1, 8)] [6, 201] τ t3 := Fr_call Fr_rfl q5 (by decide)
  have hR8 : RC bb nb t3 (stp bb nb fs) := ⟨q6, RP_fr hR.2 ((q5 3 5 (by decide)).trans rfl) ((q5 3 6 (by decide)).trans rfl) (fun j => ((q5 4 j (by simp [fz])).trans rfl)) (fun j => ((q5 6 j (by simp [fz])).trans rfl)) (fun j => ((q5 7 j (by simp [fz])).trans rfl)) (fun j => ((q5 8 j (by simp [fz])).trans rfl)) (fun j => ((q5 209 j (by simp [fz])).trans rfl)) (fun j => ((q5 210 j (by simp [fz])).trans rfl))⟩
  refine r_aload_n S dX0_readChild_7 rfl (lv_at hl 0 rfl) ?_
  refine r_aload_n S dX0_readChild_8 rfl (lv_at hl 0 rfl) ?_
  refine r_get (K := 3) (v := .ref (G.2.2.2.1 4)) S X2 (Nat.le_of_ble_eq_true rfl) rfl lk0_14_0 (fun _ => ⟨_, rfl, rfl⟩) dX0_readChild_9 ?_
  refine r_ki (q_U (As := [.ref (G.2.2.2.1 4)]) (rest := []) (K := 3) (ci := 0) S X2 (c_X8_seeMan_q l G t3 q4 bb nb (stp bb nb fs) hR8 ) ck0_169_0 (Nat.le_of_ble_eq_true rfl) rfl (fun _ => ⟨_, rfl⟩) ⟨_, _, rfl⟩ ⟨Nat.le_of_ble_eq_true rfl, Nat.le_of_ble_eq_true rfl⟩ rfl hl.1 rfl (Nat.le_of_ble_eq_true rfl) dX0_readChild_12 ⟨Nat.le_refl 0, Nat.le_refl 0⟩) X2 (fun v12 t11 H lc q9 X10 => ?_)
  unfold po_X8_seeMan_q at q9
  obtain ⟨q13, q14, q15, q16, q17⟩ := q9
  have F18 : Fr [(3, 1), (3, 2), (1, 3), (1, 4), (1, 5), (1, 7), (1, 8)] [6, 201] τ t11 := Fr_call F7 q14 (by decide)
  refine r_if_ne (tgt := 20) S dX0_readChild_15 (by decide) (fun c19 => ?_) (fun c19 => ?_)
  ·
    have r20 : R (1) (1) v12 := ⟨by omega, by omega⟩
    have p21 := q16 (by omega)
    obtain ⟨v22, z23⟩ : ∃ x, t11 3 2 = x := ⟨_, rfl⟩
    rw [z23] at p21
    have p24 := (QX_1 q17) (by omega)
    obtain ⟨g25, e26, hP27⟩ := p24
    refine r_aload_n S dX0_readChild_20 rfl (lv_at hl 0 rfl) ?_
    refine r_geti (K := 3) S X10 (Nat.le_of_ble_eq_true rfl) rfl lk0_109_0 (fun _ => ⟨_, rfl, rfl⟩) z23 dX0_readChild_21 ?_
    have e28 : v22.toInt = g25 := by rw [← z23]; exact hP27.1
    have e29 := sLook_x e26
    refine r_istore_n (lv' := [(1, .int v22), (0, .ref (G.2.2.2.1 3))]) S dX0_readChild_24 rfl hl (by decide) rfl (fun ls hl => ?_)
    refine r_aload_n S dX0_readChild_25 rfl (lv_at hl 1 rfl) ?_
    refine r_get (K := 3) (v := .ref (G.2.2.2.1 4)) S X10 (Nat.le_of_ble_eq_true rfl) rfl lk0_14_0 (fun _ => ⟨_, rfl, rfl⟩) dX0_readChild_26 ?_
    refine r_get (K := 4) (v := .ref (G.2.2.2.1 6)) S X10 (Nat.le_of_ble_eq_true rfl) rfl lk0_172_2 (fun _ => ⟨_, rfl, rfl⟩) dX0_readChild_29 ?_
    refine r_iload_n S dX0_readChild_32 rfl (lv_at hl 0 rfl) ?_
    refine r_aldn (n := 10) (K := 6) S X10 (Nat.le_of_ble_eq_true rfl) rfl (fun _ => rfl) (ix_of p21 rfl) dX0_readChild_33 (fun v30 z31 => ?_)
    have r32 : R (-1) (9) v30 := rd q13 rfl z31
    have e34 : t11 6 g25 = v30 := by rw [show g25 = v22.toNatClampNeg by (have c : v22.toNatClampNeg = v22.toInt.toNat := rfl; omega)]; exact z31
    have ho33 : (v30.toInt ≠ -1 ↔ gpa fs.2 g25 = true) := by have q := RP_par hP27.2.2 (i := g25) (by omega); rw [show t11 6 g25 = v30 by assumption] at q; exact q
    refine r_iconst S dX0_readChild_34 (by decide) (fun v35 z36 => ?_)
    have r37 := R_eq z36
    refine r_icmp_eq (tgt := 44) S dX0_readChild_35 (by decide) (fun c38 => ?_) (fun c38 => ?_)
    ·
      have r39 : R (-1) (-1) v30 := ⟨by omega, by omega⟩
      refine r_aload_n S dX0_readChild_44 rfl (lv_at hl 1 rfl) ?_
      refine r_get (K := 3) (v := .ref (G.2.2.2.1 1)) S X10 (Nat.le_of_ble_eq_true rfl) rfl lk0_38_0 (fun _ => ⟨_, rfl, rfl⟩) dX0_readChild_45 ?_
      refine r_kv (q_V (As := []) (rest := []) (K := 1) (ci := 7) S X10 (c_X7_step_q l G t11 q13 bb nb 900 (stp bb nb fs).1.2.2 (RT_st hP27.2.1 (Or.inl (sLook_n e26).1)).1 (RT_st hP27.2.1 (Or.inl (sLook_n e26).1)).2.1 (RT_st hP27.2.1 (Or.inl (sLook_n e26).1)).2.2) ck0_102 (Nat.le_of_ble_eq_true rfl) rfl (fun _ => ⟨_, rfl⟩) ⟨_, _, rfl⟩ ⟨Nat.le_of_ble_eq_true rfl, Nat.le_of_ble_eq_true rfl⟩ rfl hl.1 rfl (Nat.le_of_ble_eq_true rfl) dX0_readChild_48 ⟨Nat.le_refl 0, Nat.le_refl 0⟩) X10 (fun t42 H lc q40 X41 => ?_)
      unfold po_X7_step_q at q40
      obtain ⟨q43, q44, q45⟩ := q40
      have F46 : Fr [(3, 1), (3, 2), (1, 3), (1, 4), (1, 5), (1, 7), (1, 8)] [6, 201] τ t42 := Fr_call F18 q44 (by decide)
      have hR47 : RC bb nb t42 (stp bb nb (stp bb nb fs)) := ⟨q45, RP_fr hP27.2.2 ((q44 3 5 (by decide)).trans rfl) ((q44 3 6 (by decide)).trans rfl) (fun j => ((q44 4 j (by simp [fz])).trans rfl)) (fun j => ((q44 6 j (by simp [fz])).trans rfl)) (fun j => ((q44 7 j (by simp [fz])).trans rfl)) (fun j => ((q44 8 j (by simp [fz])).trans rfl)) (fun j => ((q44 209 j (by simp [fz])).trans rfl)) (fun j => ((q44 210 j (by simp [fz])).trans rfl))⟩
      refine r_aload_n S dX0_readChild_51 rfl (lv_at hl 1 rfl) ?_
      refine r_aload_n S dX0_readChild_52 rfl (lv_at hl 1 rfl) ?_
      refine r_get (K := 3) (v := .ref (G.2.2.2.1 4)) S X41 (Nat.le_of_ble_eq_true rfl) rfl lk0_14_0 (fun _ => ⟨_, rfl, rfl⟩) dX0_readChild_53 ?_
      refine r_ki (q_U (As := [.ref (G.2.2.2.1 4)]) (rest := []) (K := 3) (ci := 0) S X41 (c_X8_seeMan_q l G t42 q43 bb nb (stp bb nb (stp bb nb fs)) hR47 ) ck0_169_0 (Nat.le_of_ble_eq_true rfl) rfl (fun _ => ⟨_, rfl⟩) ⟨_, _, rfl⟩ ⟨Nat.le_of_ble_eq_true rfl, Nat.le_of_ble_eq_true rfl⟩ rfl hl.1 rfl (Nat.le_of_ble_eq_true rfl) dX0_readChild_56 ⟨Nat.le_refl 0, Nat.le_refl 0⟩) X41 (fun v51 t50 H lc q48 X49 => ?_)
      unfold po_X8_seeMan_q at q48
      obtain ⟨q52, q53, q54, q55, q56⟩ := q48
      have F57 : Fr [(3, 1), (3, 2), (1, 3), (1, 4), (1, 5), (1, 7), (1, 8)] [6, 201] τ t50 := Fr_call F46 q53 (by decide)
      refine r_if_ne (tgt := 64) S dX0_readChild_59 (by decide) (fun c58 => ?_) (fun c58 => ?_)
      ·
        have r59 : R (1) (1) v51 := ⟨by omega, by omega⟩
        have p60 := q55 (by omega)
        obtain ⟨v61, z62⟩ : ∃ x, t50 3 2 = x := ⟨_, rfl⟩
        rw [z62] at p60
        have p63 := (QX_1 q56) (by omega)
        obtain ⟨g64, e65, hP66⟩ := p63
        refine r_aload_n S dX0_readChild_64 rfl (lv_at hl 1 rfl) ?_
        refine r_geti (K := 3) S X49 (Nat.le_of_ble_eq_true rfl) rfl lk0_109_0 (fun _ => ⟨_, rfl, rfl⟩) z62 dX0_readChild_65 ?_
        have e67 : v61.toInt = g64 := by rw [← z62]; exact hP66.1
        have e68 := sLook_x e65
        refine r_iload_n S dX0_readChild_68 rfl (lv_at hl 0 rfl) ?_
        refine r_icmp_ne (tgt := 78) S dX0_readChild_69 (by decide) (fun c69 => ?_) (fun c69 => ?_)
        ·
          refine r_aload_n S dX0_readChild_78 rfl (lv_at hl 1 rfl) ?_
          refine r_get (K := 3) (v := .ref (G.2.2.2.1 4)) S X49 (Nat.le_of_ble_eq_true rfl) rfl lk0_14_0 (fun _ => ⟨_, rfl, rfl⟩) dX0_readChild_79 ?_
          refine r_get (K := 4) (v := .ref (G.2.2.2.1 6)) S X49 (Nat.le_of_ble_eq_true rfl) rfl lk0_172_2 (fun _ => ⟨_, rfl, rfl⟩) dX0_readChild_82 ?_
          refine r_iload_n S dX0_readChild_85 rfl (lv_at hl 0 rfl) ?_
          refine r_aload_n S dX0_readChild_86 rfl (lv_at hl 1 rfl) ?_
          refine r_geti (K := 3) S X49 (Nat.le_of_ble_eq_true rfl) rfl lk0_109_0 (fun _ => ⟨_, rfl, rfl⟩) z62 dX0_readChild_87 ?_
          refine r_ast (n := 10) (K := 6) S X49 (Nat.le_of_ble_eq_true rfl) rfl (fun _ _ => rfl) (ix_of p21 rfl) dX0_readChild_90 (fun t70 H lc M71 X72 => ?_)
          have I73 := Inv_mu q52 M71 (show Rg (kd 6) _ v61 from (R_of (lo := -1) (hi := 9) p60 rfl))
          have F74 : Fr [(3, 1), (3, 2), (1, 3), (1, 4), (1, 5), (1, 7), (1, 8)] [6, 201] τ t70 := Fr_cell F57 M71 (by decide)
          have hR75 : RC bb nb t70 ((stp bb nb (stp bb nb fs)).1, upa fs.2 g25) := ⟨RT_fr hP66.2.1 (fun j => ((M71.2 1 j (Or.inl (by decide))).trans rfl)) (fun j => ((M71.2 2 j (Or.inl (by decide))).trans rfl)) (fun j => ((M71.2 201 j (Or.inl (by decide))).trans rfl)), (by have q := RP_pa hP66.2.2 M71 (by omega); rw [show v22.toNatClampNeg = g25 by (have c : v22.toNatClampNeg = v22.toInt.toNat := rfl; omega)] at q; exact q)⟩
          refine r_aload_n S dX0_readChild_91 rfl (lv_at hl 1 rfl) ?_
          refine r_get (K := 3) (v := .ref (G.2.2.2.1 1)) S X72 (Nat.le_of_ble_eq_true rfl) rfl lk0_38_0 (fun _ => ⟨_, rfl, rfl⟩) dX0_readChild_92 ?_
          refine r_kv (q_V (As := []) (rest := []) (K := 1) (ci := 7) S X72 (c_X7_step_q l G t70 I73 bb nb 900 ((stp bb nb (stp bb nb fs)).1, upa fs.2 g25).1.2.2 (RT_st hR75.1 (Or.inl (sLook_n e65).1)).1 (RT_st hR75.1 (Or.inl (sLook_n e65).1)).2.1 (RT_st hR75.1 (Or.inl (sLook_n e65).1)).2.2) ck0_102 (Nat.le_of_ble_eq_true rfl) rfl (fun _ => ⟨_, rfl⟩) ⟨_, _, rfl⟩ ⟨Nat.le_of_ble_eq_true rfl, Nat.le_of_ble_eq_true rfl⟩ rfl hl.1 rfl (Nat.le_of_ble_eq_true rfl) dX0_readChild_95 ⟨Nat.le_refl 0, Nat.le_refl 0⟩) X72 (fun t78 H lc q76 X77 => ?_)
          unfold po_X7_step_q at q76
          obtain ⟨q79, q80, q81⟩ := q76
          have F82 : Fr [(3, 1), (3, 2), (1, 3), (1, 4), (1, 5), (1, 7), (1, 8)] [6, 201] τ t78 := Fr_call F74 q80 (by decide)
          have hR83 : RC bb nb t78 (stp bb nb ((stp bb nb (stp bb nb fs)).1, upa fs.2 g25)) := ⟨q81, RP_fr hR75.2 ((q80 3 5 (by decide)).trans rfl) ((q80 3 6 (by decide)).trans rfl) (fun j => ((q80 4 j (by simp [fz])).trans rfl)) (fun j => ((q80 6 j (by simp [fz])).trans rfl)) (fun j => ((q80 7 j (by simp [fz])).trans rfl)) (fun j => ((q80 8 j (by simp [fz])).trans rfl)) (fun j => ((q80 209 j (by simp [fz])).trans rfl)) (fun j => ((q80 210 j (by simp [fz])).trans rfl))⟩
          refine r_iconst S dX0_readChild_98 (by decide) (fun v84 z85 => ?_)
          have r86 := R_eq z85
          exact r_ret S hr hlk X77 ⟨q79, F82, (R_of r86 rfl), (QX_r (sChild_r e26 (fun h => absurd (ho33.mpr h) (by omega)) e65 (by omega)) (by omega) hR83)⟩ (nr_bool (R_of (lo := 0) (hi := 1) r86 rfl)) dX0_readChild_99
        ·
          refine r_aload_n S dX0_readChild_72 rfl (lv_at hl 1 rfl) ?_
          refine r_iconst S dX0_readChild_73 (by decide) (fun v87 z88 => ?_)
          have r89 := R_eq z88
          refine r_ki (q_U (As := [.int v87]) (rest := []) (K := 3) (ci := 0) S X49 (c_X8_fail_q l G t50 q52 v87 (R_of (lo := -2147483648) (hi := 2147483647) r89 rfl)) ck0_98_0 (Nat.le_of_ble_eq_true rfl) rfl (fun _ => ⟨_, rfl⟩) ⟨_, _, rfl⟩ ⟨Nat.le_of_ble_eq_true rfl, Nat.le_of_ble_eq_true rfl⟩ rfl hl.1 rfl (Nat.le_of_ble_eq_true rfl) dX0_readChild_74 ⟨Nat.le_refl 0, Nat.le_refl 0⟩) X49 (fun v93 t92 H lc q90 X91 => ?_)
          unfold po_X8_fail_q at q90
          obtain ⟨q94, q95, q96, q97⟩ := q90
          have F98 : Fr [(3, 1), (3, 2), (1, 3), (1, 4), (1, 5), (1, 7), (1, 8)] [6, 201] τ t92 := Fr_call F57 q95 (by decide)
          exact r_ret S hr hlk X91 ⟨q94, F98, (R_of q96 rfl), (QX_b (sChild_b2 e26 (fun h => absurd (ho33.mpr h) (by omega)) e65 (by omega)) (by omega) (by rw [q97]; omega) (RC_at (RC_fr hP66.2 (fun j => ((q95 1 j (by simp [fz])).trans rfl)) (fun j => ((q95 2 j (by simp [fz])).trans rfl)) (fun j => ((q95 201 j (by simp [fz])).trans rfl)) ((q95 3 5 (by decide)).trans rfl) ((q95 3 6 (by decide)).trans rfl) (fun j => ((q95 4 j (by simp [fz])).trans rfl)) (fun j => ((q95 6 j (by simp [fz])).trans rfl)) (fun j => ((q95 7 j (by simp [fz])).trans rfl)) (fun j => ((q95 8 j (by simp [fz])).trans rfl)) (fun j => ((q95 209 j (by simp [fz])).trans rfl)) (fun j => ((q95 210 j (by simp [fz])).trans rfl)))))⟩ (nr_bool (R_of (lo := 0) (hi := 1) q96 rfl)) dX0_readChild_77
      ·
        have r99 : R (0) (0) v51 := ⟨by omega, by omega⟩
        have p100 := (QX_0 q56) (by omega)
        obtain ⟨q101, e102, h103, h104⟩ := p100
        refine r_iconst S dX0_readChild_62 (by decide) (fun v105 z106 => ?_)
        have r107 := R_eq z106
        exact r_ret S hr hlk X49 ⟨q52, F57, (R_of r107 rfl), (QX_l (sChild_l2 e26 (fun h => absurd (ho33.mpr h) (by omega)) e102) (by omega) h103 h104)⟩ (nr_bool (R_of (lo := 0) (hi := 1) r107 rfl)) dX0_readChild_63
    ·
      have r108 : R (0) (9) v30 := ⟨by omega, by omega⟩
      refine r_aload_n S dX0_readChild_38 rfl (lv_at hl 1 rfl) ?_
      refine r_iconst S dX0_readChild_39 (by decide) (fun v109 z110 => ?_)
      have r111 := R_eq z110
      refine r_ki (q_U (As := [.int v109]) (rest := []) (K := 3) (ci := 0) S X10 (c_X8_fail_q l G t11 q13 v109 (R_of (lo := -2147483648) (hi := 2147483647) r111 rfl)) ck0_98_0 (Nat.le_of_ble_eq_true rfl) rfl (fun _ => ⟨_, rfl⟩) ⟨_, _, rfl⟩ ⟨Nat.le_of_ble_eq_true rfl, Nat.le_of_ble_eq_true rfl⟩ rfl hl.1 rfl (Nat.le_of_ble_eq_true rfl) dX0_readChild_40 ⟨Nat.le_refl 0, Nat.le_refl 0⟩) X10 (fun v115 t114 H lc q112 X113 => ?_)
      unfold po_X8_fail_q at q112
      obtain ⟨q116, q117, q118, q119⟩ := q112
      have F120 : Fr [(3, 1), (3, 2), (1, 3), (1, 4), (1, 5), (1, 7), (1, 8)] [6, 201] τ t114 := Fr_call F18 q117 (by decide)
      exact r_ret S hr hlk X113 ⟨q116, F120, (R_of q118 rfl), (QX_b (sChild_b1 e26 (ho33.mp (by omega))) (by omega) (by rw [q119]; omega) (RC_at (RC_fr hP27.2 (fun j => ((q117 1 j (by simp [fz])).trans rfl)) (fun j => ((q117 2 j (by simp [fz])).trans rfl)) (fun j => ((q117 201 j (by simp [fz])).trans rfl)) ((q117 3 5 (by decide)).trans rfl) ((q117 3 6 (by decide)).trans rfl) (fun j => ((q117 4 j (by simp [fz])).trans rfl)) (fun j => ((q117 6 j (by simp [fz])).trans rfl)) (fun j => ((q117 7 j (by simp [fz])).trans rfl)) (fun j => ((q117 8 j (by simp [fz])).trans rfl)) (fun j => ((q117 209 j (by simp [fz])).trans rfl)) (fun j => ((q117 210 j (by simp [fz])).trans rfl)))))⟩ (nr_bool (R_of (lo := 0) (hi := 1) q118 rfl)) dX0_readChild_43
  ·
    have r121 : R (0) (0) v12 := ⟨by omega, by omega⟩
    have p122 := (QX_0 q17) (by omega)
    obtain ⟨q123, e124, h125, h126⟩ := p122
    refine r_iconst S dX0_readChild_18 (by decide) (fun v127 z128 => ?_)
    have r129 := R_eq z128
    exact r_ret S hr hlk X10 ⟨q13, F18, (R_of r129 rfl), (QX_l (sChild_l1 e124) (by omega) h125 h126)⟩ (nr_bool (R_of (lo := 0) (hi := 1) r129 rfl)) dX0_readChild_19
def po_X0_readKin_q (τ : Tau)    (bb : Nat → Int) (nb : Nat) (fs : FS) (r : Int32) (u : Tau) : Prop := Inv u ∧ Fr [(3, 1), (3, 2), (4, 4), (1, 3), (1, 4), (1, 5), (1, 7), (1, 8)] [7, 201] τ u ∧ R (0) (1) r ∧ QX (sKin bb nb fs) r u (fun g => RC bb nb u g)
set_option maxHeartbeats 4000000 in
set_option maxRecDepth 100000 in
theorem c_X0_readKin_q (l : Launch) (G : Gx) (τ : Tau) (hI : Inv τ) (bb : Nat → Int) (nb : Nat) (fs : FS) (hR : RC bb nb τ fs) (hW : fs.1.1 = 1) : Ci l G yX0_readKin cX0_readKin 2 (some .boolean) 2 44 [.ref (G.2.2.2.1 3)] τ (po_X0_readKin_q τ    bb nb fs) := by
  unfold Ci
  refine C_of (own := RX0) (by decide) rfl (Nat.le_of_ble_eq_true rfl) ?_
  intro p e s m below meth c ls S hr hlk X hl
  have hl : lv_has ls 2 [(0, .ref (G.2.2.2.1 3))] := hl
  refine r_aload_n S dX0_readKin_0 rfl (lv_at hl 0 rfl) ?_
  refine r_get (K := 3) (v := .ref (G.2.2.2.1 1)) S X (Nat.le_of_ble_eq_true rfl) rfl lk0_38_0 (fun _ => ⟨_, rfl, rfl⟩) dX0_readKin_1 ?_
  refine r_kv (q_V (As := []) (rest := []) (K := 1) (ci := 7) S X (c_X7_step_q l G τ hI bb nb 900 fs.1.2.2 (RT_st hR.1 (Or.inl hW)).1 (RT_st hR.1 (Or.inl hW)).2.1 (RT_st hR.1 (Or.inl hW)).2.2) ck0_102 (Nat.le_of_ble_eq_true rfl) rfl (fun _ => ⟨_, rfl⟩) ⟨_, _, rfl⟩ ⟨Nat.le_of_ble_eq_true rfl, Nat.le_of_ble_eq_true rfl⟩ rfl hl.1 rfl (Nat.le_of_ble_eq_true rfl) dX0_readKin_4 ⟨Nat.le_refl 0, Nat.le_refl 0⟩) X (fun t3 H lc q1 X2 => ?_)
  unfold po_X7_step_q at q1
  obtain ⟨q4, q5, q6⟩ := q1
  have F7 : Fr [(3, 1), (3, 2), (4, 4), (1, 3), (1, 4), (1, 5), (1, 7), (1, 8)] [7, 201] τ t3 := Fr_call Fr_rfl q5 (by decide)
  have hR8 : RC bb nb t3 (stp bb nb fs) := ⟨q6, RP_fr hR.2 ((q5 3 5 (by decide)).trans rfl) ((q5 3 6 (by decide)).trans rfl) (fun j => ((q5 4 j (by simp [fz])).trans rfl)) (fun j => ((q5 6 j (by simp [fz])).trans rfl)) (fun j => ((q5 7 j (by simp [fz])).trans rfl)) (fun j => ((q5 8 j (by simp [fz])).trans rfl)) (fun j => ((q5 209 j (by simp [fz])).trans rfl)) (fun j => ((q5 210 j (by simp [fz])).trans rfl))⟩
  refine r_aload_n S dX0_readKin_7 rfl (lv_at hl 0 rfl) ?_
  refine r_aload_n S dX0_readKin_8 rfl (lv_at hl 0 rfl) ?_
  refine r_get (K := 3) (v := .ref (G.2.2.2.1 4)) S X2 (Nat.le_of_ble_eq_true rfl) rfl lk0_14_0 (fun _ => ⟨_, rfl, rfl⟩) dX0_readKin_9 ?_
  refine r_ki (q_U (As := [.ref (G.2.2.2.1 4)]) (rest := []) (K := 3) (ci := 0) S X2 (c_X8_seeMan_q l G t3 q4 bb nb (stp bb nb fs) hR8 ) ck0_169_0 (Nat.le_of_ble_eq_true rfl) rfl (fun _ => ⟨_, rfl⟩) ⟨_, _, rfl⟩ ⟨Nat.le_of_ble_eq_true rfl, Nat.le_of_ble_eq_true rfl⟩ rfl hl.1 rfl (Nat.le_of_ble_eq_true rfl) dX0_readKin_12 ⟨Nat.le_refl 0, Nat.le_refl 0⟩) X2 (fun v12 t11 H lc q9 X10 => ?_)
  unfold po_X8_seeMan_q at q9
  obtain ⟨q13, q14, q15, q16, q17⟩ := q9
  have F18 : Fr [(3, 1), (3, 2), (4, 4), (1, 3), (1, 4), (1, 5), (1, 7), (1, 8)] [7, 201] τ t11 := Fr_call F7 q14 (by decide)
  refine r_if_ne (tgt := 20) S dX0_readKin_15 (by decide) (fun c19 => ?_) (fun c19 => ?_)
  ·
    have r20 : R (1) (1) v12 := ⟨by omega, by omega⟩
    have p21 := q16 (by omega)
    obtain ⟨v22, z23⟩ : ∃ x, t11 3 2 = x := ⟨_, rfl⟩
    rw [z23] at p21
    have p24 := (QX_1 q17) (by omega)
    obtain ⟨g25, e26, hP27⟩ := p24
    refine r_aload_n S dX0_readKin_20 rfl (lv_at hl 0 rfl) ?_
    refine r_geti (K := 3) S X10 (Nat.le_of_ble_eq_true rfl) rfl lk0_109_0 (fun _ => ⟨_, rfl, rfl⟩) z23 dX0_readKin_21 ?_
    have e28 : v22.toInt = g25 := by rw [← z23]; exact hP27.1
    have e29 := sLook_x e26
    refine r_istore_n (lv' := [(1, .int v22), (0, .ref (G.2.2.2.1 3))]) S dX0_readKin_24 rfl hl (by decide) rfl (fun ls hl => ?_)
    refine r_aload_n S dX0_readKin_25 rfl (lv_at hl 1 rfl) ?_
    refine r_get (K := 3) (v := .ref (G.2.2.2.1 1)) S X10 (Nat.le_of_ble_eq_true rfl) rfl lk0_38_0 (fun _ => ⟨_, rfl, rfl⟩) dX0_readKin_26 ?_
    refine r_kv (q_V (As := []) (rest := []) (K := 1) (ci := 7) S X10 (c_X7_step_q l G t11 q13 bb nb 900 (stp bb nb fs).1.2.2 (RT_st hP27.2.1 (Or.inl (sLook_n e26).1)).1 (RT_st hP27.2.1 (Or.inl (sLook_n e26).1)).2.1 (RT_st hP27.2.1 (Or.inl (sLook_n e26).1)).2.2) ck0_102 (Nat.le_of_ble_eq_true rfl) rfl (fun _ => ⟨_, rfl⟩) ⟨_, _, rfl⟩ ⟨Nat.le_of_ble_eq_true rfl, Nat.le_of_ble_eq_true rfl⟩ rfl hl.1 rfl (Nat.le_of_ble_eq_true rfl) dX0_readKin_29 ⟨Nat.le_refl 0, Nat.le_refl 0⟩) X10 (fun t32 H lc q30 X31 => ?_)
    unfold po_X7_step_q at q30
    obtain ⟨q33, q34, q35⟩ := q30
    have F36 : Fr [(3, 1), (3, 2), (4, 4), (1, 3), (1, 4), (1, 5), (1, 7), (1, 8)] [7, 201] τ t32 := Fr_call F18 q34 (by decide)
    have hR37 : RC bb nb t32 (stp bb nb (stp bb nb fs)) := ⟨q35, RP_fr hP27.2.2 ((q34 3 5 (by decide)).trans rfl) ((q34 3 6 (by decide)).trans rfl) (fun j => ((q34 4 j (by simp [fz])).trans rfl)) (fun j => ((q34 6 j (by simp [fz])).trans rfl)) (fun j => ((q34 7 j (by simp [fz])).trans rfl)) (fun j => ((q34 8 j (by simp [fz])).trans rfl)) (fun j => ((q34 209 j (by simp [fz])).trans rfl)) (fun j => ((q34 210 j (by simp [fz])).trans rfl))⟩
    refine r_aload_n S dX0_readKin_32 rfl (lv_at hl 1 rfl) ?_
    refine r_aload_n S dX0_readKin_33 rfl (lv_at hl 1 rfl) ?_
    refine r_get (K := 3) (v := .ref (G.2.2.2.1 4)) S X31 (Nat.le_of_ble_eq_true rfl) rfl lk0_14_0 (fun _ => ⟨_, rfl, rfl⟩) dX0_readKin_34 ?_
    refine r_ki (q_U (As := [.ref (G.2.2.2.1 4)]) (rest := []) (K := 3) (ci := 0) S X31 (c_X8_seeMan_q l G t32 q33 bb nb (stp bb nb (stp bb nb fs)) hR37 ) ck0_169_0 (Nat.le_of_ble_eq_true rfl) rfl (fun _ => ⟨_, rfl⟩) ⟨_, _, rfl⟩ ⟨Nat.le_of_ble_eq_true rfl, Nat.le_of_ble_eq_true rfl⟩ rfl hl.1 rfl (Nat.le_of_ble_eq_true rfl) dX0_readKin_37 ⟨Nat.le_refl 0, Nat.le_refl 0⟩) X31 (fun v41 t40 H lc q38 X39 => ?_)
    unfold po_X8_seeMan_q at q38
    obtain ⟨q42, q43, q44, q45, q46⟩ := q38
    have F47 : Fr [(3, 1), (3, 2), (4, 4), (1, 3), (1, 4), (1, 5), (1, 7), (1, 8)] [7, 201] τ t40 := Fr_call F36 q43 (by decide)
    refine r_if_ne (tgt := 45) S dX0_readKin_40 (by decide) (fun c48 => ?_) (fun c48 => ?_)
    ·
      have r49 : R (1) (1) v41 := ⟨by omega, by omega⟩
      have p50 := q45 (by omega)
      obtain ⟨v51, z52⟩ : ∃ x, t40 3 2 = x := ⟨_, rfl⟩
      rw [z52] at p50
      have p53 := (QX_1 q46) (by omega)
      obtain ⟨g54, e55, hP56⟩ := p53
      refine r_aload_n S dX0_readKin_45 rfl (lv_at hl 1 rfl) ?_
      refine r_geti (K := 3) S X39 (Nat.le_of_ble_eq_true rfl) rfl lk0_109_0 (fun _ => ⟨_, rfl, rfl⟩) z52 dX0_readKin_46 ?_
      have e57 : v51.toInt = g54 := by rw [← z52]; exact hP56.1
      have e58 := sLook_x e55
      refine r_iload_n S dX0_readKin_49 rfl (lv_at hl 0 rfl) ?_
      refine r_icmp_eq (tgt := 73) S dX0_readKin_50 (by decide) (fun c59 => ?_) (fun c59 => ?_)
      ·
        refine r_aload_n S dX0_readKin_73 rfl (lv_at hl 1 rfl) ?_
        refine r_iconst S dX0_readKin_74 (by decide) (fun v60 z61 => ?_)
        have r62 := R_eq z61
        refine r_ki (q_U (As := [.int v60]) (rest := []) (K := 3) (ci := 0) S X39 (c_X8_fail_q l G t40 q42 v60 (R_of (lo := -2147483648) (hi := 2147483647) r62 rfl)) ck0_98_0 (Nat.le_of_ble_eq_true rfl) rfl (fun _ => ⟨_, rfl⟩) ⟨_, _, rfl⟩ ⟨Nat.le_of_ble_eq_true rfl, Nat.le_of_ble_eq_true rfl⟩ rfl hl.1 rfl (Nat.le_of_ble_eq_true rfl) dX0_readKin_75 ⟨Nat.le_refl 0, Nat.le_refl 0⟩) X39 (fun v66 t65 H lc q63 X64 => ?_)
        unfold po_X8_fail_q at q63
        obtain ⟨q67, q68, q69, q70⟩ := q63
        have F71 : Fr [(3, 1), (3, 2), (4, 4), (1, 3), (1, 4), (1, 5), (1, 7), (1, 8)] [7, 201] τ t65 := Fr_call F47 q68 (by decide)
        exact r_ret S hr hlk X64 ⟨q67, F71, (R_of q69 rfl), (QX_b (sKin_b e26 e55 (Or.inl (by omega))) (by omega) (by rw [q70]; omega) (RC_at (RC_fr hP56.2 (fun j => ((q68 1 j (by simp [fz])).trans rfl)) (fun j => ((q68 2 j (by simp [fz])).trans rfl)) (fun j => ((q68 201 j (by simp [fz])).trans rfl)) ((q68 3 5 (by decide)).trans rfl) ((q68 3 6 (by decide)).trans rfl) (fun j => ((q68 4 j (by simp [fz])).trans rfl)) (fun j => ((q68 6 j (by simp [fz])).trans rfl)) (fun j => ((q68 7 j (by simp [fz])).trans rfl)) (fun j => ((q68 8 j (by simp [fz])).trans rfl)) (fun j => ((q68 209 j (by simp [fz])).trans rfl)) (fun j => ((q68 210 j (by simp [fz])).trans rfl)))))⟩ (nr_bool (R_of (lo := 0) (hi := 1) q69 rfl)) dX0_readKin_78
      ·
        refine r_aload_n S dX0_readKin_53 rfl (lv_at hl 1 rfl) ?_
        refine r_get (K := 3) (v := .ref (G.2.2.2.1 4)) S X39 (Nat.le_of_ble_eq_true rfl) rfl lk0_14_0 (fun _ => ⟨_, rfl, rfl⟩) dX0_readKin_54 ?_
        refine r_get (K := 4) (v := .ref (G.2.2.2.1 7)) S X39 (Nat.le_of_ble_eq_true rfl) rfl lk0_175_2 (fun _ => ⟨_, rfl, rfl⟩) dX0_readKin_57 ?_
        refine r_iload_n S dX0_readKin_60 rfl (lv_at hl 0 rfl) ?_
        refine r_aldn (n := 10) (K := 7) S X39 (Nat.le_of_ble_eq_true rfl) rfl (fun _ => rfl) (ix_of p21 rfl) dX0_readKin_61 (fun v72 z73 => ?_)
        have r74 : R (0) (1023) v72 := rd q42 rfl z73
        refine r_aload_n S dX0_readKin_62 rfl (lv_at hl 1 rfl) ?_
        refine r_geti (K := 3) S X39 (Nat.le_of_ble_eq_true rfl) rfl lk0_109_0 (fun _ => ⟨_, rfl, rfl⟩) z52 dX0_readKin_63 ?_
        refine r_ki (q_N (As := [.int v72, .int v51]) (rest := []) S X39 (c_X11_bit_q l G t40 q42 v72 v51 r74 p50) ck0_178 ⟨Nat.le_of_ble_eq_true rfl, Nat.le_of_ble_eq_true rfl⟩ rfl hl.1 rfl (Nat.le_of_ble_eq_true rfl) dX0_readKin_66 ⟨Nat.le_refl 0, Nat.le_refl 0⟩) X39 (fun v78 t77 H lc q75 X76 => ?_)
        unfold po_X11_bit_q at q75
        obtain ⟨q79, q80, q81⟩ := q75
        rw [q79] at X76
        have e83 : t40 7 g25 = v72 := by rw [show g25 = v22.toNatClampNeg by (have c : v22.toNatClampNeg = v22.toInt.toNat := rfl; omega)]; exact z73
        have ho82 : (kb v72 v51.toInt.toNat ↔ gki fs.2 g25 g54 = true) := by have q := RP_kb hP56.2.2 (i := g25) (j := g54) (by omega) (by omega); rw [show t40 7 g25 = v72 by assumption] at q; rw [show v51.toInt.toNat = g54 by omega]; exact q
        refine r_iconst S dX0_readKin_69 (by decide) (fun v84 z85 => ?_)
        have r86 := R_eq z85
        refine r_icmp_ne (tgt := 79) S dX0_readKin_70 (by decide) (fun c87 => ?_) (fun c87 => ?_)
        ·
          have r88 : R (0) (0) v78 := ⟨by omega, by omega⟩
          have p89 := (iff_n q81) (by omega)
          refine r_aload_n S dX0_readKin_79 rfl (lv_at hl 1 rfl) ?_
          refine r_get (K := 3) (v := .ref (G.2.2.2.1 4)) S X76 (Nat.le_of_ble_eq_true rfl) rfl lk0_14_0 (fun _ => ⟨_, rfl, rfl⟩) dX0_readKin_80 ?_
          refine r_get (K := 4) (v := .ref (G.2.2.2.1 7)) S X76 (Nat.le_of_ble_eq_true rfl) rfl lk0_175_2 (fun _ => ⟨_, rfl, rfl⟩) dX0_readKin_83 ?_
          refine r_iload_n S dX0_readKin_86 rfl (lv_at hl 0 rfl) ?_
          refine r_dup2 S dX0_readKin_87 rfl rfl ?_
          refine r_aldn (n := 10) (K := 7) S X76 (Nat.le_of_ble_eq_true rfl) rfl (fun _ => rfl) (ix_of p21 rfl) dX0_readKin_88 (fun v90 z91 => ?_)
          have r92 : R (0) (1023) v90 := rd q42 rfl z91
          refine r_iconst S dX0_readKin_89 (by decide) (fun v93 z94 => ?_)
          have r95 := R_eq z94
          refine r_aload_n S dX0_readKin_90 rfl (lv_at hl 1 rfl) ?_
          refine r_geti (K := 3) S X76 (Nat.le_of_ble_eq_true rfl) rfl lk0_109_0 (fun _ => ⟨_, rfl, rfl⟩) z52 dX0_readKin_91 ?_
          refine r_ishl S dX0_readKin_94 (fun v96 z97 => ?_)
          have r99 : R (1) (512) v96 := i_shl z97 r95 p50 rfl
          refine r_ior S dX0_readKin_95 (fun v100 z101 => ?_)
          have r103 : R (0) (1023) v100 := i_or 10 z101 r92 r99 rfl
          refine r_ast (n := 10) (K := 7) S X76 (Nat.le_of_ble_eq_true rfl) rfl (fun _ _ => rfl) (ix_of p21 rfl) dX0_readKin_96 (fun t104 H lc M105 X106 => ?_)
          have I107 := Inv_mu q42 M105 (show Rg (kd 7) _ v100 from (R_of (lo := 0) (hi := 1023) r103 rfl))
          have F108 : Fr [(3, 1), (3, 2), (4, 4), (1, 3), (1, 4), (1, 5), (1, 7), (1, 8)] [7, 201] τ t104 := Fr_cell F47 M105 (by decide)
          refine r_aload_n S dX0_readKin_97 rfl (lv_at hl 1 rfl) ?_
          refine r_get (K := 3) (v := .ref (G.2.2.2.1 4)) S X106 (Nat.le_of_ble_eq_true rfl) rfl lk0_14_0 (fun _ => ⟨_, rfl, rfl⟩) dX0_readKin_98 ?_
          refine r_get (K := 4) (v := .ref (G.2.2.2.1 7)) S X106 (Nat.le_of_ble_eq_true rfl) rfl lk0_175_2 (fun _ => ⟨_, rfl, rfl⟩) dX0_readKin_101 ?_
          refine r_aload_n S dX0_readKin_104 rfl (lv_at hl 1 rfl) ?_
          refine r_geti (K := 3) S X106 (Nat.le_of_ble_eq_true rfl) rfl lk0_109_0 (fun _ => ⟨_, rfl, rfl⟩) ((M105.2 3 2 (Or.inl (by decide))).trans z52) dX0_readKin_105 ?_
          refine r_dup2 S dX0_readKin_108 rfl rfl ?_
          refine r_aldn (n := 10) (K := 7) S X106 (Nat.le_of_ble_eq_true rfl) rfl (fun _ => rfl) (ix_of p50 rfl) dX0_readKin_109 (fun v109 z110 => ?_)
          have r111 : R (0) (1023) v109 := rd I107 rfl z110
          refine r_iconst S dX0_readKin_110 (by decide) (fun v112 z113 => ?_)
          have r114 := R_eq z113
          refine r_iload_n S dX0_readKin_111 rfl (lv_at hl 0 rfl) ?_
          refine r_ishl S dX0_readKin_112 (fun v115 z116 => ?_)
          have r118 : R (1) (512) v115 := i_shl z116 r114 p21 rfl
          refine r_ior S dX0_readKin_113 (fun v119 z120 => ?_)
          have r122 : R (0) (1023) v119 := i_or 10 z120 r111 r118 rfl
          refine r_ast (n := 10) (K := 7) S X106 (Nat.le_of_ble_eq_true rfl) rfl (fun _ _ => rfl) (ix_of p50 rfl) dX0_readKin_114 (fun t123 H lc M124 X125 => ?_)
          have I126 := Inv_mu I107 M124 (show Rg (kd 7) _ v119 from (R_of (lo := 0) (hi := 1023) r122 rfl))
          have F127 : Fr [(3, 1), (3, 2), (4, 4), (1, 3), (1, 4), (1, 5), (1, 7), (1, 8)] [7, 201] τ t123 := Fr_cell F108 M124 (by decide)
          refine r_aload_n S dX0_readKin_115 rfl (lv_at hl 1 rfl) ?_
          refine r_get (K := 3) (v := .ref (G.2.2.2.1 4)) S X125 (Nat.le_of_ble_eq_true rfl) rfl lk0_14_0 (fun _ => ⟨_, rfl, rfl⟩) dX0_readKin_116 ?_
          refine r_dup S dX0_readKin_119 rfl ?_
          refine r_getn (K := 4) S X125 (Nat.le_of_ble_eq_true rfl) rfl lk0_182_2 (fun _ => ⟨_, rfl, rfl⟩) dX0_readKin_120 (fun v128 z129 => ?_)
          have r131 := R_any v128
          refine r_iconst S dX0_readKin_123 (by decide) (fun v132 z133 => ?_)
          have r134 := R_eq z133
          refine r_iadd S dX0_readKin_124 (fun v135 z136 => ?_)
          have r137 := R_any v135
          refine r_put (K := 4) (ty := .int) S X125 (Nat.le_of_ble_eq_true rfl) rfl lk0_182_2 (fun _ => ⟨_, rfl, Nat.le_of_ble_eq_true rfl, rfl⟩) (fun _ _ _ h => by cases h; exact ⟨rfl, rfl⟩) rfl rfl dX0_readKin_125 (fun t138 H lc M139 X140 => ?_)
          have I141 := Inv_mu I126 M139 (R_any v135)
          have F142 : Fr [(3, 1), (3, 2), (4, 4), (1, 3), (1, 4), (1, 5), (1, 7), (1, 8)] [7, 201] τ t138 := Fr_mu F127 M139 (by decide)
          have rp143 := RP_ki (s := fs.2) hP56.2.2 (show R 0 9 v22 from ⟨by omega, by omega⟩) (show R 0 9 v51 from ⟨by omega, by omega⟩) (by omega) M105 M124 M139 z91 z110 (by rw [z101, z97, show v93 = 1 from Int32.toInt_inj.mp (by show v93.toInt = 1; omega)]) (by rw [z120, z116, show v112 = 1 from Int32.toInt_inj.mp (by show v112.toInt = 1; omega)]) (by rw [z136, show v132 = 1 from Int32.toInt_inj.mp (by show v132.toInt = 1; omega), ← (((M124.2 4 4 (Or.inl (by decide))).trans ((M105.2 4 4 (Or.inl (by decide))).trans rfl)).symm.trans z129), RP_kn hP56.2.2]; exact (i32_succ _).symm)
          rw [show v22.toInt.toNat = g25 by omega, show v51.toInt.toNat = g54 by omega] at rp143
          have hR144 : RC bb nb t138 ((stp bb nb (stp bb nb fs)).1, uki fs.2 g25 g54) := ⟨RT_fr hP56.2.1 (fun j => ((M139.2 1 j (Or.inl (by decide))).trans ((M124.2 1 j (Or.inl (by decide))).trans ((M105.2 1 j (Or.inl (by decide))).trans rfl)))) (fun j => ((M139.2 2 j (Or.inl (by decide))).trans ((M124.2 2 j (Or.inl (by decide))).trans ((M105.2 2 j (Or.inl (by decide))).trans rfl)))) (fun j => ((M139.2 201 j (Or.inl (by decide))).trans ((M124.2 201 j (Or.inl (by decide))).trans ((M105.2 201 j (Or.inl (by decide))).trans rfl)))), rp143⟩
          refine r_aload_n S dX0_readKin_128 rfl (lv_at hl 1 rfl) ?_
          refine r_get (K := 3) (v := .ref (G.2.2.2.1 1)) S X140 (Nat.le_of_ble_eq_true rfl) rfl lk0_38_0 (fun _ => ⟨_, rfl, rfl⟩) dX0_readKin_129 ?_
          refine r_kv (q_V (As := []) (rest := []) (K := 1) (ci := 7) S X140 (c_X7_step_q l G t138 I141 bb nb 900 ((stp bb nb (stp bb nb fs)).1, uki fs.2 g25 g54).1.2.2 (RT_st hR144.1 (Or.inl (sLook_n e55).1)).1 (RT_st hR144.1 (Or.inl (sLook_n e55).1)).2.1 (RT_st hR144.1 (Or.inl (sLook_n e55).1)).2.2) ck0_102 (Nat.le_of_ble_eq_true rfl) rfl (fun _ => ⟨_, rfl⟩) ⟨_, _, rfl⟩ ⟨Nat.le_of_ble_eq_true rfl, Nat.le_of_ble_eq_true rfl⟩ rfl hl.1 rfl (Nat.le_of_ble_eq_true rfl) dX0_readKin_132 ⟨Nat.le_refl 0, Nat.le_refl 0⟩) X140 (fun t147 H lc q145 X146 => ?_)
          unfold po_X7_step_q at q145
          obtain ⟨q148, q149, q150⟩ := q145
          have F151 : Fr [(3, 1), (3, 2), (4, 4), (1, 3), (1, 4), (1, 5), (1, 7), (1, 8)] [7, 201] τ t147 := Fr_call F142 q149 (by decide)
          have hR152 : RC bb nb t147 (stp bb nb ((stp bb nb (stp bb nb fs)).1, uki fs.2 g25 g54)) := ⟨q150, RP_fr hR144.2 ((q149 3 5 (by decide)).trans rfl) ((q149 3 6 (by decide)).trans rfl) (fun j => ((q149 4 j (by simp [fz])).trans rfl)) (fun j => ((q149 6 j (by simp [fz])).trans rfl)) (fun j => ((q149 7 j (by simp [fz])).trans rfl)) (fun j => ((q149 8 j (by simp [fz])).trans rfl)) (fun j => ((q149 209 j (by simp [fz])).trans rfl)) (fun j => ((q149 210 j (by simp [fz])).trans rfl))⟩
          refine r_iconst S dX0_readKin_135 (by decide) (fun v153 z154 => ?_)
          have r155 := R_eq z154
          exact r_ret S hr hlk X146 ⟨q148, F151, (R_of r155 rfl), (QX_r (sKin_r e26 e55 (fun h => h.elim (fun h => by omega) (fun h => p89 (ho82.mpr h)))) (by omega) hR152)⟩ (nr_bool (R_of (lo := 0) (hi := 1) r155 rfl)) dX0_readKin_136
        ·
          have r156 : R (1) (1) v78 := ⟨by omega, by omega⟩
          have p157 := (q81).mp (by omega)
          refine r_aload_n S dX0_readKin_73 rfl (lv_at hl 1 rfl) ?_
          refine r_iconst S dX0_readKin_74 (by decide) (fun v158 z159 => ?_)
          have r160 := R_eq z159
          refine r_ki (q_U (As := [.int v158]) (rest := []) (K := 3) (ci := 0) S X76 (c_X8_fail_q l G t40 q42 v158 (R_of (lo := -2147483648) (hi := 2147483647) r160 rfl)) ck0_98_0 (Nat.le_of_ble_eq_true rfl) rfl (fun _ => ⟨_, rfl⟩) ⟨_, _, rfl⟩ ⟨Nat.le_of_ble_eq_true rfl, Nat.le_of_ble_eq_true rfl⟩ rfl hl.1 rfl (Nat.le_of_ble_eq_true rfl) dX0_readKin_75 ⟨Nat.le_refl 0, Nat.le_refl 0⟩) X76 (fun v164 t163 H lc q161 X162 => ?_)
          unfold po_X8_fail_q at q161
          obtain ⟨q165, q166, q167, q168⟩ := q161
          have F169 : Fr [(3, 1), (3, 2), (4, 4), (1, 3), (1, 4), (1, 5), (1, 7), (1, 8)] [7, 201] τ t163 := Fr_call F47 q166 (by decide)
          exact r_ret S hr hlk X162 ⟨q165, F169, (R_of q167 rfl), (QX_b (sKin_b e26 e55 (Or.inr (ho82.mp p157))) (by omega) (by rw [q168]; omega) (RC_at (RC_fr hP56.2 (fun j => ((q166 1 j (by simp [fz])).trans rfl)) (fun j => ((q166 2 j (by simp [fz])).trans rfl)) (fun j => ((q166 201 j (by simp [fz])).trans rfl)) ((q166 3 5 (by decide)).trans rfl) ((q166 3 6 (by decide)).trans rfl) (fun j => ((q166 4 j (by simp [fz])).trans rfl)) (fun j => ((q166 6 j (by simp [fz])).trans rfl)) (fun j => ((q166 7 j (by simp [fz])).trans rfl)) (fun j => ((q166 8 j (by simp [fz])).trans rfl)) (fun j => ((q166 209 j (by simp [fz])).trans rfl)) (fun j => ((q166 210 j (by simp [fz])).trans rfl)))))⟩ (nr_bool (R_of (lo := 0) (hi := 1) q167 rfl)) dX0_readKin_78
    ·
      have r170 : R (0) (0) v41 := ⟨by omega, by omega⟩
      have p171 := (QX_0 q46) (by omega)
      obtain ⟨q172, e173, h174, h175⟩ := p171
      refine r_iconst S dX0_readKin_43 (by decide) (fun v176 z177 => ?_)
      have r178 := R_eq z177
      exact r_ret S hr hlk X39 ⟨q42, F47, (R_of r178 rfl), (QX_l (sKin_l2 e26 e173) (by omega) h174 h175)⟩ (nr_bool (R_of (lo := 0) (hi := 1) r178 rfl)) dX0_readKin_44
  ·
    have r179 : R (0) (0) v12 := ⟨by omega, by omega⟩
    have p180 := (QX_0 q17) (by omega)
    obtain ⟨q181, e182, h183, h184⟩ := p180
    refine r_iconst S dX0_readKin_18 (by decide) (fun v185 z186 => ?_)
    have r187 := R_eq z186
    exact r_ret S hr hlk X10 ⟨q13, F18, (R_of r187 rfl), (QX_l (sKin_l1 e182) (by omega) h183 h184)⟩ (nr_bool (R_of (lo := 0) (hi := 1) r187 rfl)) dX0_readKin_19
def po_X0_readMan_q (τ : Tau)    (bb : Nat → Int) (nb : Nat) (fs : FS) (r : Int32) (u : Tau) : Prop := Inv u ∧ Fr [(3, 1), (3, 2), (4, 3), (1, 3), (1, 4), (1, 5), (1, 7), (1, 8)] [5, 8, 201, 210] τ u ∧ R (0) (1) r ∧ QX (sMan bb nb fs) r u (fun g => RC bb nb u g)
set_option maxHeartbeats 4000000 in
set_option maxRecDepth 100000 in
theorem c_X0_readMan_q (l : Launch) (G : Gx) (τ : Tau) (hI : Inv τ) (bb : Nat → Int) (nb : Nat) (fs : FS) (hR : RC bb nb τ fs) (hW : fs.1.1 = 1) : Ci l G yX0_readMan cX0_readMan 3 (some .boolean) 3 69 [.ref (G.2.2.2.1 3)] τ (po_X0_readMan_q τ    bb nb fs) := by
  unfold Ci
  refine C_of (own := RX0) (by decide) rfl (Nat.le_of_ble_eq_true rfl) ?_
  intro p e s m below meth c ls S hr hlk X hl
  have hl : lv_has ls 3 [(0, .ref (G.2.2.2.1 3))] := hl
  refine r_aload_n S dX0_readMan_0 rfl (lv_at hl 0 rfl) ?_
  refine r_get (K := 3) (v := .ref (G.2.2.2.1 4)) S X (Nat.le_of_ble_eq_true rfl) rfl lk0_14_0 (fun _ => ⟨_, rfl, rfl⟩) dX0_readMan_1 ?_
  refine r_getn (K := 4) S X (Nat.le_of_ble_eq_true rfl) rfl lk0_143_2 (fun _ => ⟨_, rfl, rfl⟩) dX0_readMan_4 (fun v1 z2 => ?_)
  have r3 : R (0) (10) v1 := rd hI rfl z2
  refine r_bipush S dX0_readMan_7 (by decide) (fun v4 z5 => ?_)
  have r6 := R_eq z5
  refine r_icmp_lt (tgt := 18) S dX0_readMan_9 (by decide) (fun c7 => ?_) (fun c7 => ?_)
  ·
    have r8 : R (0) (9) v1 := ⟨by omega, by omega⟩
    refine r_aload_n S dX0_readMan_18 rfl (lv_at hl 0 rfl) ?_
    refine r_get (K := 3) (v := .ref (G.2.2.2.1 1)) S X (Nat.le_of_ble_eq_true rfl) rfl lk0_38_0 (fun _ => ⟨_, rfl, rfl⟩) dX0_readMan_19 ?_
    refine r_kv (q_V (As := []) (rest := []) (K := 1) (ci := 7) S X (c_X7_step_q l G τ hI bb nb 900 fs.1.2.2 (RT_st hR.1 (Or.inl hW)).1 (RT_st hR.1 (Or.inl hW)).2.1 (RT_st hR.1 (Or.inl hW)).2.2) ck0_102 (Nat.le_of_ble_eq_true rfl) rfl (fun _ => ⟨_, rfl⟩) ⟨_, _, rfl⟩ ⟨Nat.le_of_ble_eq_true rfl, Nat.le_of_ble_eq_true rfl⟩ rfl hl.1 rfl (Nat.le_of_ble_eq_true rfl) dX0_readMan_22 ⟨Nat.le_refl 0, Nat.le_refl 0⟩) X (fun t11 H lc q9 X10 => ?_)
    unfold po_X7_step_q at q9
    obtain ⟨q12, q13, q14⟩ := q9
    have F15 : Fr [(3, 1), (3, 2), (4, 3), (1, 3), (1, 4), (1, 5), (1, 7), (1, 8)] [5, 8, 201, 210] τ t11 := Fr_call Fr_rfl q13 (by decide)
    have hR16 : RC bb nb t11 (stp bb nb fs) := ⟨q14, RP_fr hR.2 ((q13 3 5 (by decide)).trans rfl) ((q13 3 6 (by decide)).trans rfl) (fun j => ((q13 4 j (by simp [fz])).trans rfl)) (fun j => ((q13 6 j (by simp [fz])).trans rfl)) (fun j => ((q13 7 j (by simp [fz])).trans rfl)) (fun j => ((q13 8 j (by simp [fz])).trans rfl)) (fun j => ((q13 209 j (by simp [fz])).trans rfl)) (fun j => ((q13 210 j (by simp [fz])).trans rfl))⟩
    refine r_aload_n S dX0_readMan_25 rfl (lv_at hl 0 rfl) ?_
    refine r_ki (q_V (As := []) (rest := []) (K := 3) (ci := 0) S X10 (c_X0_seeNewName_q l G t11 q12 bb nb (stp bb nb fs) hR16 ) ck0_136 (Nat.le_of_ble_eq_true rfl) rfl (fun _ => ⟨_, rfl⟩) ⟨_, _, rfl⟩ ⟨Nat.le_of_ble_eq_true rfl, Nat.le_of_ble_eq_true rfl⟩ rfl hl.1 rfl (Nat.le_of_ble_eq_true rfl) dX0_readMan_26 ⟨Nat.le_refl 0, Nat.le_refl 0⟩) X10 (fun v20 t19 H lc q17 X18 => ?_)
    unfold po_X0_seeNewName_q at q17
    obtain ⟨q21, q22, q23, q24⟩ := q17
    have F25 : Fr [(3, 1), (3, 2), (4, 3), (1, 3), (1, 4), (1, 5), (1, 7), (1, 8)] [5, 8, 201, 210] τ t19 := Fr_call F15 q22 (by decide)
    refine r_if_ne (tgt := 34) S dX0_readMan_29 (by decide) (fun c26 => ?_) (fun c26 => ?_)
    ·
      have r27 : R (1) (1) v20 := ⟨by omega, by omega⟩
      have p28 := (QX_1 q24) (by omega)
      obtain ⟨g29, e30, hP31⟩ := p28
      refine r_aload_n S dX0_readMan_34 rfl (lv_at hl 0 rfl) ?_
      refine r_get (K := 3) (v := .ref (G.2.2.2.1 4)) S X18 (Nat.le_of_ble_eq_true rfl) rfl lk0_14_0 (fun _ => ⟨_, rfl, rfl⟩) dX0_readMan_35 ?_
      refine r_geti (K := 4) S X18 (Nat.le_of_ble_eq_true rfl) rfl lk0_143_2 (fun _ => ⟨_, rfl, rfl⟩) ((q22 4 3 (by decide)).trans ((q13 4 3 (by decide)).trans z2)) dX0_readMan_38 ?_
      refine r_istore_n (lv' := [(1, .int v1), (0, .ref (G.2.2.2.1 3))]) S dX0_readMan_41 rfl hl (by decide) rfl (fun ls hl => ?_)
      refine r_aload_n S dX0_readMan_42 rfl (lv_at hl 1 rfl) ?_
      refine r_get (K := 3) (v := .ref (G.2.2.2.1 4)) S X18 (Nat.le_of_ble_eq_true rfl) rfl lk0_14_0 (fun _ => ⟨_, rfl, rfl⟩) dX0_readMan_43 ?_
      refine r_get (K := 4) (v := .ref (G.2.2.2.1 10)) S X18 (Nat.le_of_ble_eq_true rfl) rfl lk0_146_2 (fun _ => ⟨_, rfl, rfl⟩) dX0_readMan_46 ?_
      refine r_iload_n S dX0_readMan_49 rfl (lv_at hl 0 rfl) ?_
      refine r_aload_n S dX0_readMan_50 rfl (lv_at hl 1 rfl) ?_
      refine r_get (K := 3) (v := .ref (G.2.2.2.1 1)) S X18 (Nat.le_of_ble_eq_true rfl) rfl lk0_38_0 (fun _ => ⟨_, rfl, rfl⟩) dX0_readMan_51 ?_
      refine r_getJ (K := 1) S X18 (Nat.le_of_ble_eq_true rfl) rfl lk0_118_7 (fun _ => ⟨_, rfl, rfl⟩) dX0_readMan_54 (fun j32 z33 => ?_)
      refine r_last (n := 10) (K := 10) S X18 (Nat.le_of_ble_eq_true rfl) rfl (fun _ => rfl) (ix_of r8 rfl) dX0_readMan_57 (fun t35 H lc M36 X34 => ?_)
      have I37 := Inv_ml q21 M36
      have F38 : Fr [(3, 1), (3, 2), (4, 3), (1, 3), (1, 4), (1, 5), (1, 7), (1, 8)] [5, 8, 201, 210] τ t35 := Fr_ml F25 M36 (by decide)
      refine r_aload_n S dX0_readMan_58 rfl (lv_at hl 1 rfl) ?_
      refine r_get (K := 3) (v := .ref (G.2.2.2.1 4)) S X34 (Nat.le_of_ble_eq_true rfl) rfl lk0_14_0 (fun _ => ⟨_, rfl, rfl⟩) dX0_readMan_59 ?_
      refine r_dup S dX0_readMan_62 rfl ?_
      refine r_geti (K := 4) S X34 (Nat.le_of_ble_eq_true rfl) rfl lk0_143_2 (fun _ => ⟨_, rfl, rfl⟩) ((M36.1 4 (by decide) 3).trans ((q22 4 3 (by decide)).trans ((q13 4 3 (by decide)).trans z2))) dX0_readMan_63 ?_
      refine r_iconst S dX0_readMan_66 (by decide) (fun v39 z40 => ?_)
      have r41 := R_eq z40
      refine r_iadd S dX0_readMan_67 (fun v42 z43 => ?_)
      obtain ⟨e44, r45⟩ := i_add (lo := 1) (hi := 10) z43 r8 r41 rfl
      refine r_put (K := 4) (ty := .int) S X34 (Nat.le_of_ble_eq_true rfl) rfl lk0_143_2 (fun _ => ⟨_, rfl, Nat.le_of_ble_eq_true rfl, rfl⟩) (fun _ _ _ h => by cases h; exact ⟨rfl, rfl⟩) rfl rfl dX0_readMan_68 (fun t46 H lc M47 X48 => ?_)
      have I49 := Inv_mu I37 M47 (show Rg (kd 4) 3 v42 from (R_of (lo := 0) (hi := 10) r45 rfl))
      have F50 : Fr [(3, 1), (3, 2), (4, 3), (1, 3), (1, 4), (1, 5), (1, 7), (1, 8)] [5, 8, 201, 210] τ t46 := Fr_mu F38 M47 (by decide)
      have e51 : v1.toInt = (((gmn fs.2).length : Nat) : Int) := by have q : (t19 4 3).toInt = (((gmn fs.2).length : Nat) : Int) := (RP_mnm hP31.2).1; rw [((q22 4 3 (by decide)).trans ((q13 4 3 (by decide)).trans z2))] at q; exact q
      have hR52 : RC bb nb t46 ((stp bb nb fs).1, umn fs.2 (wrd bb (stp bb nb fs).1)) := ⟨RT_fr hP31.1 (fun j => ((M47.2 1 j (Or.inl (by decide))).trans ((M36.1 1 (by decide) j).trans rfl))) (fun j => ((M47.2 2 j (Or.inl (by decide))).trans ((M36.1 2 (by decide) j).trans rfl))) (fun j => ((M47.2 201 j (Or.inl (by decide))).trans ((M36.1 201 (by decide) j).trans rfl))), RP_mn hP31.2 M36 M47 (by have c : v1.toNatClampNeg = v1.toInt.toNat := rfl; omega) (by rw [← z33]; exact (RT_low hP31.1 (sNew_n e30).1).2) (RT_low hP31.1 (sNew_n e30).1).1 (by omega)⟩
      refine r_aload_n S dX0_readMan_71 rfl (lv_at hl 1 rfl) ?_
      refine r_get (K := 3) (v := .ref (G.2.2.2.1 1)) S X48 (Nat.le_of_ble_eq_true rfl) rfl lk0_38_0 (fun _ => ⟨_, rfl, rfl⟩) dX0_readMan_72 ?_
      refine r_kv (q_V (As := []) (rest := []) (K := 1) (ci := 7) S X48 (c_X7_step_q l G t46 I49 bb nb 900 ((stp bb nb fs).1, umn fs.2 (wrd bb (stp bb nb fs).1)).1.2.2 (RT_st hR52.1 (Or.inl (sNew_n e30).1)).1 (RT_st hR52.1 (Or.inl (sNew_n e30).1)).2.1 (RT_st hR52.1 (Or.inl (sNew_n e30).1)).2.2) ck0_102 (Nat.le_of_ble_eq_true rfl) rfl (fun _ => ⟨_, rfl⟩) ⟨_, _, rfl⟩ ⟨Nat.le_of_ble_eq_true rfl, Nat.le_of_ble_eq_true rfl⟩ rfl hl.1 rfl (Nat.le_of_ble_eq_true rfl) dX0_readMan_75 ⟨Nat.le_refl 0, Nat.le_refl 0⟩) X48 (fun t55 H lc q53 X54 => ?_)
      unfold po_X7_step_q at q53
      obtain ⟨q56, q57, q58⟩ := q53
      have F59 : Fr [(3, 1), (3, 2), (4, 3), (1, 3), (1, 4), (1, 5), (1, 7), (1, 8)] [5, 8, 201, 210] τ t55 := Fr_call F50 q57 (by decide)
      have hR60 : RC bb nb t55 (stp bb nb ((stp bb nb fs).1, umn fs.2 (wrd bb (stp bb nb fs).1))) := ⟨q58, RP_fr hR52.2 ((q57 3 5 (by decide)).trans rfl) ((q57 3 6 (by decide)).trans rfl) (fun j => ((q57 4 j (by simp [fz])).trans rfl)) (fun j => ((q57 6 j (by simp [fz])).trans rfl)) (fun j => ((q57 7 j (by simp [fz])).trans rfl)) (fun j => ((q57 8 j (by simp [fz])).trans rfl)) (fun j => ((q57 209 j (by simp [fz])).trans rfl)) (fun j => ((q57 210 j (by simp [fz])).trans rfl))⟩
      refine r_aload_n S dX0_readMan_78 rfl (lv_at hl 1 rfl) ?_
      refine r_iconst S dX0_readMan_79 (by decide) (fun v61 z62 => ?_)
      have r63 := R_eq z62
      refine r_bipush S dX0_readMan_80 (by decide) (fun v64 z65 => ?_)
      have r66 := R_eq z65
      refine r_ki (q_U (As := [.int v61, .int v64]) (rest := []) (K := 3) (ci := 0) S X54 (c_X8_takeNumber_q_0_20 l G t55 q56 v61 v64 r63 r66 bb nb (stp bb nb ((stp bb nb fs).1, umn fs.2 (wrd bb (stp bb nb fs).1))) hR60 ) ck0_105_0 (Nat.le_of_ble_eq_true rfl) rfl (fun _ => ⟨_, rfl⟩) ⟨_, _, rfl⟩ ⟨Nat.le_of_ble_eq_true rfl, Nat.le_of_ble_eq_true rfl⟩ rfl hl.1 rfl (Nat.le_of_ble_eq_true rfl) dX0_readMan_82 ⟨Nat.le_refl 0, Nat.le_refl 0⟩) X54 (fun v70 t69 H lc q67 X68 => ?_)
      unfold po_X8_takeNumber_q_0_20 at q67
      obtain ⟨q71, q72, q73, q74, q75⟩ := q67
      have F76 : Fr [(3, 1), (3, 2), (4, 3), (1, 3), (1, 4), (1, 5), (1, 7), (1, 8)] [5, 8, 201, 210] τ t69 := Fr_call F59 q72 (by decide)
      refine r_if_ne (tgt := 90) S dX0_readMan_85 (by decide) (fun c77 => ?_) (fun c77 => ?_)
      ·
        have r78 : R (1) (1) v70 := ⟨by omega, by omega⟩
        have p79 := q74 (by omega)
        obtain ⟨v80, z81⟩ : ∃ x, t69 3 2 = x := ⟨_, rfl⟩
        rw [z81] at p79
        have p82 := (QX_1 q75) (by omega)
        obtain ⟨g83, e84, hP85⟩ := p82
        refine r_aload_n S dX0_readMan_90 rfl (lv_at hl 1 rfl) ?_
        refine r_get (K := 3) (v := .ref (G.2.2.2.1 4)) S X68 (Nat.le_of_ble_eq_true rfl) rfl lk0_14_0 (fun _ => ⟨_, rfl, rfl⟩) dX0_readMan_91 ?_
        refine r_get (K := 4) (v := .ref (G.2.2.2.1 5)) S X68 (Nat.le_of_ble_eq_true rfl) rfl lk0_149_2 (fun _ => ⟨_, rfl, rfl⟩) dX0_readMan_94 ?_
        refine r_iload_n S dX0_readMan_97 rfl (lv_at hl 0 rfl) ?_
        refine r_aload_n S dX0_readMan_98 rfl (lv_at hl 1 rfl) ?_
        refine r_geti (K := 3) S X68 (Nat.le_of_ble_eq_true rfl) rfl lk0_109_0 (fun _ => ⟨_, rfl, rfl⟩) z81 dX0_readMan_99 ?_
        refine r_ast (n := 10) (K := 5) S X68 (Nat.le_of_ble_eq_true rfl) rfl (fun _ _ => rfl) (ix_of r8 rfl) dX0_readMan_102 (fun t86 H lc M87 X88 => ?_)
        have I89 := Inv_mu q71 M87 (show Rg (kd 5) _ v80 from (R_of (lo := 0) (hi := 20) p79 rfl))
        have F90 : Fr [(3, 1), (3, 2), (4, 3), (1, 3), (1, 4), (1, 5), (1, 7), (1, 8)] [5, 8, 201, 210] τ t86 := Fr_cell F76 M87 (by decide)
        refine r_iconst S dX0_readMan_103 (by decide) (fun v91 z92 => ?_)
        have r93 := R_eq z92
        refine r_istore_n (lv' := [(2, .int v91), (1, .int v1), (0, .ref (G.2.2.2.1 3))]) S dX0_readMan_104 rfl hl (by decide) rfl (fun ls hl => ?_)
        have L572 : ∀ (n : Nat) (t567 : Tau) (H : Heap) (lc : List Loc) (ls : Array Slot) (i565 : Int32), Xd G s H lc t567 → Inv t567 → Fr [(3, 1), (3, 2), (4, 3), (1, 3), (1, 4), (1, 5), (1, 7), (1, 8)] [5, 8, 201, 210] τ t567 → R (0) (10) i565 → t567 4 3 = v42 → (∃ (fc : FS) (op : Nat → Bool), RC bb nb t567 fc ∧ RO t567 (v1).toInt.toNat op ∧ (v1).toInt.toNat < (gmn fc.2).length ∧ sOps bb nb (10 - (i565).toInt.toNat) op fc = sMan bb nb fs) → lv_has ls 3 [(0, .ref (G.2.2.2.1 3)), (1, .int v1), (2, .int i565)] → (10 - i565.toInt).toNat < n → W p l e (Rm 3 69) s m ([.ref (G.2.2.2.1 3)] : List Value).toArray below meth c H lc 0 0 (MQ below (va_Qi (po_X0_readMan_q τ    bb nb fs) (Bs G) G.2.2.2.2) ([.ref (G.2.2.2.1 3)] : List Value).toArray s 0 0 G.2.2.2.2) (F0 m 105 ls []) := by
          intro n
          induction n with
          | zero => intros; omega
          | succ n ih574 =>
            intro t567 H lc ls i565 X570 I568 F569 r566 z571 x573 hl hm
            obtain ⟨fc575, op576, hR577, hO578, hm579, he580⟩ := x573
            refine r_iload_n S dX0_readMan_105 rfl (lv_at hl 2 rfl) ?_
            refine r_bipush S dX0_readMan_106 (by decide) (fun v581 z582 => ?_)
            have r583 := R_eq z582
            refine r_icmp_gt (tgt := 139) S dX0_readMan_108 (by decide) (fun c584 => ?_) (fun c584 => ?_)
            ·
              have r585 : R (10) (10) i565 := ⟨by omega, by omega⟩
              refine r_iconst S dX0_readMan_139 (by decide) (fun v586 z587 => ?_)
              have r588 := R_eq z587
              exact r_ret S hr hlk X570 ⟨I568, F569, (R_of r588 rfl), (QX_r (by rw [← he580, show 10 - i565.toInt.toNat = 0 by omega]; rfl) (by omega) hR577)⟩ (nr_bool (R_of (lo := 0) (hi := 1) r588 rfl)) dX0_readMan_140
            ·
              have r589 : R (0) (9) i565 := ⟨by omega, by omega⟩
              refine r_aload_n S dX0_readMan_111 rfl (lv_at hl 0 rfl) ?_
              refine r_get (K := 3) (v := .ref (G.2.2.2.1 1)) S X570 (Nat.le_of_ble_eq_true rfl) rfl lk0_38_0 (fun _ => ⟨_, rfl, rfl⟩) dX0_readMan_112 ?_
              refine r_bipush S dX0_readMan_115 (by decide) (fun v590 z591 => ?_)
              have r592 := R_eq z591
              refine r_ki (q_V (As := [.int v590]) (rest := []) (K := 1) (ci := 7) S X570 (c_X7_isSigned_q l G t567 I568 v590 (R_of (lo := 0) (hi := 65535) r592 rfl) bb nb 900 fc575.1 hR577.1) ck0_153 (Nat.le_of_ble_eq_true rfl) rfl (fun _ => ⟨_, rfl⟩) ⟨_, _, rfl⟩ ⟨Nat.le_of_ble_eq_true rfl, Nat.le_of_ble_eq_true rfl⟩ rfl hl.1 rfl (Nat.le_of_ble_eq_true rfl) dX0_readMan_117 ⟨Nat.le_refl 0, Nat.le_refl 0⟩) X570 (fun v596 t595 H lc q593 X594 => ?_)
              unfold po_X7_isSigned_q at q593
              obtain ⟨q597, q598, q599⟩ := q593
              rw [q597] at X594
              refine r_if_ne (tgt := 139) S dX0_readMan_120 (by decide) (fun c600 => ?_) (fun c600 => ?_)
              ·
                have r601 : R (1) (1) v596 := ⟨by omega, by omega⟩
                have p602 := (q599).mp (by omega)
                refine r_iconst S dX0_readMan_139 (by decide) (fun v603 z604 => ?_)
                have r605 := R_eq z604
                exact r_ret S hr hlk X594 ⟨I568, F569, (R_of r605 rfl), (QX_r (by rw [← he580]; exact sOps_e ⟨p602.1, by have q := p602.2; omega⟩) (by omega) hR577)⟩ (nr_bool (R_of (lo := 0) (hi := 1) r605 rfl)) dX0_readMan_140
              ·
                have r606 : R (0) (0) v596 := ⟨by omega, by omega⟩
                have p607 := (iff_n q599) (by omega)
                refine r_aload_n S dX0_readMan_123 rfl (lv_at hl 0 rfl) ?_
                refine r_iload_n S dX0_readMan_124 rfl (lv_at hl 1 rfl) ?_
                refine r_ki (q_V (As := [.int v1]) (rest := []) (K := 3) (ci := 0) S X594 (c_X0_readOpinion_q l G t567 I568 v1 r8 bb nb fc575 op576 hR577 hO578 hm579) ck0_156 (Nat.le_of_ble_eq_true rfl) rfl (fun _ => ⟨_, rfl⟩) ⟨_, _, rfl⟩ ⟨Nat.le_of_ble_eq_true rfl, Nat.le_of_ble_eq_true rfl⟩ rfl hl.1 rfl (Nat.le_of_ble_eq_true rfl) dX0_readMan_125 ⟨Nat.le_refl 0, Nat.le_refl 0⟩) X594 (fun v611 t610 H lc q608 X609 => ?_)
                unfold po_X0_readOpinion_q at q608
                obtain ⟨q612, q613, q614, q615⟩ := q608
                have F616 : Fr [(3, 1), (3, 2), (4, 3), (1, 3), (1, 4), (1, 5), (1, 7), (1, 8)] [5, 8, 201, 210] τ t610 := Fr_call F569 q613 (by decide)
                refine r_if_ne (tgt := 133) S dX0_readMan_128 (by decide) (fun c617 => ?_) (fun c617 => ?_)
                ·
                  have r618 : R (1) (1) v611 := ⟨by omega, by omega⟩
                  have p619 := (QX_1 q615) (by omega)
                  obtain ⟨g620, e621, hP622⟩ := p619
                  refine r_iinc (k := 2) S dX0_readMan_133 hl rfl (by decide) (by decide) (fun v623 d624 ls z625 z626 hl => ?_)
                  obtain ⟨e627, r628⟩ := i_add (lo := 1) (hi := 10) z625 r589 (R_eq z626) rfl
                  have hl : lv_has ls 3 [(2, .int v623), (0, .ref (G.2.2.2.1 3)), (1, .int v1)] := hl
                  refine r_goto (tgt := 105) S dX0_readMan_136 (by decide) ?_
                  exact ih574 t610 _ _ _ v623 X609 q612 F616 (R_of r628 rfl) ((q613 4 3 (by decide)).trans z571) ⟨g620.2, (fun j => op576 j || j == g620.1), hP622.1, hP622.2, (by rw [sOp_s e621]; exact hm579), (by rw [← he580, show 10 - i565.toInt.toNat = (10 - v623.toInt.toNat) + 1 by omega]; exact (sOps_r (fun h => p607 ⟨h.1, by have q := h.2; omega⟩) e621).symm)⟩ (lv_sub hl [1, 2, 0] rfl) (by omega)
                ·
                  have r629 : R (0) (0) v611 := ⟨by omega, by omega⟩
                  have p630 := (QX_0 q615) (by omega)
                  obtain ⟨q631, e632, h633, h634⟩ := p630
                  refine r_iconst S dX0_readMan_131 (by decide) (fun v635 z636 => ?_)
                  have r637 := R_eq z636
                  exact r_ret S hr hlk X609 ⟨q612, F616, (R_of r637 rfl), (QX_l (by rw [← he580, show 10 - i565.toInt.toNat = (9 - i565.toInt.toNat) + 1 by omega]; exact sOps_l (fun h => p607 ⟨h.1, by have q := h.2; omega⟩) e632) (by omega) h633 h634)⟩ (nr_bool (R_of (lo := 0) (hi := 1) r637 rfl)) dX0_readMan_132
        exact L572 _ t86 _ _ _ v91 X88 I89 F90 (R_of r93 rfl) ((M87.2 4 3 (Or.inl (by decide))).trans ((q72 4 3 (by decide)).trans ((q57 4 3 (by decide)).trans M47.1))) ⟨g83.2, (fun _ => false), (RC_fr hP85.2 (fun j => ((M87.2 1 j (Or.inl (by decide))).trans rfl)) (fun j => ((M87.2 2 j (Or.inl (by decide))).trans rfl)) (fun j => ((M87.2 201 j (Or.inl (by decide))).trans rfl)) ((M87.2 3 5 (Or.inl (by decide))).trans rfl) ((M87.2 3 6 (Or.inl (by decide))).trans rfl) (fun j => ((M87.2 4 j (Or.inl (by decide))).trans rfl)) (fun j => ((M87.2 6 j (Or.inl (by decide))).trans rfl)) (fun j => ((M87.2 7 j (Or.inl (by decide))).trans rfl)) (fun j => ((M87.2 8 j (Or.inl (by decide))).trans rfl)) (fun j => ((M87.2 209 j (Or.inl (by decide))).trans rfl)) (fun j => ((M87.2 210 j (Or.inl (by decide))).trans rfl))), RO_eq (RO_0 hP31.2 (m := v1.toInt.toNat) (by show (gmn fs.2).length ≤ _; omega) (by omega)) (fun j => ((M87.2 8 j (Or.inl (by decide))).trans ((q72 8 j (by simp [fz])).trans ((q57 8 j (by simp [fz])).trans ((M47.2 8 j (Or.inl (by decide))).trans ((M36.1 8 (by decide) j).trans rfl)))))), (by rw [sNum_s e84]; show _ < (gmn fs.2 ++ [_]).length; rw [List.length_append]; show _ < _ + 1; omega), (by rw [show 10 - v91.toInt.toNat = 10 by omega]; exact (sMan_r (by have q := (RP_mnm hR.2).1; rw [z2] at q; omega) e30 e84).symm)⟩ (lv_sub hl [2, 1, 0] rfl) (Nat.lt_succ_self _)
      ·
        have r638 : R (0) (0) v70 := ⟨by omega, by omega⟩
        have p639 := (QX_0 q75) (by omega)
        obtain ⟨q640, e641, h642, h643⟩ := p639
        refine r_iconst S dX0_readMan_88 (by decide) (fun v644 z645 => ?_)
        have r646 := R_eq z645
        exact r_ret S hr hlk X68 ⟨q71, F76, (R_of r646 rfl), (QX_l (sMan_l2 (by have q := (RP_mnm hR.2).1; rw [z2] at q; omega) e30 e641) (by omega) h642 h643)⟩ (nr_bool (R_of (lo := 0) (hi := 1) r646 rfl)) dX0_readMan_89
    ·
      have r647 : R (0) (0) v20 := ⟨by omega, by omega⟩
      have p648 := (QX_0 q24) (by omega)
      obtain ⟨q649, e650, h651, h652⟩ := p648
      refine r_iconst S dX0_readMan_32 (by decide) (fun v653 z654 => ?_)
      have r655 := R_eq z654
      exact r_ret S hr hlk X18 ⟨q21, F25, (R_of r655 rfl), (QX_l (sMan_l1 (by have q := (RP_mnm hR.2).1; rw [z2] at q; omega) e650) (by omega) h651 h652)⟩ (nr_bool (R_of (lo := 0) (hi := 1) r655 rfl)) dX0_readMan_33
  ·
    have r656 : R (10) (10) v1 := ⟨by omega, by omega⟩
    refine r_aload_n S dX0_readMan_12 rfl (lv_at hl 0 rfl) ?_
    refine r_iconst S dX0_readMan_13 (by decide) (fun v657 z658 => ?_)
    have r659 := R_eq z658
    refine r_ki (q_U (As := [.int v657]) (rest := []) (K := 3) (ci := 0) S X (c_X8_fail_q l G τ hI v657 (R_of (lo := -2147483648) (hi := 2147483647) r659 rfl)) ck0_98_0 (Nat.le_of_ble_eq_true rfl) rfl (fun _ => ⟨_, rfl⟩) ⟨_, _, rfl⟩ ⟨Nat.le_of_ble_eq_true rfl, Nat.le_of_ble_eq_true rfl⟩ rfl hl.1 rfl (Nat.le_of_ble_eq_true rfl) dX0_readMan_14 ⟨Nat.le_refl 0, Nat.le_refl 0⟩) X (fun v663 t662 H lc q660 X661 => ?_)
    unfold po_X8_fail_q at q660
    obtain ⟨q664, q665, q666, q667⟩ := q660
    have F668 : Fr [(3, 1), (3, 2), (4, 3), (1, 3), (1, 4), (1, 5), (1, 7), (1, 8)] [5, 8, 201, 210] τ t662 := Fr_call Fr_rfl q665 (by decide)
    exact r_ret S hr hlk X661 ⟨q664, F668, (R_of q666 rfl), (QX_b (sMan_b (by have q := (RP_mnm hR.2).1; rw [z2] at q; omega)) (by omega) (by rw [q667]; omega) (RC_at (RC_fr hR (fun j => ((q665 1 j (by simp [fz])).trans rfl)) (fun j => ((q665 2 j (by simp [fz])).trans rfl)) (fun j => ((q665 201 j (by simp [fz])).trans rfl)) ((q665 3 5 (by decide)).trans rfl) ((q665 3 6 (by decide)).trans rfl) (fun j => ((q665 4 j (by simp [fz])).trans rfl)) (fun j => ((q665 6 j (by simp [fz])).trans rfl)) (fun j => ((q665 7 j (by simp [fz])).trans rfl)) (fun j => ((q665 8 j (by simp [fz])).trans rfl)) (fun j => ((q665 209 j (by simp [fz])).trans rfl)) (fun j => ((q665 210 j (by simp [fz])).trans rfl)))))⟩ (nr_bool (R_of (lo := 0) (hi := 1) q666 rfl)) dX0_readMan_17
def po_X0_readLine_q (τ : Tau)    (bb : Nat → Int) (nb : Nat) (fs : FS) (r : Int32) (u : Tau) : Prop := Inv u ∧ Fr [(3, 1), (3, 2), (3, 5), (3, 6), (4, 0), (4, 1), (4, 2), (4, 3), (4, 4), (1, 3), (1, 4), (1, 5), (1, 7), (1, 8)] [5, 6, 7, 8, 201, 210, 209] τ u ∧ R (0) (1) r ∧ QX (sLine bb nb fs) r u (fun g => RC bb nb u g)
set_option maxHeartbeats 4000000 in
set_option maxRecDepth 100000 in
theorem c_X0_readLine_q (l : Launch) (G : Gx) (τ : Tau) (hI : Inv τ) (bb : Nat → Int) (nb : Nat) (fs : FS) (hR : RC bb nb τ fs) : Ci l G yX0_readLine cX0_readLine 1 (some .boolean) 4 91 [.ref (G.2.2.2.1 3)] τ (po_X0_readLine_q τ    bb nb fs) := by
  unfold Ci
  refine C_of (own := RX0) (by decide) rfl (Nat.le_of_ble_eq_true rfl) ?_
  intro p e s m below meth c ls S hr hlk X hl
  have hl : lv_has ls 1 [(0, .ref (G.2.2.2.1 3))] := hl
  refine r_aload_n S dX0_readLine_0 rfl (lv_at hl 0 rfl) ?_
  refine r_get (K := 3) (v := .ref (G.2.2.2.1 1)) S X (Nat.le_of_ble_eq_true rfl) rfl lk0_38_0 (fun _ => ⟨_, rfl, rfl⟩) dX0_readLine_1 ?_
  refine r_wst (i := 0) S X (by decide) kw18 dX0_readLine_4 ?_
  refine r_ki (q_V (As := [.ref (G.2.2.1 0)]) (rest := []) (K := 1) (ci := 7) S X (c_X7_is_q l G τ hI 0 (by decide) bb nb 900 fs.1 hR.1) ck0_61 (Nat.le_of_ble_eq_true rfl) rfl (fun _ => ⟨_, rfl⟩) ⟨_, _, rfl⟩ ⟨Nat.le_of_ble_eq_true rfl, Nat.le_of_ble_eq_true rfl⟩ rfl hl.1 rfl (Nat.le_of_ble_eq_true rfl) dX0_readLine_7 ⟨Nat.le_refl 0, Nat.le_refl 0⟩) X (fun v4 t3 H lc q1 X2 => ?_)
  unfold po_X7_is_q at q1
  obtain ⟨q5, q6, q7⟩ := q1
  rw [q5] at X2
  refine r_if_eq (tgt := 18) S dX0_readLine_10 (by decide) (fun c8 => ?_) (fun c8 => ?_)
  ·
    have r9 : R (0) (0) v4 := ⟨by omega, by omega⟩
    have p10 := (iff_n q7) (by omega)
    refine r_aload_n S dX0_readLine_18 rfl (lv_at hl 0 rfl) ?_
    refine r_get (K := 3) (v := .ref (G.2.2.2.1 1)) S X2 (Nat.le_of_ble_eq_true rfl) rfl lk0_38_0 (fun _ => ⟨_, rfl, rfl⟩) dX0_readLine_19 ?_
    refine r_wst (i := 1) S X2 (by decide) kw19 dX0_readLine_22 ?_
    refine r_ki (q_V (As := [.ref (G.2.2.1 1)]) (rest := []) (K := 1) (ci := 7) S X2 (c_X7_is_q l G τ hI 1 (by decide) bb nb 900 fs.1 hR.1) ck0_61 (Nat.le_of_ble_eq_true rfl) rfl (fun _ => ⟨_, rfl⟩) ⟨_, _, rfl⟩ ⟨Nat.le_of_ble_eq_true rfl, Nat.le_of_ble_eq_true rfl⟩ rfl hl.1 rfl (Nat.le_of_ble_eq_true rfl) dX0_readLine_25 ⟨Nat.le_refl 0, Nat.le_refl 0⟩) X2 (fun v14 t13 H lc q11 X12 => ?_)
    unfold po_X7_is_q at q11
    obtain ⟨q15, q16, q17⟩ := q11
    rw [q15] at X12
    refine r_if_eq (tgt := 36) S dX0_readLine_28 (by decide) (fun c18 => ?_) (fun c18 => ?_)
    ·
      have r19 : R (0) (0) v14 := ⟨by omega, by omega⟩
      have p20 := (iff_n q17) (by omega)
      refine r_aload_n S dX0_readLine_36 rfl (lv_at hl 0 rfl) ?_
      refine r_get (K := 3) (v := .ref (G.2.2.2.1 1)) S X12 (Nat.le_of_ble_eq_true rfl) rfl lk0_38_0 (fun _ => ⟨_, rfl, rfl⟩) dX0_readLine_37 ?_
      refine r_wst (i := 2) S X12 (by decide) kw20 dX0_readLine_40 ?_
      refine r_ki (q_V (As := [.ref (G.2.2.1 2)]) (rest := []) (K := 1) (ci := 7) S X12 (c_X7_is_q l G τ hI 2 (by decide) bb nb 900 fs.1 hR.1) ck0_61 (Nat.le_of_ble_eq_true rfl) rfl (fun _ => ⟨_, rfl⟩) ⟨_, _, rfl⟩ ⟨Nat.le_of_ble_eq_true rfl, Nat.le_of_ble_eq_true rfl⟩ rfl hl.1 rfl (Nat.le_of_ble_eq_true rfl) dX0_readLine_43 ⟨Nat.le_refl 0, Nat.le_refl 0⟩) X12 (fun v24 t23 H lc q21 X22 => ?_)
      unfold po_X7_is_q at q21
      obtain ⟨q25, q26, q27⟩ := q21
      rw [q25] at X22
      refine r_if_eq (tgt := 54) S dX0_readLine_46 (by decide) (fun c28 => ?_) (fun c28 => ?_)
      ·
        have r29 : R (0) (0) v24 := ⟨by omega, by omega⟩
        have p30 := (iff_n q27) (by omega)
        refine r_aload_n S dX0_readLine_54 rfl (lv_at hl 0 rfl) ?_
        refine r_get (K := 3) (v := .ref (G.2.2.2.1 1)) S X22 (Nat.le_of_ble_eq_true rfl) rfl lk0_38_0 (fun _ => ⟨_, rfl, rfl⟩) dX0_readLine_55 ?_
        refine r_wst (i := 3) S X22 (by decide) kw21 dX0_readLine_58 ?_
        refine r_ki (q_V (As := [.ref (G.2.2.1 3)]) (rest := []) (K := 1) (ci := 7) S X22 (c_X7_is_q l G τ hI 3 (by decide) bb nb 900 fs.1 hR.1) ck0_61 (Nat.le_of_ble_eq_true rfl) rfl (fun _ => ⟨_, rfl⟩) ⟨_, _, rfl⟩ ⟨Nat.le_of_ble_eq_true rfl, Nat.le_of_ble_eq_true rfl⟩ rfl hl.1 rfl (Nat.le_of_ble_eq_true rfl) dX0_readLine_61 ⟨Nat.le_refl 0, Nat.le_refl 0⟩) X22 (fun v34 t33 H lc q31 X32 => ?_)
        unfold po_X7_is_q at q31
        obtain ⟨q35, q36, q37⟩ := q31
        rw [q35] at X32
        refine r_if_eq (tgt := 72) S dX0_readLine_64 (by decide) (fun c38 => ?_) (fun c38 => ?_)
        ·
          have r39 : R (0) (0) v34 := ⟨by omega, by omega⟩
          have p40 := (iff_n q37) (by omega)
          refine r_aload_n S dX0_readLine_72 rfl (lv_at hl 0 rfl) ?_
          refine r_get (K := 3) (v := .ref (G.2.2.2.1 1)) S X32 (Nat.le_of_ble_eq_true rfl) rfl lk0_38_0 (fun _ => ⟨_, rfl, rfl⟩) dX0_readLine_73 ?_
          refine r_wst (i := 6) S X32 (by decide) kw22 dX0_readLine_76 ?_
          refine r_ki (q_V (As := [.ref (G.2.2.1 6)]) (rest := []) (K := 1) (ci := 7) S X32 (c_X7_is_q l G τ hI 6 (by decide) bb nb 900 fs.1 hR.1) ck0_61 (Nat.le_of_ble_eq_true rfl) rfl (fun _ => ⟨_, rfl⟩) ⟨_, _, rfl⟩ ⟨Nat.le_of_ble_eq_true rfl, Nat.le_of_ble_eq_true rfl⟩ rfl hl.1 rfl (Nat.le_of_ble_eq_true rfl) dX0_readLine_79 ⟨Nat.le_refl 0, Nat.le_refl 0⟩) X32 (fun v44 t43 H lc q41 X42 => ?_)
          unfold po_X7_is_q at q41
          obtain ⟨q45, q46, q47⟩ := q41
          rw [q45] at X42
          refine r_if_eq (tgt := 90) S dX0_readLine_82 (by decide) (fun c48 => ?_) (fun c48 => ?_)
          ·
            have r49 : R (0) (0) v44 := ⟨by omega, by omega⟩
            have p50 := (iff_n q47) (by omega)
            refine r_aload_n S dX0_readLine_90 rfl (lv_at hl 0 rfl) ?_
            refine r_get (K := 3) (v := .ref (G.2.2.2.1 1)) S X42 (Nat.le_of_ble_eq_true rfl) rfl lk0_38_0 (fun _ => ⟨_, rfl, rfl⟩) dX0_readLine_91 ?_
            refine r_wst (i := 7) S X42 (by decide) kw23 dX0_readLine_94 ?_
            refine r_ki (q_V (As := [.ref (G.2.2.1 7)]) (rest := []) (K := 1) (ci := 7) S X42 (c_X7_is_q l G τ hI 7 (by decide) bb nb 900 fs.1 hR.1) ck0_61 (Nat.le_of_ble_eq_true rfl) rfl (fun _ => ⟨_, rfl⟩) ⟨_, _, rfl⟩ ⟨Nat.le_of_ble_eq_true rfl, Nat.le_of_ble_eq_true rfl⟩ rfl hl.1 rfl (Nat.le_of_ble_eq_true rfl) dX0_readLine_97 ⟨Nat.le_refl 0, Nat.le_refl 0⟩) X42 (fun v54 t53 H lc q51 X52 => ?_)
            unfold po_X7_is_q at q51
            obtain ⟨q55, q56, q57⟩ := q51
            rw [q55] at X52
            refine r_if_eq (tgt := 108) S dX0_readLine_100 (by decide) (fun c58 => ?_) (fun c58 => ?_)
            ·
              have r59 : R (0) (0) v54 := ⟨by omega, by omega⟩
              have p60 := (iff_n q57) (by omega)
              refine r_aload_n S dX0_readLine_108 rfl (lv_at hl 0 rfl) ?_
              refine r_iconst S dX0_readLine_109 (by decide) (fun v61 z62 => ?_)
              have r63 := R_eq z62
              refine r_ki (q_U (As := [.int v61]) (rest := []) (K := 3) (ci := 0) S X52 (c_X8_fail_q l G τ hI v61 (R_of (lo := -2147483648) (hi := 2147483647) r63 rfl)) ck0_98_0 (Nat.le_of_ble_eq_true rfl) rfl (fun _ => ⟨_, rfl⟩) ⟨_, _, rfl⟩ ⟨Nat.le_of_ble_eq_true rfl, Nat.le_of_ble_eq_true rfl⟩ rfl hl.1 rfl (Nat.le_of_ble_eq_true rfl) dX0_readLine_110 ⟨Nat.le_refl 0, Nat.le_refl 0⟩) X52 (fun v67 t66 H lc q64 X65 => ?_)
              unfold po_X8_fail_q at q64
              obtain ⟨q68, q69, q70, q71⟩ := q64
              have F72 : Fr [(3, 1), (3, 2), (3, 5), (3, 6), (4, 0), (4, 1), (4, 2), (4, 3), (4, 4), (1, 3), (1, 4), (1, 5), (1, 7), (1, 8)] [5, 6, 7, 8, 201, 210, 209] τ t66 := Fr_call Fr_rfl q69 (by decide)
              exact r_ret S hr hlk X65 ⟨q68, F72, (R_of q70 rfl), (QX_b (sLine_b p10 p20 p30 p40 p50 p60) (by omega) (by rw [q71]; omega) (RC_at (RC_fr hR (fun j => ((q69 1 j (by simp [fz])).trans rfl)) (fun j => ((q69 2 j (by simp [fz])).trans rfl)) (fun j => ((q69 201 j (by simp [fz])).trans rfl)) ((q69 3 5 (by decide)).trans rfl) ((q69 3 6 (by decide)).trans rfl) (fun j => ((q69 4 j (by simp [fz])).trans rfl)) (fun j => ((q69 6 j (by simp [fz])).trans rfl)) (fun j => ((q69 7 j (by simp [fz])).trans rfl)) (fun j => ((q69 8 j (by simp [fz])).trans rfl)) (fun j => ((q69 209 j (by simp [fz])).trans rfl)) (fun j => ((q69 210 j (by simp [fz])).trans rfl)))))⟩ (nr_bool (R_of (lo := 0) (hi := 1) q70 rfl)) dX0_readLine_113
            ·
              have r73 : R (1) (1) v54 := ⟨by omega, by omega⟩
              have p74 := (q57).mp (by omega)
              refine r_aload_n S dX0_readLine_103 rfl (lv_at hl 0 rfl) ?_
              refine r_ki (q_V (As := []) (rest := []) (K := 3) (ci := 0) S X52 (c_X0_readKin_q l G τ hI bb nb fs hR p74.1) ck0_95 (Nat.le_of_ble_eq_true rfl) rfl (fun _ => ⟨_, rfl⟩) ⟨_, _, rfl⟩ ⟨Nat.le_of_ble_eq_true rfl, Nat.le_of_ble_eq_true rfl⟩ rfl hl.1 rfl (Nat.le_of_ble_eq_true rfl) dX0_readLine_104 ⟨Nat.le_refl 0, Nat.le_refl 0⟩) X52 (fun v78 t77 H lc q75 X76 => ?_)
              unfold po_X0_readKin_q at q75
              obtain ⟨q79, q80, q81, q82⟩ := q75
              have F83 : Fr [(3, 1), (3, 2), (3, 5), (3, 6), (4, 0), (4, 1), (4, 2), (4, 3), (4, 4), (1, 3), (1, 4), (1, 5), (1, 7), (1, 8)] [5, 6, 7, 8, 201, 210, 209] τ t77 := Fr_call Fr_rfl q80 (by decide)
              exact r_ret S hr hlk X76 ⟨q79, F83, q81, (by rw [sLine_7 p10 p20 p30 p40 p50 p74]; exact q82)⟩ (nr_bool (R_of (lo := 0) (hi := 1) q81 rfl)) dX0_readLine_107
          ·
            have r84 : R (1) (1) v44 := ⟨by omega, by omega⟩
            have p85 := (q47).mp (by omega)
            refine r_aload_n S dX0_readLine_85 rfl (lv_at hl 0 rfl) ?_
            refine r_ki (q_V (As := []) (rest := []) (K := 3) (ci := 0) S X42 (c_X0_readChild_q l G τ hI bb nb fs hR p85.1) ck0_89 (Nat.le_of_ble_eq_true rfl) rfl (fun _ => ⟨_, rfl⟩) ⟨_, _, rfl⟩ ⟨Nat.le_of_ble_eq_true rfl, Nat.le_of_ble_eq_true rfl⟩ rfl hl.1 rfl (Nat.le_of_ble_eq_true rfl) dX0_readLine_86 ⟨Nat.le_refl 0, Nat.le_refl 0⟩) X42 (fun v89 t88 H lc q86 X87 => ?_)
            unfold po_X0_readChild_q at q86
            obtain ⟨q90, q91, q92, q93⟩ := q86
            have F94 : Fr [(3, 1), (3, 2), (3, 5), (3, 6), (4, 0), (4, 1), (4, 2), (4, 3), (4, 4), (1, 3), (1, 4), (1, 5), (1, 7), (1, 8)] [5, 6, 7, 8, 201, 210, 209] τ t88 := Fr_call Fr_rfl q91 (by decide)
            exact r_ret S hr hlk X87 ⟨q90, F94, q92, (by rw [sLine_6 p10 p20 p30 p40 p85]; exact q93)⟩ (nr_bool (R_of (lo := 0) (hi := 1) q92 rfl)) dX0_readLine_89
        ·
          have r95 : R (1) (1) v34 := ⟨by omega, by omega⟩
          have p96 := (q37).mp (by omega)
          refine r_aload_n S dX0_readLine_67 rfl (lv_at hl 0 rfl) ?_
          refine r_ki (q_V (As := []) (rest := []) (K := 3) (ci := 0) S X32 (c_X0_readMan_q l G τ hI bb nb fs hR p96.1) ck0_83 (Nat.le_of_ble_eq_true rfl) rfl (fun _ => ⟨_, rfl⟩) ⟨_, _, rfl⟩ ⟨Nat.le_of_ble_eq_true rfl, Nat.le_of_ble_eq_true rfl⟩ rfl hl.1 rfl (Nat.le_of_ble_eq_true rfl) dX0_readLine_68 ⟨Nat.le_refl 0, Nat.le_refl 0⟩) X32 (fun v100 t99 H lc q97 X98 => ?_)
          unfold po_X0_readMan_q at q97
          obtain ⟨q101, q102, q103, q104⟩ := q97
          have F105 : Fr [(3, 1), (3, 2), (3, 5), (3, 6), (4, 0), (4, 1), (4, 2), (4, 3), (4, 4), (1, 3), (1, 4), (1, 5), (1, 7), (1, 8)] [5, 6, 7, 8, 201, 210, 209] τ t99 := Fr_call Fr_rfl q102 (by decide)
          exact r_ret S hr hlk X98 ⟨q101, F105, q103, (by rw [sLine_3 p10 p20 p30 p96]; exact q104)⟩ (nr_bool (R_of (lo := 0) (hi := 1) q103 rfl)) dX0_readLine_71
      ·
        have r106 : R (1) (1) v24 := ⟨by omega, by omega⟩
        have p107 := (q27).mp (by omega)
        refine r_aload_n S dX0_readLine_49 rfl (lv_at hl 0 rfl) ?_
        refine r_ki (q_V (As := []) (rest := []) (K := 3) (ci := 0) S X22 (c_X0_readAsk_q l G τ hI bb nb fs hR p107.1) ck0_77 (Nat.le_of_ble_eq_true rfl) rfl (fun _ => ⟨_, rfl⟩) ⟨_, _, rfl⟩ ⟨Nat.le_of_ble_eq_true rfl, Nat.le_of_ble_eq_true rfl⟩ rfl hl.1 rfl (Nat.le_of_ble_eq_true rfl) dX0_readLine_50 ⟨Nat.le_refl 0, Nat.le_refl 0⟩) X22 (fun v111 t110 H lc q108 X109 => ?_)
        unfold po_X0_readAsk_q at q108
        obtain ⟨q112, q113, q114, q115⟩ := q108
        have F116 : Fr [(3, 1), (3, 2), (3, 5), (3, 6), (4, 0), (4, 1), (4, 2), (4, 3), (4, 4), (1, 3), (1, 4), (1, 5), (1, 7), (1, 8)] [5, 6, 7, 8, 201, 210, 209] τ t110 := Fr_call Fr_rfl q113 (by decide)
        exact r_ret S hr hlk X109 ⟨q112, F116, q114, (by rw [sLine_2 p10 p20 p107]; exact q115)⟩ (nr_bool (R_of (lo := 0) (hi := 1) q114 rfl)) dX0_readLine_53
    ·
      have r117 : R (1) (1) v14 := ⟨by omega, by omega⟩
      have p118 := (q17).mp (by omega)
      refine r_aload_n S dX0_readLine_31 rfl (lv_at hl 0 rfl) ?_
      refine r_ki (q_V (As := []) (rest := []) (K := 3) (ci := 0) S X12 (c_X0_readSlack_q l G τ hI bb nb fs hR p118) ck0_71 (Nat.le_of_ble_eq_true rfl) rfl (fun _ => ⟨_, rfl⟩) ⟨_, _, rfl⟩ ⟨Nat.le_of_ble_eq_true rfl, Nat.le_of_ble_eq_true rfl⟩ rfl hl.1 rfl (Nat.le_of_ble_eq_true rfl) dX0_readLine_32 ⟨Nat.le_refl 0, Nat.le_refl 0⟩) X12 (fun v122 t121 H lc q119 X120 => ?_)
      unfold po_X0_readSlack_q at q119
      obtain ⟨q123, q124, q125, q126⟩ := q119
      have F127 : Fr [(3, 1), (3, 2), (3, 5), (3, 6), (4, 0), (4, 1), (4, 2), (4, 3), (4, 4), (1, 3), (1, 4), (1, 5), (1, 7), (1, 8)] [5, 6, 7, 8, 201, 210, 209] τ t121 := Fr_call Fr_rfl q124 (by decide)
      exact r_ret S hr hlk X120 ⟨q123, F127, q125, (by rw [sLine_1 p10 p118]; exact q126)⟩ (nr_bool (R_of (lo := 0) (hi := 1) q125 rfl)) dX0_readLine_35
  ·
    have r128 : R (1) (1) v4 := ⟨by omega, by omega⟩
    have p129 := (q7).mp (by omega)
    refine r_aload_n S dX0_readLine_13 rfl (lv_at hl 0 rfl) ?_
    refine r_ki (q_V (As := []) (rest := []) (K := 3) (ci := 0) S X2 (c_X0_readSeats_q l G τ hI bb nb fs hR p129) ck0_65 (Nat.le_of_ble_eq_true rfl) rfl (fun _ => ⟨_, rfl⟩) ⟨_, _, rfl⟩ ⟨Nat.le_of_ble_eq_true rfl, Nat.le_of_ble_eq_true rfl⟩ rfl hl.1 rfl (Nat.le_of_ble_eq_true rfl) dX0_readLine_14 ⟨Nat.le_refl 0, Nat.le_refl 0⟩) X2 (fun v133 t132 H lc q130 X131 => ?_)
    unfold po_X0_readSeats_q at q130
    obtain ⟨q134, q135, q136, q137⟩ := q130
    have F138 : Fr [(3, 1), (3, 2), (3, 5), (3, 6), (4, 0), (4, 1), (4, 2), (4, 3), (4, 4), (1, 3), (1, 4), (1, 5), (1, 7), (1, 8)] [5, 6, 7, 8, 201, 210, 209] τ t132 := Fr_call Fr_rfl q135 (by decide)
    exact r_ret S hr hlk X131 ⟨q134, F138, q136, (by rw [sLine_0 p129]; exact q137)⟩ (nr_bool (R_of (lo := 0) (hi := 1) q136 rfl)) dX0_readLine_17
