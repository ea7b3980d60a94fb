def po_X10_carry (τ : Tau)  (a0 : Int32)   (u : Tau) : Prop := Inv u ∧ Fr [(30, 4), (30, 5), (30, 6), (30, 10)] [33, 34] τ u
set_option maxHeartbeats 4000000 in
set_option maxRecDepth 100000 in
theorem c_X10_carry (l : Launch) (G : Gx) (τ : Tau) (hI : Inv τ) (a0 : Int32) (h_a0 : R (0) (1023) a0) : Cv l G yX10_carry cX10_carry 3 1 21 [.ref (G.2.2.2.1 22), .int a0] τ (po_X10_carry τ  a0  ) := by
  unfold Cv
  refine C_of (own := RX10) (by decide) rfl (Nat.le_of_ble_eq_true rfl) ?_
  intro p e s m below meth c ls S hr hlk X hl
  have hl : lv_has ls 3 [(0, .ref (G.2.2.2.1 22)), (1, .int a0)] := hl
  refine r_aload_n S dX10_carry_0 rfl (lv_at hl 0 rfl) ?_
  refine r_get (K := 22) (v := .ref (G.2.2.2.1 30)) S X (Nat.le_of_ble_eq_true rfl) rfl lk10_21_8 (fun _ => ⟨_, rfl, rfl⟩) dX10_carry_1 ?_
  refine r_dup S dX10_carry_4 rfl ?_
  refine r_getn (K := 23) S X (Nat.le_of_ble_eq_true rfl) rfl lk10_62_3 (fun _ => ⟨_, rfl, rfl⟩) dX10_carry_5 (fun v1 z2 => ?_)
  have r3 : R (0) (1023) v1 := rd hI rfl z2
  refine r_iload_n S dX10_carry_8 rfl (lv_at hl 1 rfl) ?_
  refine r_ixor S dX10_carry_9 (fun v4 z5 => ?_)
  have r7 : R (0) (1023) v4 := i_xor 10 z5 r3 h_a0 rfl
  refine r_put (K := 23) (ty := .int) S X (Nat.le_of_ble_eq_true rfl) rfl lk10_62_3 (fun _ => ⟨_, rfl, Nat.le_of_ble_eq_true rfl, rfl⟩) (fun _ _ _ h => by cases h; exact ⟨rfl, rfl⟩) rfl rfl dX10_carry_10 (fun t8 H lc M9 X10 => ?_)
  have I11 := Inv_mu hI M9 (show Rg (kd 30) 4 v4 from (R_of (lo := 0) (hi := 1023) r7 rfl))
  have F12 : Fr [(30, 4), (30, 5), (30, 6), (30, 10)] [33, 34] τ t8 := Fr_mu Fr_rfl M9 (by decide)
  refine r_aload_n S dX10_carry_13 rfl (lv_at hl 0 rfl) ?_
  refine r_get (K := 22) (v := .ref (G.2.2.2.1 30)) S X10 (Nat.le_of_ble_eq_true rfl) rfl lk10_21_8 (fun _ => ⟨_, rfl, rfl⟩) dX10_carry_14 ?_
  refine r_iconst S dX10_carry_17 (by decide) (fun v13 z14 => ?_)
  have r15 := R_eq z14
  refine r_aload_n S dX10_carry_18 rfl (lv_at hl 0 rfl) ?_
  refine r_get (K := 22) (v := .ref (G.2.2.2.1 30)) S X10 (Nat.le_of_ble_eq_true rfl) rfl lk10_21_8 (fun _ => ⟨_, rfl, rfl⟩) dX10_carry_19 ?_
  refine r_getn (K := 23) S X10 (Nat.le_of_ble_eq_true rfl) rfl lk10_59_3 (fun _ => ⟨_, rfl, rfl⟩) dX10_carry_22 (fun v16 z17 => ?_)
  have r18 : R (0) (1) v16 := rd I11 rfl z17
  refine r_isub S dX10_carry_25 (fun v19 z20 => ?_)
  obtain ⟨e21, r22⟩ := i_sub (lo := 0) (hi := 1) z20 r15 r18 rfl
  refine r_put (K := 23) (ty := .int) S X10 (Nat.le_of_ble_eq_true rfl) rfl lk10_59_3 (fun _ => ⟨_, rfl, Nat.le_of_ble_eq_true rfl, rfl⟩) (fun _ _ _ h => by cases h; exact ⟨rfl, rfl⟩) rfl rfl dX10_carry_26 (fun t23 H lc M24 X25 => ?_)
  have I26 := Inv_mu I11 M24 (show Rg (kd 30) 5 v19 from (R_of (lo := 0) (hi := 1) r22 rfl))
  have F27 : Fr [(30, 4), (30, 5), (30, 6), (30, 10)] [33, 34] τ t23 := Fr_mu F12 M24 (by decide)
  refine r_aload_n S dX10_carry_29 rfl (lv_at hl 0 rfl) ?_
  refine r_get (K := 22) (v := .ref (G.2.2.2.1 30)) S X25 (Nat.le_of_ble_eq_true rfl) rfl lk10_21_8 (fun _ => ⟨_, rfl, rfl⟩) dX10_carry_30 ?_
  refine r_dup S dX10_carry_33 rfl ?_
  refine r_getn (K := 23) S X25 (Nat.le_of_ble_eq_true rfl) rfl lk10_91_3 (fun _ => ⟨_, rfl, rfl⟩) dX10_carry_34 (fun v28 z29 => ?_)
  have r30 : R (0) (1023) v28 := rd I26 rfl z29
  refine r_iload_n S dX10_carry_37 rfl (lv_at hl 1 rfl) ?_
  refine r_iconst S dX10_carry_38 (by decide) (fun v31 z32 => ?_)
  have r33 := R_eq z32
  refine r_ixor S dX10_carry_39 (fun v34 z35 => ?_)
  have r36 := R_any v34
  refine r_iand S dX10_carry_40 (fun v37 z38 => ?_)
  have r40 : R (0) (1023) v37 := i_and1 z38 r30 r36 rfl
  have e41 := i_andle z38 r30 rfl
  refine r_put (K := 23) (ty := .int) S X25 (Nat.le_of_ble_eq_true rfl) rfl lk10_91_3 (fun _ => ⟨_, rfl, Nat.le_of_ble_eq_true rfl, rfl⟩) (fun _ _ _ h => by cases h; exact ⟨rfl, rfl⟩) rfl rfl dX10_carry_41 (fun t42 H lc M43 X44 => ?_)
  have I45 := Inv_mu I26 M43 (show Rg (kd 30) 6 v37 from (R_of (lo := 0) (hi := 1023) r40 rfl))
  have F46 : Fr [(30, 4), (30, 5), (30, 6), (30, 10)] [33, 34] τ t42 := Fr_mu F27 M43 (by decide)
  refine r_aload_n S dX10_carry_44 rfl (lv_at hl 0 rfl) ?_
  refine r_get (K := 22) (v := .ref (G.2.2.2.1 30)) S X44 (Nat.le_of_ble_eq_true rfl) rfl lk10_21_8 (fun _ => ⟨_, rfl, rfl⟩) dX10_carry_45 ?_
  refine r_dup S dX10_carry_48 rfl ?_
  refine r_getn (K := 23) S X44 (Nat.le_of_ble_eq_true rfl) rfl lk10_150_3 (fun _ => ⟨_, rfl, rfl⟩) dX10_carry_49 (fun v47 z48 => ?_)
  have r50 := R_any v47
  refine r_iconst S dX10_carry_52 (by decide) (fun v51 z52 => ?_)
  have r53 := R_eq z52
  refine r_iadd S dX10_carry_53 (fun v54 z55 => ?_)
  have r56 := R_any v54
  refine r_put (K := 23) (ty := .int) S X44 (Nat.le_of_ble_eq_true rfl) rfl lk10_150_3 (fun _ => ⟨_, rfl, Nat.le_of_ble_eq_true rfl, rfl⟩) (fun _ _ _ h => by cases h; exact ⟨rfl, rfl⟩) rfl rfl dX10_carry_54 (fun t57 H lc M58 X59 => ?_)
  have I60 := Inv_mu I45 M58 (R_any v54)
  have F61 : Fr [(30, 4), (30, 5), (30, 6), (30, 10)] [33, 34] τ t57 := Fr_mu F46 M58 (by decide)
  refine r_iconst S dX10_carry_57 (by decide) (fun v62 z63 => ?_)
  have r64 := R_eq z63
  refine r_istore_n (lv' := [(2, .int v62), (0, .ref (G.2.2.2.1 22)), (1, .int a0)]) S dX10_carry_58 rfl hl (by decide) rfl (fun ls hl => ?_)
  have L572 : ∀ (n : Nat) (t564 : Tau) (H : Heap) (lc : List Loc) (ls : Array Slot) (i562 : Int32), Xd G s H lc t564 → Inv t564 → Fr [(30, 4), (30, 5), (30, 6), (30, 10)] [33, 34] τ t564 → R (0) (10) i562 → t564 30 4 = v4 → t564 30 5 = v19 → t564 30 6 = v37 → t564 30 10 = v54 → lv_has ls 3 [(0, .ref (G.2.2.2.1 22)), (1, .int a0), (2, .int i562)] → (10 - i562.toInt).toNat < n → W p l e (Rm 1 21) s m ([.ref (G.2.2.2.1 22), .int a0] : List Value).toArray below meth c H lc 0 0 (MQ below (va_Qv (po_X10_carry τ  a0  ) (Bs G) G.2.2.2.2) ([.ref (G.2.2.2.1 22), .int a0] : List Value).toArray s 0 0 G.2.2.2.2) (F0 m 59 ls []) := by
    intro n
    induction n with
    | zero => intros; omega
    | succ n ih573 =>
      intro t564 H lc ls i562 X567 I565 F566 r563 z568 z569 z570 z571 hl hm
      refine r_iload_n S dX10_carry_59 rfl (lv_at hl 2 rfl) ?_
      refine r_aload_n S dX10_carry_60 rfl (lv_at hl 0 rfl) ?_
      refine r_get (K := 22) (v := .ref (G.2.2.2.1 23)) S X567 (Nat.le_of_ble_eq_true rfl) rfl lk10_12_8 (fun _ => ⟨_, rfl, rfl⟩) dX10_carry_61 ?_
      refine r_getn (K := 4) S X567 (Nat.le_of_ble_eq_true rfl) rfl lk10_49_2 (fun _ => ⟨_, rfl, rfl⟩) dX10_carry_64 (fun v574 z575 => ?_)
      have r576 : R (0) (10) v574 := rd I565 rfl z575
      refine r_icmp_ge (tgt := 108) S dX10_carry_67 (by decide) (fun c577 => ?_) (fun c577 => ?_)
      ·
        exact r_vret S hr hlk X567 ⟨I565, F566⟩ dX10_carry_108
      ·
        have r578 : R (0) (9) i562 := ⟨by omega, by omega⟩
        have r579 : R (1) (10) v574 := ⟨by omega, by omega⟩
        refine r_iload_n S dX10_carry_70 rfl (lv_at hl 1 rfl) ?_
        refine r_iload_n S dX10_carry_71 rfl (lv_at hl 2 rfl) ?_
        refine r_ki (q_N (As := [.int a0, .int i562]) (rest := []) S X567 (c_X11_bit l G t564 I565 a0 i562 (R_of (lo := -2147483648) (hi := 2147483647) h_a0 rfl) (R_of (lo := -2147483648) (hi := 2147483647) r578 rfl)) ck10_65 ⟨Nat.le_of_ble_eq_true rfl, Nat.le_of_ble_eq_true rfl⟩ rfl hl.1 rfl (Nat.le_of_ble_eq_true rfl) dX10_carry_72 ⟨Nat.le_refl 0, Nat.le_refl 0⟩) X567 (fun v583 t582 H lc q580 X581 => ?_)
        unfold po_X11_bit at q580
        obtain ⟨q584, q585⟩ := q580
        rw [q584] at X581
        refine r_iconst S dX10_carry_75 (by decide) (fun v586 z587 => ?_)
        have r588 := R_eq z587
        refine r_icmp_ne (tgt := 102) S dX10_carry_76 (by decide) (fun c589 => ?_) (fun c589 => ?_)
        ·
          have r590 : R (0) (0) v583 := ⟨by omega, by omega⟩
          refine r_iinc (k := 2) S dX10_carry_102 hl rfl (by decide) (by decide) (fun v591 d592 ls z593 z594 hl => ?_)
          obtain ⟨e595, r596⟩ := i_add (lo := 1) (hi := 10) z593 r578 (R_eq z594) rfl
          have hl : lv_has ls 3 [(2, .int v591), (0, .ref (G.2.2.2.1 22)), (1, .int a0)] := hl
          refine r_goto (tgt := 59) S dX10_carry_105 (by decide) ?_
          exact ih573 t564 _ _ _ v591 X581 I565 F566 (R_of r596 rfl) z568 z569 z570 z571 (lv_sub hl [1, 2, 0] rfl) (by omega)
        ·
          have r597 : R (1) (1) v583 := ⟨by omega, by omega⟩
          refine r_aload_n S dX10_carry_79 rfl (lv_at hl 0 rfl) ?_
          refine r_get (K := 22) (v := .ref (G.2.2.2.1 30)) S X581 (Nat.le_of_ble_eq_true rfl) rfl lk10_21_8 (fun _ => ⟨_, rfl, rfl⟩) dX10_carry_80 ?_
          refine r_get (K := 23) (v := .ref (G.2.2.2.1 34)) S X581 (Nat.le_of_ble_eq_true rfl) rfl lk10_141_3 (fun _ => ⟨_, rfl, rfl⟩) dX10_carry_83 ?_
          refine r_iload_n S dX10_carry_86 rfl (lv_at hl 2 rfl) ?_
          refine r_dup2 S dX10_carry_87 rfl rfl ?_
          refine r_aldn (n := 10) (K := 27) S X581 (Nat.le_of_ble_eq_true rfl) rfl (fun _ => rfl) (ix_of r578 rfl) dX10_carry_88 (fun v598 z599 => ?_)
          have r601 := R_any v598
          refine r_iconst S dX10_carry_89 (by decide) (fun v602 z603 => ?_)
          have r604 := R_eq z603
          refine r_iadd S dX10_carry_90 (fun v605 z606 => ?_)
          have r607 := R_any v605
          refine r_ast (n := 10) (K := 27) S X581 (Nat.le_of_ble_eq_true rfl) rfl (fun _ _ => rfl) (ix_of r578 rfl) dX10_carry_91 (fun t608 H lc M609 X610 => ?_)
          have I611 := Inv_mu I565 M609 (R_any v605)
          have F612 : Fr [(30, 4), (30, 5), (30, 6), (30, 10)] [33, 34] τ t608 := Fr_cell F566 M609 (by decide)
          refine r_aload_n S dX10_carry_92 rfl (lv_at hl 0 rfl) ?_
          refine r_get (K := 22) (v := .ref (G.2.2.2.1 30)) S X610 (Nat.le_of_ble_eq_true rfl) rfl lk10_21_8 (fun _ => ⟨_, rfl, rfl⟩) dX10_carry_93 ?_
          refine r_get (K := 23) (v := .ref (G.2.2.2.1 33)) S X610 (Nat.le_of_ble_eq_true rfl) rfl lk10_82_3 (fun _ => ⟨_, rfl, rfl⟩) dX10_carry_96 ?_
          refine r_iload_n S dX10_carry_99 rfl (lv_at hl 2 rfl) ?_
          refine r_iconst S dX10_carry_100 (by decide) (fun v613 z614 => ?_)
          have r615 := R_eq z614
          refine r_ast (n := 10) (K := 26) S X610 (Nat.le_of_ble_eq_true rfl) rfl (fun _ _ => rfl) (ix_of r578 rfl) dX10_carry_101 (fun t616 H lc M617 X618 => ?_)
          have I619 := Inv_mu I611 M617 (show Rg (kd 33) _ v613 from (R_of (lo := 0) (hi := 511) r615 rfl))
          have F620 : Fr [(30, 4), (30, 5), (30, 6), (30, 10)] [33, 34] τ t616 := Fr_cell F612 M617 (by decide)
          refine r_iinc (k := 2) S dX10_carry_102 hl rfl (by decide) (by decide) (fun v621 d622 ls z623 z624 hl => ?_)
          obtain ⟨e625, r626⟩ := i_add (lo := 1) (hi := 10) z623 r578 (R_eq z624) rfl
          have hl : lv_has ls 3 [(2, .int v621), (0, .ref (G.2.2.2.1 22)), (1, .int a0)] := hl
          refine r_goto (tgt := 59) S dX10_carry_105 (by decide) ?_
          exact ih573 t616 _ _ _ v621 X618 I619 F620 (R_of r626 rfl) ((M617.2 30 4 (Or.inl (by decide))).trans ((M609.2 30 4 (Or.inl (by decide))).trans z568)) ((M617.2 30 5 (Or.inl (by decide))).trans ((M609.2 30 5 (Or.inl (by decide))).trans z569)) ((M617.2 30 6 (Or.inl (by decide))).trans ((M609.2 30 6 (Or.inl (by decide))).trans z570)) ((M617.2 30 10 (Or.inl (by decide))).trans ((M609.2 30 10 (Or.inl (by decide))).trans z571)) (lv_sub hl [1, 2, 0] rfl) (by omega)
  exact L572 _ t57 _ _ _ v62 X59 I60 F61 (R_of r64 rfl) ((M58.2 30 4 (Or.inr (by decide))).trans ((M43.2 30 4 (Or.inr (by decide))).trans ((M24.2 30 4 (Or.inr (by decide))).trans M9.1))) ((M58.2 30 5 (Or.inr (by decide))).trans ((M43.2 30 5 (Or.inr (by decide))).trans M24.1)) ((M58.2 30 6 (Or.inr (by decide))).trans M43.1) M58.1 (lv_sub hl [1, 2, 0] rfl) (Nat.lt_succ_self _)
def po_X10_whyNot_0 (τ : Tau)  (a0 a1 a2 a3 : Int32)   (r : Int32) (u : Tau) : Prop := u = τ ∧ R (0) (4) r
set_option maxHeartbeats 4000000 in
set_option maxRecDepth 100000 in
theorem c_X10_whyNot_0 (l : Launch) (G : Gx) (τ : Tau) (hI : Inv τ) (a0 : Int32) (a1 : Int32) (a2 : Int32) (a3 : Int32) (h_a0 : R (0) (0) a0) (h_a1 : R (0) (1023) a1) (h_a2 : R (-1) (-1) a2) (h_a3 : R (0) (0) a3) (hWI : WI τ) : Ci l G yX10_whyNot cX10_whyNot 5 (some .int) 5 118 [.ref (G.2.2.2.1 22), .int a0, .int a1, .int a2, .int a3] τ (po_X10_whyNot_0 τ  a0 a1 a2 a3  ) := by
  unfold Ci
  refine C_of (own := RX10) (by decide) rfl (Nat.le_of_ble_eq_true rfl) ?_
  intro p e s m below meth c ls S hr hlk X hl
  have hl : lv_has ls 5 [(0, .ref (G.2.2.2.1 22)), (1, .int a0), (2, .int a1), (3, .int a2), (4, .int a3)] := hl
  refine r_iload_n S dX10_whyNot_0 rfl (lv_at hl 1 rfl) ?_
  rcases (show a0.toInt = 0 by omega) with c1
  ·
    refine lv_tableIn (tgt := 32) S.1.1 S.1.2.1 dX10_whyNot_1 (by omega) (by omega) (by rw [c1]; rfl) (by decide) ?_
    have r2 : R (0) (0) a0 := ⟨by omega, by omega⟩
    refine r_aload_n S dX10_whyNot_32 rfl (lv_at hl 0 rfl) ?_
    refine r_iload_n S dX10_whyNot_33 rfl (lv_at hl 2 rfl) ?_
    refine r_ki (q_V (As := [.int a1]) (rest := []) (K := 22) (ci := 8) S X (c_X10_whyStay l G τ hI a1 (R_of (lo := -2147483648) (hi := 2147483647) h_a1 rfl) hWI) ck10_128 (Nat.le_of_ble_eq_true rfl) rfl (fun _ => ⟨_, rfl⟩) ⟨_, _, rfl⟩ ⟨Nat.le_of_ble_eq_true rfl, Nat.le_of_ble_eq_true rfl⟩ rfl hl.1 rfl (Nat.le_of_ble_eq_true rfl) dX10_whyNot_34 ⟨Nat.le_refl 0, Nat.le_refl 0⟩) X (fun v6 t5 H lc q3 X4 => ?_)
    unfold po_X10_whyStay at q3
    obtain ⟨q7, q8⟩ := q3
    rw [q7] at X4
    exact r_ret S hr hlk X4 ⟨rfl, q8⟩ rfl dX10_whyNot_37
def po_X10_perform_0 (τ : Tau)  (a0 a1 a2 a3 : Int32)   (u : Tau) : Prop := Inv u ∧ Fr [(30, 4), (30, 5), (30, 6), (30, 10)] [33, 34] τ u
set_option maxHeartbeats 4000000 in
set_option maxRecDepth 100000 in
theorem c_X10_perform_0 (l : Launch) (G : Gx) (τ : Tau) (hI : Inv τ) (a0 : Int32) (a1 : Int32) (a2 : Int32) (a3 : Int32) (h_a0 : R (0) (0) a0) (h_a1 : R (0) (1023) a1) (h_a2 : R (-1) (-1) a2) (h_a3 : R (0) (0) a3) : Cv l G yX10_perform cX10_perform 5 2 43 [.ref (G.2.2.2.1 22), .int a0, .int a1, .int a2, .int a3] τ (po_X10_perform_0 τ  a0 a1 a2 a3  ) := by
  unfold Cv
  refine C_of (own := RX10) (by decide) rfl (Nat.le_of_ble_eq_true rfl) ?_
  intro p e s m below meth c ls S hr hlk X hl
  have hl : lv_has ls 5 [(0, .ref (G.2.2.2.1 22)), (1, .int a0), (2, .int a1), (3, .int a2), (4, .int a3)] := hl
  refine r_iload_n S dX10_perform_0 rfl (lv_at hl 1 rfl) ?_
  rcases (show a0.toInt = 0 by omega) with c1
  ·
    refine lv_tableIn (tgt := 32) S.1.1 S.1.2.1 dX10_perform_1 (by omega) (by omega) (by rw [c1]; rfl) (by decide) ?_
    have r2 : R (0) (0) a0 := ⟨by omega, by omega⟩
    refine r_aload_n S dX10_perform_32 rfl (lv_at hl 0 rfl) ?_
    refine r_iload_n S dX10_perform_33 rfl (lv_at hl 2 rfl) ?_
    refine r_kv (q_V (As := [.int a1]) (rest := []) (K := 22) (ci := 8) S X (c_X10_carry l G τ hI a1 h_a1) ck10_131 (Nat.le_of_ble_eq_true rfl) rfl (fun _ => ⟨_, rfl⟩) ⟨_, _, rfl⟩ ⟨Nat.le_of_ble_eq_true rfl, Nat.le_of_ble_eq_true rfl⟩ rfl hl.1 rfl (Nat.le_of_ble_eq_true rfl) dX10_perform_34 ⟨Nat.le_refl 0, Nat.le_refl 0⟩) X (fun t5 H lc q3 X4 => ?_)
    unfold po_X10_carry at q3
    obtain ⟨q6, q7⟩ := q3
    have F8 : Fr [(30, 4), (30, 5), (30, 6), (30, 10)] [33, 34] τ t5 := Fr_call Fr_rfl q7 (by decide)
    refine r_goto (tgt := 169) S dX10_perform_37 (by decide) ?_
    exact r_vret S hr hlk X4 ⟨q6, F8⟩ dX10_perform_169
def po_X10_whyNot_1 (τ : Tau)  (a0 a1 a2 a3 : Int32)   (r : Int32) (u : Tau) : Prop := u = τ ∧ R (0) (4) r
set_option maxHeartbeats 4000000 in
set_option maxRecDepth 100000 in
theorem c_X10_whyNot_1 (l : Launch) (G : Gx) (τ : Tau) (hI : Inv τ) (a0 : Int32) (a1 : Int32) (a2 : Int32) (a3 : Int32) (h_a0 : R (1) (1) a0) (h_a1 : R (-1) (-1) a1) (h_a2 : R (0) (8) a2) (h_a3 : R (0) (0) a3) (hWI : WI τ) : Ci l G yX10_whyNot cX10_whyNot 5 (some .int) 0 0 [.ref (G.2.2.2.1 22), .int a0, .int a1, .int a2, .int a3] τ (po_X10_whyNot_1 τ  a0 a1 a2 a3  ) := by
  unfold Ci
  refine C_of (own := RX10) (by decide) rfl (Nat.le_of_ble_eq_true rfl) ?_
  intro p e s m below meth c ls S hr hlk X hl
  have hl : lv_has ls 5 [(0, .ref (G.2.2.2.1 22)), (1, .int a0), (2, .int a1), (3, .int a2), (4, .int a3)] := hl
  refine r_iload_n S dX10_whyNot_0 rfl (lv_at hl 1 rfl) ?_
  rcases (show a0.toInt = 1 by omega) with c1
  ·
    refine lv_tableIn (tgt := 38) S.1.1 S.1.2.1 dX10_whyNot_1 (by omega) (by omega) (by rw [c1]; rfl) (by decide) ?_
    have r2 : R (1) (1) a0 := ⟨by omega, by omega⟩
    refine r_aload_n S dX10_whyNot_38 rfl (lv_at hl 0 rfl) ?_
    refine r_get (K := 22) (v := .ref (G.2.2.2.1 30)) S X (Nat.le_of_ble_eq_true rfl) rfl lk10_21_8 (fun _ => ⟨_, rfl, rfl⟩) dX10_whyNot_39 ?_
    refine r_getn (K := 23) S X (Nat.le_of_ble_eq_true rfl) rfl lk10_115_3 (fun _ => ⟨_, rfl, rfl⟩) dX10_whyNot_42 (fun v3 z4 => ?_)
    have r5 : R (-1) (8) v3 := rd hI rfl z4
    refine r_iload_n S dX10_whyNot_45 rfl (lv_at hl 3 rfl) ?_
    refine r_icmp_ne (tgt := 53) S dX10_whyNot_46 (by decide) (fun c6 => ?_) (fun c6 => ?_)
    ·
      refine r_iconst S dX10_whyNot_53 (by decide) (fun v7 z8 => ?_)
      have r9 := R_eq z8
      exact r_ret S hr hlk X ⟨rfl, (R_of r9 rfl)⟩ rfl dX10_whyNot_54
    ·
      have r10 : R (0) (8) v3 := ⟨by omega, by omega⟩
      refine r_iconst S dX10_whyNot_49 (by decide) (fun v11 z12 => ?_)
      have r13 := R_eq z12
      refine r_goto (tgt := 54) S dX10_whyNot_50 (by decide) ?_
      exact r_ret S hr hlk X ⟨rfl, (R_of r13 rfl)⟩ rfl dX10_whyNot_54
def po_X10_perform_1 (τ : Tau)  (a0 a1 a2 a3 : Int32)   (u : Tau) : Prop := Inv u ∧ Fr [(30, 8)] [] τ u ∧ WI u
set_option maxHeartbeats 4000000 in
set_option maxRecDepth 100000 in
theorem c_X10_perform_1 (l : Launch) (G : Gx) (τ : Tau) (hI : Inv τ) (a0 : Int32) (a1 : Int32) (a2 : Int32) (a3 : Int32) (h_a0 : R (1) (1) a0) (h_a1 : R (-1) (-1) a1) (h_a2 : R (0) (8) a2) (h_a3 : R (0) (0) a3) : Cv l G yX10_perform cX10_perform 5 0 0 [.ref (G.2.2.2.1 22), .int a0, .int a1, .int a2, .int a3] τ (po_X10_perform_1 τ  a0 a1 a2 a3  ) := by
  unfold Cv
  refine C_of (own := RX10) (by decide) rfl (Nat.le_of_ble_eq_true rfl) ?_
  intro p e s m below meth c ls S hr hlk X hl
  have hl : lv_has ls 5 [(0, .ref (G.2.2.2.1 22)), (1, .int a0), (2, .int a1), (3, .int a2), (4, .int a3)] := hl
  refine r_iload_n S dX10_perform_0 rfl (lv_at hl 1 rfl) ?_
  rcases (show a0.toInt = 1 by omega) with c1
  ·
    refine lv_tableIn (tgt := 40) S.1.1 S.1.2.1 dX10_perform_1 (by omega) (by omega) (by rw [c1]; rfl) (by decide) ?_
    have r2 : R (1) (1) a0 := ⟨by omega, by omega⟩
    refine r_aload_n S dX10_perform_40 rfl (lv_at hl 0 rfl) ?_
    refine r_get (K := 22) (v := .ref (G.2.2.2.1 30)) S X (Nat.le_of_ble_eq_true rfl) rfl lk10_21_8 (fun _ => ⟨_, rfl, rfl⟩) dX10_perform_41 ?_
    refine r_iload_n S dX10_perform_44 rfl (lv_at hl 3 rfl) ?_
    refine r_put (K := 23) (ty := .int) S X (Nat.le_of_ble_eq_true rfl) rfl lk10_115_3 (fun _ => ⟨_, rfl, Nat.le_of_ble_eq_true rfl, rfl⟩) (fun _ _ _ h => by cases h; exact ⟨rfl, rfl⟩) rfl rfl dX10_perform_45 (fun t3 H lc M4 X5 => ?_)
    have I6 := Inv_mu hI M4 (show Rg (kd 30) 8 a2 from (R_of (lo := -1) (hi := 8) h_a2 rfl))
    have F7 : Fr [(30, 8)] [] τ t3 := Fr_mu Fr_rfl M4 (by decide)
    refine r_goto (tgt := 169) S dX10_perform_48 (by decide) ?_
    exact r_vret S hr hlk X5 ⟨I6, F7, (WI_mk ((M4.2 23 2 (Or.inl (by decide))).trans rfl) M4.1 (by omega))⟩ dX10_perform_169
def po_X10_whyNot_2 (τ : Tau)  (a0 a1 a2 a3 : Int32)   (r : Int32) (u : Tau) : Prop := u = τ ∧ R (0) (4) r
set_option maxHeartbeats 4000000 in
set_option maxRecDepth 100000 in
theorem c_X10_whyNot_2 (l : Launch) (G : Gx) (τ : Tau) (hI : Inv τ) (a0 : Int32) (a1 : Int32) (a2 : Int32) (a3 : Int32) (h_a0 : R (2) (2) a0) (h_a1 : R (0) (9) a1) (h_a2 : R (-1) (-1) a2) (h_a3 : R (0) (0) a3) (hWI : WI τ) : Ci l G yX10_whyNot cX10_whyNot 5 (some .int) 1 21 [.ref (G.2.2.2.1 22), .int a0, .int a1, .int a2, .int a3] τ (po_X10_whyNot_2 τ  a0 a1 a2 a3  ) := by
  unfold Ci
  refine C_of (own := RX10) (by decide) rfl (Nat.le_of_ble_eq_true rfl) ?_
  intro p e s m below meth c ls S hr hlk X hl
  have hl : lv_has ls 5 [(0, .ref (G.2.2.2.1 22)), (1, .int a0), (2, .int a1), (3, .int a2), (4, .int a3)] := hl
  refine r_iload_n S dX10_whyNot_0 rfl (lv_at hl 1 rfl) ?_
  rcases (show a0.toInt = 2 by omega) with c1
  ·
    refine lv_tableIn (tgt := 55) S.1.1 S.1.2.1 dX10_whyNot_1 (by omega) (by omega) (by rw [c1]; rfl) (by decide) ?_
    have r2 : R (2) (2) a0 := ⟨by omega, by omega⟩
    refine r_aload_n S dX10_whyNot_55 rfl (lv_at hl 0 rfl) ?_
    refine r_get (K := 22) (v := .ref (G.2.2.2.1 30)) S X (Nat.le_of_ble_eq_true rfl) rfl lk10_21_8 (fun _ => ⟨_, rfl, rfl⟩) dX10_whyNot_56 ?_
    refine r_getn (K := 23) S X (Nat.le_of_ble_eq_true rfl) rfl lk10_91_3 (fun _ => ⟨_, rfl, rfl⟩) dX10_whyNot_59 (fun v3 z4 => ?_)
    have r5 : R (0) (1023) v3 := rd hI rfl z4
    refine r_iload_n S dX10_whyNot_62 rfl (lv_at hl 2 rfl) ?_
    refine r_ki (q_N (As := [.int v3, .int a1]) (rest := []) S X (c_X11_bit l G τ hI v3 a1 (R_of (lo := -2147483648) (hi := 2147483647) r5 rfl) (R_of (lo := -2147483648) (hi := 2147483647) h_a1 rfl)) ck10_65 ⟨Nat.le_of_ble_eq_true rfl, Nat.le_of_ble_eq_true rfl⟩ rfl hl.1 rfl (Nat.le_of_ble_eq_true rfl) dX10_whyNot_63 ⟨Nat.le_refl 0, Nat.le_refl 0⟩) X (fun v9 t8 H lc q6 X7 => ?_)
    unfold po_X11_bit at q6
    obtain ⟨q10, q11⟩ := q6
    rw [q10] at X7
    exact r_ret S hr hlk X7 ⟨rfl, (R_of q11 rfl)⟩ rfl dX10_whyNot_66
def po_X10_perform_2 (τ : Tau)  (a0 a1 a2 a3 : Int32)   (u : Tau) : Prop := Inv u ∧ Fr [(30, 6), (30, 9)] [] τ u
set_option maxHeartbeats 4000000 in
set_option maxRecDepth 100000 in
theorem c_X10_perform_2 (l : Launch) (G : Gx) (τ : Tau) (hI : Inv τ) (a0 : Int32) (a1 : Int32) (a2 : Int32) (a3 : Int32) (h_a0 : R (2) (2) a0) (h_a1 : R (0) (9) a1) (h_a2 : R (-1) (-1) a2) (h_a3 : R (0) (0) a3) : Cv l G yX10_perform cX10_perform 5 0 0 [.ref (G.2.2.2.1 22), .int a0, .int a1, .int a2, .int a3] τ (po_X10_perform_2 τ  a0 a1 a2 a3  ) := by
  unfold Cv
  refine C_of (own := RX10) (by decide) rfl (Nat.le_of_ble_eq_true rfl) ?_
  intro p e s m below meth c ls S hr hlk X hl
  have hl : lv_has ls 5 [(0, .ref (G.2.2.2.1 22)), (1, .int a0), (2, .int a1), (3, .int a2), (4, .int a3)] := hl
  refine r_iload_n S dX10_perform_0 rfl (lv_at hl 1 rfl) ?_
  rcases (show a0.toInt = 2 by omega) with c1
  ·
    refine lv_tableIn (tgt := 51) S.1.1 S.1.2.1 dX10_perform_1 (by omega) (by omega) (by rw [c1]; rfl) (by decide) ?_
    have r2 : R (2) (2) a0 := ⟨by omega, by omega⟩
    refine r_aload_n S dX10_perform_51 rfl (lv_at hl 0 rfl) ?_
    refine r_get (K := 22) (v := .ref (G.2.2.2.1 30)) S X (Nat.le_of_ble_eq_true rfl) rfl lk10_21_8 (fun _ => ⟨_, rfl, rfl⟩) dX10_perform_52 ?_
    refine r_dup S dX10_perform_55 rfl ?_
    refine r_getn (K := 23) S X (Nat.le_of_ble_eq_true rfl) rfl lk10_91_3 (fun _ => ⟨_, rfl, rfl⟩) dX10_perform_56 (fun v3 z4 => ?_)
    have r5 : R (0) (1023) v3 := rd hI rfl z4
    refine r_iconst S dX10_perform_59 (by decide) (fun v6 z7 => ?_)
    have r8 := R_eq z7
    refine r_iload_n S dX10_perform_60 rfl (lv_at hl 2 rfl) ?_
    refine r_ishl S dX10_perform_61 (fun v9 z10 => ?_)
    have r12 : R (1) (512) v9 := i_shl z10 r8 h_a1 rfl
    refine r_ior S dX10_perform_62 (fun v13 z14 => ?_)
    have r16 : R (0) (1023) v13 := i_or 10 z14 r5 r12 rfl
    refine r_put (K := 23) (ty := .int) S X (Nat.le_of_ble_eq_true rfl) rfl lk10_91_3 (fun _ => ⟨_, rfl, Nat.le_of_ble_eq_true rfl, rfl⟩) (fun _ _ _ h => by cases h; exact ⟨rfl, rfl⟩) rfl rfl dX10_perform_63 (fun t17 H lc M18 X19 => ?_)
    have I20 := Inv_mu hI M18 (show Rg (kd 30) 6 v13 from (R_of (lo := 0) (hi := 1023) r16 rfl))
    have F21 : Fr [(30, 6), (30, 9)] [] τ t17 := Fr_mu Fr_rfl M18 (by decide)
    refine r_aload_n S dX10_perform_66 rfl (lv_at hl 0 rfl) ?_
    refine r_get (K := 22) (v := .ref (G.2.2.2.1 30)) S X19 (Nat.le_of_ble_eq_true rfl) rfl lk10_21_8 (fun _ => ⟨_, rfl, rfl⟩) dX10_perform_67 ?_
    refine r_dup S dX10_perform_70 rfl ?_
    refine r_getn (K := 23) S X19 (Nat.le_of_ble_eq_true rfl) rfl lk10_135_3 (fun _ => ⟨_, rfl, rfl⟩) dX10_perform_71 (fun v22 z23 => ?_)
    have r25 := R_any v22
    refine r_aload_n S dX10_perform_74 rfl (lv_at hl 0 rfl) ?_
    refine r_get (K := 22) (v := .ref (G.2.2.2.1 23)) S X19 (Nat.le_of_ble_eq_true rfl) rfl lk10_12_8 (fun _ => ⟨_, rfl, rfl⟩) dX10_perform_75 ?_
    refine r_get (K := 4) (v := .ref (G.2.2.2.1 24)) S X19 (Nat.le_of_ble_eq_true rfl) rfl lk10_138_2 (fun _ => ⟨_, rfl, rfl⟩) dX10_perform_78 ?_
    refine r_iload_n S dX10_perform_81 rfl (lv_at hl 2 rfl) ?_
    refine r_aldn (n := 10) (K := 5) S X19 (Nat.le_of_ble_eq_true rfl) rfl (fun _ => rfl) (ix_of h_a1 rfl) dX10_perform_82 (fun v26 z27 => ?_)
    have r28 : R (0) (20) v26 := rd I20 rfl z27
    refine r_iadd S dX10_perform_83 (fun v29 z30 => ?_)
    have r31 := R_any v29
    refine r_put (K := 23) (ty := .int) S X19 (Nat.le_of_ble_eq_true rfl) rfl lk10_135_3 (fun _ => ⟨_, rfl, Nat.le_of_ble_eq_true rfl, rfl⟩) (fun _ _ _ h => by cases h; exact ⟨rfl, rfl⟩) rfl rfl dX10_perform_84 (fun t32 H lc M33 X34 => ?_)
    have I35 := Inv_mu I20 M33 (R_any v29)
    have F36 : Fr [(30, 6), (30, 9)] [] τ t32 := Fr_mu F21 M33 (by decide)
    refine r_goto (tgt := 169) S dX10_perform_87 (by decide) ?_
    exact r_vret S hr hlk X34 ⟨I35, F36⟩ dX10_perform_169
def po_X10_whyNot_3 (τ : Tau)  (a0 a1 a2 a3 : Int32)   (r : Int32) (u : Tau) : Prop := u = τ ∧ R (0) (4) r
set_option maxHeartbeats 4000000 in
set_option maxRecDepth 100000 in
theorem c_X10_whyNot_3 (l : Launch) (G : Gx) (τ : Tau) (hI : Inv τ) (a0 : Int32) (a1 : Int32) (a2 : Int32) (a3 : Int32) (h_a0 : R (3) (3) a0) (h_a1 : R (0) (9) a1) (h_a2 : R (0) (8) a2) (h_a3 : R (-9) (9) a3) (hWI : WI τ) : Ci l G yX10_whyNot cX10_whyNot 5 (some .int) 2 47 [.ref (G.2.2.2.1 22), .int a0, .int a1, .int a2, .int a3] τ (po_X10_whyNot_3 τ  a0 a1 a2 a3  ) := by
  unfold Ci
  refine C_of (own := RX10) (by decide) rfl (Nat.le_of_ble_eq_true rfl) ?_
  intro p e s m below meth c ls S hr hlk X hl
  have hl : lv_has ls 5 [(0, .ref (G.2.2.2.1 22)), (1, .int a0), (2, .int a1), (3, .int a2), (4, .int a3)] := hl
  refine r_iload_n S dX10_whyNot_0 rfl (lv_at hl 1 rfl) ?_
  rcases (show a0.toInt = 3 by omega) with c1
  ·
    refine lv_tableIn (tgt := 67) S.1.1 S.1.2.1 dX10_whyNot_1 (by omega) (by omega) (by rw [c1]; rfl) (by decide) ?_
    have r2 : R (3) (3) a0 := ⟨by omega, by omega⟩
    refine r_aload_n S dX10_whyNot_67 rfl (lv_at hl 0 rfl) ?_
    refine r_get (K := 22) (v := .ref (G.2.2.2.1 30)) S X (Nat.le_of_ble_eq_true rfl) rfl lk10_21_8 (fun _ => ⟨_, rfl, rfl⟩) dX10_whyNot_68 ?_
    refine r_getn (K := 23) S X (Nat.le_of_ble_eq_true rfl) rfl lk10_62_3 (fun _ => ⟨_, rfl, rfl⟩) dX10_whyNot_71 (fun v3 z4 => ?_)
    have r5 : R (0) (1023) v3 := rd hI rfl z4
    refine r_iload_n S dX10_whyNot_74 rfl (lv_at hl 2 rfl) ?_
    refine r_ki (q_N (As := [.int v3, .int a1]) (rest := []) S X (c_X11_bit l G τ hI v3 a1 (R_of (lo := -2147483648) (hi := 2147483647) r5 rfl) (R_of (lo := -2147483648) (hi := 2147483647) h_a1 rfl)) ck10_65 ⟨Nat.le_of_ble_eq_true rfl, Nat.le_of_ble_eq_true rfl⟩ rfl hl.1 rfl (Nat.le_of_ble_eq_true rfl) dX10_whyNot_75 ⟨Nat.le_refl 0, Nat.le_refl 0⟩) X (fun v9 t8 H lc q6 X7 => ?_)
    unfold po_X11_bit at q6
    obtain ⟨q10, q11⟩ := q6
    rw [q10] at X7
    refine r_iconst S dX10_whyNot_78 (by decide) (fun v12 z13 => ?_)
    have r14 := R_eq z13
    refine r_icmp_ne (tgt := 84) S dX10_whyNot_79 (by decide) (fun c15 => ?_) (fun c15 => ?_)
    ·
      have r16 : R (0) (0) v9 := ⟨by omega, by omega⟩
      refine r_aload_n S dX10_whyNot_84 rfl (lv_at hl 0 rfl) ?_
      refine r_iload_n S dX10_whyNot_85 rfl (lv_at hl 2 rfl) ?_
      refine r_iload_n S dX10_whyNot_86 rfl (lv_at hl 3 rfl) ?_
      refine r_ki (q_V (As := [.int a1, .int a2]) (rest := []) (K := 22) (ci := 8) S X7 (c_X10_spoken l G τ hI a1 a2 h_a1 h_a2) ck10_94 (Nat.le_of_ble_eq_true rfl) rfl (fun _ => ⟨_, rfl⟩) ⟨_, _, rfl⟩ ⟨Nat.le_of_ble_eq_true rfl, Nat.le_of_ble_eq_true rfl⟩ rfl hl.1 rfl (Nat.le_of_ble_eq_true rfl) dX10_whyNot_87 ⟨Nat.le_refl 0, Nat.le_refl 0⟩) X7 (fun v20 t19 H lc q17 X18 => ?_)
      unfold po_X10_spoken at q17
      obtain ⟨q21, q22⟩ := q17
      rw [q21] at X18
      refine r_iload S dX10_whyNot_90 (lv_at hl 4 rfl) ?_
      refine r_icmp_ne (tgt := 99) S dX10_whyNot_92 (by decide) (fun c23 => ?_) (fun c23 => ?_)
      ·
        refine r_iconst S dX10_whyNot_99 (by decide) (fun v24 z25 => ?_)
        have r26 := R_eq z25
        exact r_ret S hr hlk X18 ⟨rfl, (R_of r26 rfl)⟩ rfl dX10_whyNot_100
      ·
        refine r_iconst S dX10_whyNot_95 (by decide) (fun v27 z28 => ?_)
        have r29 := R_eq z28
        refine r_goto (tgt := 100) S dX10_whyNot_96 (by decide) ?_
        exact r_ret S hr hlk X18 ⟨rfl, (R_of r29 rfl)⟩ rfl dX10_whyNot_100
    ·
      have r30 : R (1) (1) v9 := ⟨by omega, by omega⟩
      refine r_iconst S dX10_whyNot_82 (by decide) (fun v31 z32 => ?_)
      have r33 := R_eq z32
      exact r_ret S hr hlk X7 ⟨rfl, (R_of r33 rfl)⟩ rfl dX10_whyNot_83
def po_X10_perform_3 (τ : Tau)  (a0 a1 a2 a3 : Int32)   (u : Tau) : Prop := Inv u ∧ Fr [] [32, 33] τ u
set_option maxHeartbeats 4000000 in
set_option maxRecDepth 100000 in
theorem c_X10_perform_3 (l : Launch) (G : Gx) (τ : Tau) (hI : Inv τ) (a0 : Int32) (a1 : Int32) (a2 : Int32) (a3 : Int32) (h_a0 : R (3) (3) a0) (h_a1 : R (0) (9) a1) (h_a2 : R (0) (8) a2) (h_a3 : R (-9) (9) a3) : Cv l G yX10_perform cX10_perform 5 0 0 [.ref (G.2.2.2.1 22), .int a0, .int a1, .int a2, .int a3] τ (po_X10_perform_3 τ  a0 a1 a2 a3  ) := by
  unfold Cv
  refine C_of (own := RX10) (by decide) rfl (Nat.le_of_ble_eq_true rfl) ?_
  intro p e s m below meth c ls S hr hlk X hl
  have hl : lv_has ls 5 [(0, .ref (G.2.2.2.1 22)), (1, .int a0), (2, .int a1), (3, .int a2), (4, .int a3)] := hl
  refine r_iload_n S dX10_perform_0 rfl (lv_at hl 1 rfl) ?_
  rcases (show a0.toInt = 3 by omega) with c1
  ·
    refine lv_tableIn (tgt := 90) S.1.1 S.1.2.1 dX10_perform_1 (by omega) (by omega) (by rw [c1]; rfl) (by decide) ?_
    have r2 : R (3) (3) a0 := ⟨by omega, by omega⟩
    refine r_aload_n S dX10_perform_90 rfl (lv_at hl 0 rfl) ?_
    refine r_get (K := 22) (v := .ref (G.2.2.2.1 30)) S X (Nat.le_of_ble_eq_true rfl) rfl lk10_21_8 (fun _ => ⟨_, rfl, rfl⟩) dX10_perform_91 ?_
    refine r_get (K := 23) (v := .ref (G.2.2.2.1 33)) S X (Nat.le_of_ble_eq_true rfl) rfl lk10_82_3 (fun _ => ⟨_, rfl, rfl⟩) dX10_perform_94 ?_
    refine r_iload_n S dX10_perform_97 rfl (lv_at hl 2 rfl) ?_
    refine r_dup2 S dX10_perform_98 rfl rfl ?_
    refine r_aldn (n := 10) (K := 26) S X (Nat.le_of_ble_eq_true rfl) rfl (fun _ => rfl) (ix_of h_a1 rfl) dX10_perform_99 (fun v3 z4 => ?_)
    have r5 : R (0) (511) v3 := rd hI rfl z4
    refine r_iconst S dX10_perform_100 (by decide) (fun v6 z7 => ?_)
    have r8 := R_eq z7
    refine r_iload_n S dX10_perform_101 rfl (lv_at hl 3 rfl) ?_
    refine r_ishl S dX10_perform_102 (fun v9 z10 => ?_)
    have r12 : R (1) (256) v9 := i_shl z10 r8 h_a2 rfl
    refine r_ior S dX10_perform_103 (fun v13 z14 => ?_)
    have r16 : R (0) (511) v13 := i_or 9 z14 r5 r12 rfl
    refine r_ast (n := 10) (K := 26) S X (Nat.le_of_ble_eq_true rfl) rfl (fun _ _ => rfl) (ix_of h_a1 rfl) dX10_perform_104 (fun t17 H lc M18 X19 => ?_)
    have I20 := Inv_mu hI M18 (show Rg (kd 33) _ v13 from (R_of (lo := 0) (hi := 511) r16 rfl))
    have F21 : Fr [] [32, 33] τ t17 := Fr_cell Fr_rfl M18 (by decide)
    refine r_aload_n S dX10_perform_105 rfl (lv_at hl 0 rfl) ?_
    refine r_get (K := 22) (v := .ref (G.2.2.2.1 30)) S X19 (Nat.le_of_ble_eq_true rfl) rfl lk10_21_8 (fun _ => ⟨_, rfl, rfl⟩) dX10_perform_106 ?_
    refine r_get (K := 23) (v := .ref (G.2.2.2.1 32)) S X19 (Nat.le_of_ble_eq_true rfl) rfl lk10_85_3 (fun _ => ⟨_, rfl, rfl⟩) dX10_perform_109 ?_
    refine r_iload_n S dX10_perform_112 rfl (lv_at hl 2 rfl) ?_
    refine r_bipush S dX10_perform_113 (by decide) (fun v22 z23 => ?_)
    have r24 := R_eq z23
    refine r_imul S dX10_perform_115 (fun v25 z26 => ?_)
    obtain ⟨e27, r28⟩ := i_mul (lo := 0) (hi := 81) z26 h_a1 r24 rfl rfl
    have e29 : v25.toInt = a1.toInt * 9 := by rw [e27, show v22.toInt = 9 by omega]
    refine r_iload_n S dX10_perform_116 rfl (lv_at hl 3 rfl) ?_
    refine r_iadd S dX10_perform_117 (fun v30 z31 => ?_)
    obtain ⟨e32, r33⟩ := i_add (lo := 0) (hi := 89) z31 r28 h_a2 rfl
    refine r_iload S dX10_perform_118 (lv_at hl 4 rfl) ?_
    refine r_ast (n := 90) (K := 25) S X19 (Nat.le_of_ble_eq_true rfl) rfl (fun _ _ => rfl) (ix_of r33 rfl) dX10_perform_120 (fun t34 H lc M35 X36 => ?_)
    have I37 := Inv_mu I20 M35 (show Rg (kd 32) _ a3 from (R_of (lo := -9) (hi := 9) h_a3 rfl))
    have F38 : Fr [] [32, 33] τ t34 := Fr_cell F21 M35 (by decide)
    refine r_goto (tgt := 169) S dX10_perform_121 (by decide) ?_
    exact r_vret S hr hlk X36 ⟨I37, F38⟩ dX10_perform_169
def po_X10_whyNot_4 (τ : Tau)  (a0 a1 a2 a3 : Int32)   (r : Int32) (u : Tau) : Prop := u = τ ∧ R (0) (4) r
set_option maxHeartbeats 4000000 in
set_option maxRecDepth 100000 in
theorem c_X10_whyNot_4 (l : Launch) (G : Gx) (τ : Tau) (hI : Inv τ) (a0 : Int32) (a1 : Int32) (a2 : Int32) (a3 : Int32) (h_a0 : R (4) (4) a0) (h_a1 : R (0) (9) a1) (h_a2 : R (0) (8) a2) (h_a3 : R (-9) (9) a3) (hWI : WI τ) : Ci l G yX10_whyNot cX10_whyNot 5 (some .int) 0 0 [.ref (G.2.2.2.1 22), .int a0, .int a1, .int a2, .int a3] τ (po_X10_whyNot_4 τ  a0 a1 a2 a3  ) := by
  unfold Ci
  refine C_of (own := RX10) (by decide) rfl (Nat.le_of_ble_eq_true rfl) ?_
  intro p e s m below meth c ls S hr hlk X hl
  have hl : lv_has ls 5 [(0, .ref (G.2.2.2.1 22)), (1, .int a0), (2, .int a1), (3, .int a2), (4, .int a3)] := hl
  refine r_iload_n S dX10_whyNot_0 rfl (lv_at hl 1 rfl) ?_
  rcases (show (a0.toInt < 0 ∨ 3 < a0.toInt) by omega) with c1
  ·
    refine lv_tableOut (tgt := 101) S.1.1 S.1.2.1 dX10_whyNot_1 c1 (by decide) ?_
    refine r_aload_n S dX10_whyNot_101 rfl (lv_at hl 0 rfl) ?_
    refine r_get (K := 22) (v := .ref (G.2.2.2.1 30)) S X (Nat.le_of_ble_eq_true rfl) rfl lk10_21_8 (fun _ => ⟨_, rfl, rfl⟩) dX10_whyNot_102 ?_
    refine r_get (K := 23) (v := .ref (G.2.2.2.1 31)) S X (Nat.le_of_ble_eq_true rfl) rfl lk10_88_3 (fun _ => ⟨_, rfl, rfl⟩) dX10_whyNot_105 ?_
    refine r_iload_n S dX10_whyNot_108 rfl (lv_at hl 2 rfl) ?_
    refine r_bipush S dX10_whyNot_109 (by decide) (fun v2 z3 => ?_)
    have r4 := R_eq z3
    refine r_imul S dX10_whyNot_111 (fun v5 z6 => ?_)
    obtain ⟨e7, r8⟩ := i_mul (lo := 0) (hi := 81) z6 h_a1 r4 rfl rfl
    have e9 : v5.toInt = a1.toInt * 9 := by rw [e7, show v2.toInt = 9 by omega]
    refine r_iload_n S dX10_whyNot_112 rfl (lv_at hl 3 rfl) ?_
    refine r_iadd S dX10_whyNot_113 (fun v10 z11 => ?_)
    obtain ⟨e12, r13⟩ := i_add (lo := 0) (hi := 89) z11 r8 h_a2 rfl
    refine r_aldn (n := 90) (K := 24) S X (Nat.le_of_ble_eq_true rfl) rfl (fun _ => rfl) (ix_of r13 rfl) dX10_whyNot_114 (fun v14 z15 => ?_)
    have r16 : R (-9) (9) v14 := rd hI rfl z15
    refine r_iload S dX10_whyNot_115 (lv_at hl 4 rfl) ?_
    refine r_icmp_ne (tgt := 124) S dX10_whyNot_117 (by decide) (fun c17 => ?_) (fun c17 => ?_)
    ·
      refine r_iconst S dX10_whyNot_124 (by decide) (fun v18 z19 => ?_)
      have r20 := R_eq z19
      exact r_ret S hr hlk X ⟨rfl, (R_of r20 rfl)⟩ rfl dX10_whyNot_125
    ·
      refine r_iconst S dX10_whyNot_120 (by decide) (fun v21 z22 => ?_)
      have r23 := R_eq z22
      refine r_goto (tgt := 125) S dX10_whyNot_121 (by decide) ?_
      exact r_ret S hr hlk X ⟨rfl, (R_of r23 rfl)⟩ rfl dX10_whyNot_125
def po_X10_perform_4 (τ : Tau)  (a0 a1 a2 a3 : Int32)   (u : Tau) : Prop := Inv u ∧ Fr [(30, 7)] [31] τ u
set_option maxHeartbeats 4000000 in
set_option maxRecDepth 100000 in
theorem c_X10_perform_4 (l : Launch) (G : Gx) (τ : Tau) (hI : Inv τ) (a0 : Int32) (a1 : Int32) (a2 : Int32) (a3 : Int32) (h_a0 : R (4) (4) a0) (h_a1 : R (0) (9) a1) (h_a2 : R (0) (8) a2) (h_a3 : R (-9) (9) a3) : Cv l G yX10_perform cX10_perform 5 2 42 [.ref (G.2.2.2.1 22), .int a0, .int a1, .int a2, .int a3] τ (po_X10_perform_4 τ  a0 a1 a2 a3  ) := by
  unfold Cv
  refine C_of (own := RX10) (by decide) rfl (Nat.le_of_ble_eq_true rfl) ?_
  intro p e s m below meth c ls S hr hlk X hl
  have hl : lv_has ls 5 [(0, .ref (G.2.2.2.1 22)), (1, .int a0), (2, .int a1), (3, .int a2), (4, .int a3)] := hl
  refine r_iload_n S dX10_perform_0 rfl (lv_at hl 1 rfl) ?_
  rcases (show (a0.toInt < 0 ∨ 3 < a0.toInt) by omega) with c1
  ·
    refine lv_tableOut (tgt := 124) S.1.1 S.1.2.1 dX10_perform_1 c1 (by decide) ?_
    refine r_aload_n S dX10_perform_124 rfl (lv_at hl 0 rfl) ?_
    refine r_get (K := 22) (v := .ref (G.2.2.2.1 30)) S X (Nat.le_of_ble_eq_true rfl) rfl lk10_21_8 (fun _ => ⟨_, rfl, rfl⟩) dX10_perform_125 ?_
    refine r_get (K := 23) (v := .ref (G.2.2.2.1 31)) S X (Nat.le_of_ble_eq_true rfl) rfl lk10_88_3 (fun _ => ⟨_, rfl, rfl⟩) dX10_perform_128 ?_
    refine r_iload_n S dX10_perform_131 rfl (lv_at hl 2 rfl) ?_
    refine r_bipush S dX10_perform_132 (by decide) (fun v2 z3 => ?_)
    have r4 := R_eq z3
    refine r_imul S dX10_perform_134 (fun v5 z6 => ?_)
    obtain ⟨e7, r8⟩ := i_mul (lo := 0) (hi := 81) z6 h_a1 r4 rfl rfl
    have e9 : v5.toInt = a1.toInt * 9 := by rw [e7, show v2.toInt = 9 by omega]
    refine r_iload_n S dX10_perform_135 rfl (lv_at hl 3 rfl) ?_
    refine r_iadd S dX10_perform_136 (fun v10 z11 => ?_)
    obtain ⟨e12, r13⟩ := i_add (lo := 0) (hi := 89) z11 r8 h_a2 rfl
    refine r_iload S dX10_perform_137 (lv_at hl 4 rfl) ?_
    refine r_ast (n := 90) (K := 24) S X (Nat.le_of_ble_eq_true rfl) rfl (fun _ _ => rfl) (ix_of r13 rfl) dX10_perform_139 (fun t14 H lc M15 X16 => ?_)
    have I17 := Inv_mu hI M15 (show Rg (kd 31) _ a3 from (R_of (lo := -9) (hi := 9) h_a3 rfl))
    have F18 : Fr [(30, 7)] [31] τ t14 := Fr_cell Fr_rfl M15 (by decide)
    refine r_aload_n S dX10_perform_140 rfl (lv_at hl 0 rfl) ?_
    refine r_get (K := 22) (v := .ref (G.2.2.2.1 30)) S X16 (Nat.le_of_ble_eq_true rfl) rfl lk10_21_8 (fun _ => ⟨_, rfl, rfl⟩) dX10_perform_141 ?_
    refine r_get (K := 23) (v := .ref (G.2.2.2.1 34)) S X16 (Nat.le_of_ble_eq_true rfl) rfl lk10_141_3 (fun _ => ⟨_, rfl, rfl⟩) dX10_perform_144 ?_
    refine r_iload_n S dX10_perform_147 rfl (lv_at hl 2 rfl) ?_
    refine r_aldn (n := 10) (K := 27) S X16 (Nat.le_of_ble_eq_true rfl) rfl (fun _ => rfl) (ix_of h_a1 rfl) dX10_perform_148 (fun v19 z20 => ?_)
    have r22 := R_any v19
    refine r_if_le (tgt := 169) S dX10_perform_149 (by decide) (fun c23 => ?_) (fun c23 => ?_)
    ·
      have r24 : R (-2147483648) (0) v19 := ⟨by omega, by omega⟩
      exact r_vret S hr hlk X16 ⟨I17, F18⟩ dX10_perform_169
    ·
      have r25 : R (1) (2147483647) v19 := ⟨by omega, by omega⟩
      refine r_aload_n S dX10_perform_152 rfl (lv_at hl 0 rfl) ?_
      refine r_get (K := 22) (v := .ref (G.2.2.2.1 30)) S X16 (Nat.le_of_ble_eq_true rfl) rfl lk10_21_8 (fun _ => ⟨_, rfl, rfl⟩) dX10_perform_153 ?_
      refine r_dup S dX10_perform_156 rfl ?_
      refine r_getn (K := 23) S X16 (Nat.le_of_ble_eq_true rfl) rfl lk10_144_3 (fun _ => ⟨_, rfl, rfl⟩) dX10_perform_157 (fun v26 z27 => ?_)
      have r28 : R (0) (1023) v26 := rd I17 rfl z27
      refine r_aload_n S dX10_perform_160 rfl (lv_at hl 0 rfl) ?_
      refine r_iload_n S dX10_perform_161 rfl (lv_at hl 2 rfl) ?_
      refine r_ki (q_V (As := [.int a1]) (rest := [.int v26, .ref (G.2.2.2.1 30)]) (K := 22) (ci := 8) S X16 (c_X10_around l G t14 I17 a1 (R_of (lo := -2147483648) (hi := 2147483647) h_a1 rfl)) ck10_147 (Nat.le_of_ble_eq_true rfl) rfl (fun _ => ⟨_, rfl⟩) ⟨_, _, rfl⟩ ⟨Nat.le_of_ble_eq_true rfl, Nat.le_of_ble_eq_true rfl⟩ rfl hl.1 rfl (Nat.le_of_ble_eq_true rfl) dX10_perform_162 ⟨Nat.le_refl 0, Nat.le_refl 0⟩) X16 (fun v32 t31 H lc q29 X30 => ?_)
      unfold po_X10_around at q29
      obtain ⟨q33, q34⟩ := q29
      rw [q33] at X30
      refine r_ior S dX10_perform_165 (fun v35 z36 => ?_)
      have r38 : R (0) (1023) v35 := i_or 10 z36 r28 q34 rfl
      refine r_put (K := 23) (ty := .int) S X30 (Nat.le_of_ble_eq_true rfl) rfl lk10_144_3 (fun _ => ⟨_, rfl, Nat.le_of_ble_eq_true rfl, rfl⟩) (fun _ _ _ h => by cases h; exact ⟨rfl, rfl⟩) rfl rfl dX10_perform_166 (fun t39 H lc M40 X41 => ?_)
      have I42 := Inv_mu I17 M40 (show Rg (kd 30) 7 v35 from (R_of (lo := 0) (hi := 1023) r38 rfl))
      have F43 : Fr [(30, 7)] [31] τ t39 := Fr_mu F18 M40 (by decide)
      exact r_vret S hr hlk X41 ⟨I42, F43⟩ dX10_perform_169
def po_X10_draw (τ : Tau)  (a0 : Int32)   (r : Int32) (u : Tau) : Prop := Inv u ∧ Fr [(22, 3)] [] τ u ∧ R (0) (9) r
set_option maxHeartbeats 4000000 in
set_option maxRecDepth 100000 in
theorem c_X10_draw (l : Launch) (G : Gx) (τ : Tau) (hI : Inv τ) (a0 : Int32) (h_a0 : R (0) (10) a0) : Ci l G yX10_draw cX10_draw 2 (some .int) 0 0 [.ref (G.2.2.2.1 22), .int a0] τ (po_X10_draw τ  a0  ) := by
  unfold Ci
  refine C_of (own := RX10) (by decide) rfl (Nat.le_of_ble_eq_true rfl) ?_
  intro p e s m below meth c ls S hr hlk X hl
  have hl : lv_has ls 2 [(0, .ref (G.2.2.2.1 22)), (1, .int a0)] := hl
  refine r_aload_n S dX10_draw_0 rfl (lv_at hl 0 rfl) ?_
  refine r_aload_n S dX10_draw_1 rfl (lv_at hl 0 rfl) ?_
  refine r_getn (K := 22) S X (Nat.le_of_ble_eq_true rfl) rfl lk10_153_8 (fun _ => ⟨_, rfl, rfl⟩) dX10_draw_2 (fun v1 z2 => ?_)
  have r4 := R_any v1
  refine lv_ldc S.1.1 S.1.2.1 S.1.2.2.2.1 (S.1.2.2.2.2 _ kw8) dX10_draw_5 ?_
  refine lv_topi (fun v5 z6 => ?_)
  have r7 : R (1103515245) (1103515245) v5 := by rw [z6]; decide
  have e8 : v5.toInt = 1103515245 := by omega
  refine r_imul S dX10_draw_7 (fun v9 z10 => ?_)
  have r11 := R_any v9
  refine r_sipush S dX10_draw_8 (by decide) (fun v12 z13 => ?_)
  have r14 := R_eq z13
  refine r_iadd S dX10_draw_11 (fun v15 z16 => ?_)
  have r17 := R_any v15
  refine r_put (K := 22) (ty := .int) S X (Nat.le_of_ble_eq_true rfl) rfl lk10_153_8 (fun _ => ⟨_, rfl, Nat.le_of_ble_eq_true rfl, rfl⟩) (fun _ _ _ h => by cases h; exact ⟨rfl, rfl⟩) rfl rfl dX10_draw_12 (fun t18 H lc M19 X20 => ?_)
  have I21 := Inv_mu hI M19 (R_any v15)
  have F22 : Fr [(22, 3)] [] τ t18 := Fr_mu Fr_rfl M19 (by decide)
  refine r_iload_n S dX10_draw_15 rfl (lv_at hl 1 rfl) ?_
  refine r_if_le (tgt := 31) S dX10_draw_16 (by decide) (fun c23 => ?_) (fun c23 => ?_)
  ·
    have r24 : R (0) (0) a0 := ⟨by omega, by omega⟩
    refine r_iconst S dX10_draw_31 (by decide) (fun v25 z26 => ?_)
    have r27 := R_eq z26
    exact r_ret S hr hlk X20 ⟨I21, F22, (R_of r27 rfl)⟩ rfl dX10_draw_32
  ·
    have r28 : R (1) (10) a0 := ⟨by omega, by omega⟩
    refine r_aload_n S dX10_draw_19 rfl (lv_at hl 0 rfl) ?_
    refine r_geti (K := 22) S X20 (Nat.le_of_ble_eq_true rfl) rfl lk10_153_8 (fun _ => ⟨_, rfl, rfl⟩) M19.1 dX10_draw_20 ?_
    refine r_bipush S dX10_draw_23 (by decide) (fun v29 z30 => ?_)
    have r31 := R_eq z30
    refine r_iushr S dX10_draw_25 (fun v32 z33 => ?_)
    have r35 : R (0) (16777215) v32 := i_ushrc z33 r17 r31 rfl
    refine r_iload_n S dX10_draw_26 rfl (lv_at hl 1 rfl) ?_
    refine r_irem S dX10_draw_27 (by omega) (fun v36 z37 => ?_)
    have r39 : R (0) (9) v36 := i_rem0 z37 r35 r28 rfl
    have e40 := i_remlt z37 r35 r28 rfl
    refine r_goto (tgt := 32) S dX10_draw_28 (by decide) ?_
    exact r_ret S hr hlk X20 ⟨I21, F22, r39⟩ rfl dX10_draw_32
def po_X10_drawOnce (τ : Tau)     (u : Tau) : Prop := Inv u ∧ Fr [(22, 3), (30, 4), (30, 5), (30, 6), (30, 9), (30, 10)] [33, 34] τ u
set_option maxHeartbeats 4000000 in
set_option maxRecDepth 100000 in
theorem c_X10_drawOnce (l : Launch) (G : Gx) (τ : Tau) (hI : Inv τ) (hf_0 : R (1) (10) (τ 23 3)) (hWI : WI τ) : Cv l G yX10_drawOnce cX10_drawOnce 4 5 118 [.ref (G.2.2.2.1 22)] τ (po_X10_drawOnce τ    ) := by
  unfold Cv
  refine C_of (own := RX10) (by decide) rfl (Nat.le_of_ble_eq_true rfl) ?_
  intro p e s m below meth c ls S hr hlk X hl
  have hl : lv_has ls 4 [(0, .ref (G.2.2.2.1 22))] := hl
  obtain ⟨v1, z2⟩ : ∃ x, τ 23 3 = x := ⟨_, rfl⟩
  rw [z2] at hf_0
  refine r_aload_n S dX10_drawOnce_0 rfl (lv_at hl 0 rfl) ?_
  refine r_ki (q_V (As := []) (rest := []) (K := 22) (ci := 8) S X (c_X10_here l G τ hI ) ck10_109 (Nat.le_of_ble_eq_true rfl) rfl (fun _ => ⟨_, rfl⟩) ⟨_, _, rfl⟩ ⟨Nat.le_of_ble_eq_true rfl, Nat.le_of_ble_eq_true rfl⟩ rfl hl.1 rfl (Nat.le_of_ble_eq_true rfl) dX10_drawOnce_1 ⟨Nat.le_refl 0, Nat.le_refl 0⟩) X (fun v6 t5 H lc q3 X4 => ?_)
  unfold po_X10_here at q3
  obtain ⟨q7, q8⟩ := q3
  rw [q7] at X4
  refine r_istore_n (lv' := [(1, .int v6), (0, .ref (G.2.2.2.1 22))]) S dX10_drawOnce_4 rfl hl (by decide) rfl (fun ls hl => ?_)
  refine r_iconst S dX10_drawOnce_5 (by decide) (fun v9 z10 => ?_)
  have r11 := R_eq z10
  refine r_istore_n (lv' := [(2, .int v9), (1, .int v6), (0, .ref (G.2.2.2.1 22))]) S dX10_drawOnce_6 rfl hl (by decide) rfl (fun ls hl => ?_)
  refine r_iconst S dX10_drawOnce_7 (by decide) (fun v12 z13 => ?_)
  have r14 := R_eq z13
  refine r_istore_n (lv' := [(3, .int v12), (2, .int v9), (1, .int v6), (0, .ref (G.2.2.2.1 22))]) S dX10_drawOnce_8 rfl hl (by decide) rfl (fun ls hl => ?_)
  have L560 : ∀ (n : Nat) (t554 : Tau) (H : Heap) (lc : List Loc) (ls : Array Slot) (i550 : Int32) (i552 : Int32), Xd G s H lc t554 → Inv t554 → Fr [(22, 3), (30, 4), (30, 5), (30, 6), (30, 9), (30, 10)] [33, 34] τ t554 → WI t554 → R (0) (1023) i550 → R (0) (10) i552 → t554 23 3 = v1 → lv_has ls 4 [(0, .ref (G.2.2.2.1 22)), (1, .int v6), (2, .int i550), (3, .int i552)] → (10 - i552.toInt).toNat < n → W p l e (Rm 5 118) s m ([.ref (G.2.2.2.1 22)] : List Value).toArray below meth c H lc 0 0 (MQ below (va_Qv (po_X10_drawOnce τ    ) (Bs G) G.2.2.2.2) ([.ref (G.2.2.2.1 22)] : List Value).toArray s 0 0 G.2.2.2.2) (F0 m 9 ls []) := by
    intro n
    induction n with
    | zero => intros; omega
    | succ n ih561 =>
      intro t554 H lc ls i550 i552 X558 I555 F556 hWI557 r551 r553 z559 hl hm
      refine r_iload_n S dX10_drawOnce_9 rfl (lv_at hl 3 rfl) ?_
      refine r_aload_n S dX10_drawOnce_10 rfl (lv_at hl 0 rfl) ?_
      refine r_get (K := 22) (v := .ref (G.2.2.2.1 23)) S X558 (Nat.le_of_ble_eq_true rfl) rfl lk10_12_8 (fun _ => ⟨_, rfl, rfl⟩) dX10_drawOnce_11 ?_
      refine r_geti (K := 4) S X558 (Nat.le_of_ble_eq_true rfl) rfl lk10_49_2 (fun _ => ⟨_, rfl, rfl⟩) z559 dX10_drawOnce_14 ?_
      refine r_icmp_ge (tgt := 49) S dX10_drawOnce_17 (by decide) (fun c562 => ?_) (fun c562 => ?_)
      ·
        have r563 : R (1) (10) i552 := ⟨by omega, by omega⟩
        refine r_aload_n S dX10_drawOnce_49 rfl (lv_at hl 0 rfl) ?_
        refine r_iload_n S dX10_drawOnce_50 rfl (lv_at hl 2 rfl) ?_
        refine r_ki (q_V (As := [.int i550]) (rest := []) (K := 22) (ci := 8) S X558 (c_X10_whyStay l G t554 I555 i550 (R_of (lo := -2147483648) (hi := 2147483647) r551 rfl) hWI557) ck10_128 (Nat.le_of_ble_eq_true rfl) rfl (fun _ => ⟨_, rfl⟩) ⟨_, _, rfl⟩ ⟨Nat.le_of_ble_eq_true rfl, Nat.le_of_ble_eq_true rfl⟩ rfl hl.1 rfl (Nat.le_of_ble_eq_true rfl) dX10_drawOnce_51 ⟨Nat.le_refl 0, Nat.le_refl 0⟩) X558 (fun v567 t566 H lc q564 X565 => ?_)
        unfold po_X10_whyStay at q564
        obtain ⟨q568, q569⟩ := q564
        rw [q568] at X565
        refine r_if_ne (tgt := 63) S dX10_drawOnce_54 (by decide) (fun c570 => ?_) (fun c570 => ?_)
        ·
          have r571 : R (1) (4) v567 := ⟨by omega, by omega⟩
          refine r_aload_n S dX10_drawOnce_63 rfl (lv_at hl 0 rfl) ?_
          refine r_aload_n S dX10_drawOnce_64 rfl (lv_at hl 0 rfl) ?_
          refine r_get (K := 22) (v := .ref (G.2.2.2.1 23)) S X565 (Nat.le_of_ble_eq_true rfl) rfl lk10_12_8 (fun _ => ⟨_, rfl, rfl⟩) dX10_drawOnce_65 ?_
          refine r_geti (K := 4) S X565 (Nat.le_of_ble_eq_true rfl) rfl lk10_49_2 (fun _ => ⟨_, rfl, rfl⟩) z559 dX10_drawOnce_68 ?_
          refine r_ki (q_V (As := [.int v1]) (rest := []) (K := 22) (ci := 8) S X565 (c_X10_draw l G t554 I555 v1 (R_of (lo := 0) (hi := 10) hf_0 rfl)) ck10_159 (Nat.le_of_ble_eq_true rfl) rfl (fun _ => ⟨_, rfl⟩) ⟨_, _, rfl⟩ ⟨Nat.le_of_ble_eq_true rfl, Nat.le_of_ble_eq_true rfl⟩ rfl hl.1 rfl (Nat.le_of_ble_eq_true rfl) dX10_drawOnce_71 ⟨Nat.le_refl 0, Nat.le_refl 0⟩) X565 (fun v575 t574 H lc q572 X573 => ?_)
          unfold po_X10_draw at q572
          obtain ⟨q576, q577, q578⟩ := q572
          have F579 : Fr [(22, 3), (30, 4), (30, 5), (30, 6), (30, 9), (30, 10)] [33, 34] τ t574 := Fr_call F556 q577 (by decide)
          refine r_istore_n (lv' := [(3, .int v575), (0, .ref (G.2.2.2.1 22)), (1, .int v6), (2, .int i550)]) S dX10_drawOnce_74 rfl hl (by decide) rfl (fun ls hl => ?_)
          refine r_aload_n S dX10_drawOnce_75 rfl (lv_at hl 1 rfl) ?_
          refine r_get (K := 22) (v := .ref (G.2.2.2.1 30)) S X573 (Nat.le_of_ble_eq_true rfl) rfl lk10_21_8 (fun _ => ⟨_, rfl, rfl⟩) dX10_drawOnce_76 ?_
          refine r_getn (K := 23) S X573 (Nat.le_of_ble_eq_true rfl) rfl lk10_91_3 (fun _ => ⟨_, rfl, rfl⟩) dX10_drawOnce_79 (fun v580 z581 => ?_)
          have r582 : R (0) (1023) v580 := rd q576 rfl z581
          refine r_iload_n S dX10_drawOnce_82 rfl (lv_at hl 0 rfl) ?_
          refine r_ki (q_N (As := [.int v580, .int v575]) (rest := []) S X573 (c_X11_bit l G t574 q576 v580 v575 (R_of (lo := -2147483648) (hi := 2147483647) r582 rfl) (R_of (lo := -2147483648) (hi := 2147483647) q578 rfl)) ck10_65 ⟨Nat.le_of_ble_eq_true rfl, Nat.le_of_ble_eq_true rfl⟩ rfl hl.1 rfl (Nat.le_of_ble_eq_true rfl) dX10_drawOnce_83 ⟨Nat.le_refl 0, Nat.le_refl 0⟩) X573 (fun v586 t585 H lc q583 X584 => ?_)
          unfold po_X11_bit at q583
          obtain ⟨q587, q588⟩ := q583
          rw [q587] at X584
          refine r_if_ne (tgt := 97) S dX10_drawOnce_86 (by decide) (fun c589 => ?_) (fun c589 => ?_)
          ·
            have r590 : R (1) (1) v586 := ⟨by omega, by omega⟩
            exact r_vret S hr hlk X584 ⟨q576, F579⟩ dX10_drawOnce_97
          ·
            have r591 : R (0) (0) v586 := ⟨by omega, by omega⟩
            refine r_aload_n S dX10_drawOnce_89 rfl (lv_at hl 1 rfl) ?_
            refine r_iconst S dX10_drawOnce_90 (by decide) (fun v592 z593 => ?_)
            have r594 := R_eq z593
            refine r_iload_n S dX10_drawOnce_91 rfl (lv_at hl 0 rfl) ?_
            refine r_iconst S dX10_drawOnce_92 (by decide) (fun v595 z596 => ?_)
            have r597 := R_eq z596
            refine r_iconst S dX10_drawOnce_93 (by decide) (fun v598 z599 => ?_)
            have r600 := R_eq z599
            refine r_kv (q_V (As := [.int v592, .int v575, .int v595, .int v598]) (rest := []) (K := 22) (ci := 8) S X584 (c_X10_perform_2 l G t574 q576 v592 v575 v595 v598 r594 q578 r597 r600) ck10_162 (Nat.le_of_ble_eq_true rfl) rfl (fun _ => ⟨_, rfl⟩) ⟨_, _, rfl⟩ ⟨Nat.le_of_ble_eq_true rfl, Nat.le_of_ble_eq_true rfl⟩ rfl hl.1 rfl (Nat.le_of_ble_eq_true rfl) dX10_drawOnce_94 ⟨Nat.le_refl 0, Nat.le_refl 0⟩) X584 (fun t603 H lc q601 X602 => ?_)
            unfold po_X10_perform_2 at q601
            obtain ⟨q604, q605⟩ := q601
            have F606 : Fr [(22, 3), (30, 4), (30, 5), (30, 6), (30, 9), (30, 10)] [33, 34] τ t603 := Fr_call F579 q605 (by decide)
            exact r_vret S hr hlk X602 ⟨q604, F606⟩ dX10_drawOnce_97
        ·
          have r607 : R (0) (0) v567 := ⟨by omega, by omega⟩
          refine r_aload_n S dX10_drawOnce_57 rfl (lv_at hl 0 rfl) ?_
          refine r_iload_n S dX10_drawOnce_58 rfl (lv_at hl 2 rfl) ?_
          refine r_kv (q_V (As := [.int i550]) (rest := []) (K := 22) (ci := 8) S X565 (c_X10_carry l G t554 I555 i550 r551) ck10_131 (Nat.le_of_ble_eq_true rfl) rfl (fun _ => ⟨_, rfl⟩) ⟨_, _, rfl⟩ ⟨Nat.le_of_ble_eq_true rfl, Nat.le_of_ble_eq_true rfl⟩ rfl hl.1 rfl (Nat.le_of_ble_eq_true rfl) dX10_drawOnce_59 ⟨Nat.le_refl 0, Nat.le_refl 0⟩) X565 (fun t610 H lc q608 X609 => ?_)
          unfold po_X10_carry at q608
          obtain ⟨q611, q612⟩ := q608
          have F613 : Fr [(22, 3), (30, 4), (30, 5), (30, 6), (30, 9), (30, 10)] [33, 34] τ t610 := Fr_call F556 q612 (by decide)
          exact r_vret S hr hlk X609 ⟨q611, F613⟩ dX10_drawOnce_62
      ·
        have r614 : R (0) (9) i552 := ⟨by omega, by omega⟩
        refine r_iload_n S dX10_drawOnce_20 rfl (lv_at hl 1 rfl) ?_
        refine r_iload_n S dX10_drawOnce_21 rfl (lv_at hl 3 rfl) ?_
        refine r_ki (q_N (As := [.int v6, .int i552]) (rest := []) S X558 (c_X11_bit l G t554 I555 v6 i552 (R_of (lo := -2147483648) (hi := 2147483647) q8 rfl) (R_of (lo := -2147483648) (hi := 2147483647) r614 rfl)) ck10_65 ⟨Nat.le_of_ble_eq_true rfl, Nat.le_of_ble_eq_true rfl⟩ rfl hl.1 rfl (Nat.le_of_ble_eq_true rfl) dX10_drawOnce_22 ⟨Nat.le_refl 0, Nat.le_refl 0⟩) X558 (fun v618 t617 H lc q615 X616 => ?_)
        unfold po_X11_bit at q615
        obtain ⟨q619, q620⟩ := q615
        rw [q619] at X616
        refine r_iconst S dX10_drawOnce_25 (by decide) (fun v621 z622 => ?_)
        have r623 := R_eq z622
        refine r_icmp_ne (tgt := 43) S dX10_drawOnce_26 (by decide) (fun c624 => ?_) (fun c624 => ?_)
        ·
          have r625 : R (0) (0) v618 := ⟨by omega, by omega⟩
          refine r_iinc (k := 3) S dX10_drawOnce_43 hl rfl (by decide) (by decide) (fun v626 d627 ls z628 z629 hl => ?_)
          obtain ⟨e630, r631⟩ := i_add (lo := 1) (hi := 10) z628 r614 (R_eq z629) rfl
          have hl : lv_has ls 4 [(3, .int v626), (0, .ref (G.2.2.2.1 22)), (1, .int v6), (2, .int i550)] := hl
          refine r_goto (tgt := 9) S dX10_drawOnce_46 (by decide) ?_
          exact ih561 t554 _ _ _ i550 v626 X616 I555 F556 hWI557 r551 (R_of r631 rfl) z559 (lv_sub hl [1, 2, 3, 0] rfl) (by omega)
        ·
          have r632 : R (1) (1) v618 := ⟨by omega, by omega⟩
          refine r_aload_n S dX10_drawOnce_29 rfl (lv_at hl 0 rfl) ?_
          refine r_iconst S dX10_drawOnce_30 (by decide) (fun v633 z634 => ?_)
          have r635 := R_eq z634
          refine r_ki (q_V (As := [.int v633]) (rest := []) (K := 22) (ci := 8) S X616 (c_X10_draw l G t554 I555 v633 (R_of (lo := 0) (hi := 10) r635 rfl)) ck10_159 (Nat.le_of_ble_eq_true rfl) rfl (fun _ => ⟨_, rfl⟩) ⟨_, _, rfl⟩ ⟨Nat.le_of_ble_eq_true rfl, Nat.le_of_ble_eq_true rfl⟩ rfl hl.1 rfl (Nat.le_of_ble_eq_true rfl) dX10_drawOnce_31 ⟨Nat.le_refl 0, Nat.le_refl 0⟩) X616 (fun v639 t638 H lc q636 X637 => ?_)
          unfold po_X10_draw at q636
          obtain ⟨q640, q641, q642⟩ := q636
          have F643 : Fr [(22, 3), (30, 4), (30, 5), (30, 6), (30, 9), (30, 10)] [33, 34] τ t638 := Fr_call F556 q641 (by decide)
          refine r_if_ne (tgt := 43) S dX10_drawOnce_34 (by decide) (fun c644 => ?_) (fun c644 => ?_)
          ·
            have r645 : R (1) (9) v639 := ⟨by omega, by omega⟩
            refine r_iinc (k := 3) S dX10_drawOnce_43 hl rfl (by decide) (by decide) (fun v646 d647 ls z648 z649 hl => ?_)
            obtain ⟨e650, r651⟩ := i_add (lo := 1) (hi := 10) z648 r614 (R_eq z649) rfl
            have hl : lv_has ls 4 [(3, .int v646), (0, .ref (G.2.2.2.1 22)), (1, .int v6), (2, .int i550)] := hl
            refine r_goto (tgt := 9) S dX10_drawOnce_46 (by decide) ?_
            exact ih561 t638 _ _ _ i550 v646 X637 q640 F643 (WI_eq hWI557 ((q641 23 2 (by decide)).trans rfl) ((q641 30 8 (by decide)).trans rfl)) r551 (R_of r651 rfl) ((q641 23 3 (by decide)).trans z559) (lv_sub hl [1, 2, 3, 0] rfl) (by omega)
          ·
            have r652 : R (0) (0) v639 := ⟨by omega, by omega⟩
            refine r_iload_n S dX10_drawOnce_37 rfl (lv_at hl 2 rfl) ?_
            refine r_iconst S dX10_drawOnce_38 (by decide) (fun v653 z654 => ?_)
            have r655 := R_eq z654
            refine r_iload_n S dX10_drawOnce_39 rfl (lv_at hl 3 rfl) ?_
            refine r_ishl S dX10_drawOnce_40 (fun v656 z657 => ?_)
            have r659 : R (1) (512) v656 := i_shl z657 r655 r614 rfl
            refine r_ior S dX10_drawOnce_41 (fun v660 z661 => ?_)
            have r663 : R (0) (1023) v660 := i_or 10 z661 r551 r659 rfl
            refine r_istore_n (lv' := [(2, .int v660), (0, .ref (G.2.2.2.1 22)), (1, .int v6), (3, .int i552)]) S dX10_drawOnce_42 rfl hl (by decide) rfl (fun ls hl => ?_)
            refine r_iinc (k := 3) S dX10_drawOnce_43 hl rfl (by decide) (by decide) (fun v664 d665 ls z666 z667 hl => ?_)
            obtain ⟨e668, r669⟩ := i_add (lo := 1) (hi := 10) z666 r614 (R_eq z667) rfl
            have hl : lv_has ls 4 [(3, .int v664), (2, .int v660), (0, .ref (G.2.2.2.1 22)), (1, .int v6)] := hl
            refine r_goto (tgt := 9) S dX10_drawOnce_46 (by decide) ?_
            exact ih561 t638 _ _ _ v660 v664 X637 q640 F643 (WI_eq hWI557 ((q641 23 2 (by decide)).trans rfl) ((q641 30 8 (by decide)).trans rfl)) r663 (R_of r669 rfl) ((q641 23 3 (by decide)).trans z559) (lv_sub hl [2, 3, 1, 0] rfl) (by omega)
  exact L560 _ τ _ _ _ v9 v12 X4 hI Fr_rfl hWI (R_of r11 rfl) (R_of r14 rfl) z2 (lv_sub hl [3, 2, 1, 0] rfl) (Nat.lt_succ_self _)
def po_X10_drawTimes (τ : Tau)  (a0 a1 : Int32)   (r : Int32) (u : Tau) : Prop := Inv u ∧ Fr [(22, 3), (30, 4), (30, 5), (30, 6), (30, 9), (30, 10)] [33, 34] τ u
set_option maxHeartbeats 4000000 in
set_option maxRecDepth 100000 in
theorem c_X10_drawTimes (l : Launch) (G : Gx) (τ : Tau) (hI : Inv τ) (a0 : Int32) (a1 : Int32) (h_a0 : R (1) (40) a0) (h_a1 : R (-2147483648) (2147483647) a1) (hf_0 : R (1) (10) (τ 23 3)) (hWI : WI τ) : Ci l G yX10_drawTimes cX10_drawTimes 5 (some .int) 6 141 [.ref (G.2.2.2.1 22), .int a0, .int a1] τ (po_X10_drawTimes τ  a0 a1  ) := by
  unfold Ci
  refine C_of (own := RX10) (by decide) rfl (Nat.le_of_ble_eq_true rfl) ?_
  intro p e s m below meth c ls S hr hlk X hl
  have hl : lv_has ls 5 [(0, .ref (G.2.2.2.1 22)), (1, .int a0), (2, .int a1)] := hl
  obtain ⟨v1, z2⟩ : ∃ x, τ 23 3 = x := ⟨_, rfl⟩
  rw [z2] at hf_0
  refine r_aload_n S dX10_drawTimes_0 rfl (lv_at hl 0 rfl) ?_
  refine r_get (K := 22) (v := .ref (G.2.2.2.1 30)) S X (Nat.le_of_ble_eq_true rfl) rfl lk10_21_8 (fun _ => ⟨_, rfl, rfl⟩) dX10_drawTimes_1 ?_
  refine r_getn (K := 23) S X (Nat.le_of_ble_eq_true rfl) rfl lk10_150_3 (fun _ => ⟨_, rfl, rfl⟩) dX10_drawTimes_4 (fun v3 z4 => ?_)
  have r6 := R_any v3
  refine r_istore_n (lv' := [(3, .int v3), (0, .ref (G.2.2.2.1 22)), (1, .int a0), (2, .int a1)]) S dX10_drawTimes_7 rfl hl (by decide) rfl (fun ls hl => ?_)
  refine r_aload_n S dX10_drawTimes_8 rfl (lv_at hl 1 rfl) ?_
  refine r_iload_n S dX10_drawTimes_9 rfl (lv_at hl 3 rfl) ?_
  refine r_put (K := 22) (ty := .int) S X (Nat.le_of_ble_eq_true rfl) rfl lk10_153_8 (fun _ => ⟨_, rfl, Nat.le_of_ble_eq_true rfl, rfl⟩) (fun _ _ _ h => by cases h; exact ⟨rfl, rfl⟩) rfl rfl dX10_drawTimes_10 (fun t7 H lc M8 X9 => ?_)
  have I10 := Inv_mu hI M8 (R_any a1)
  have F11 : Fr [(22, 3), (30, 4), (30, 5), (30, 6), (30, 9), (30, 10)] [33, 34] τ t7 := Fr_mu Fr_rfl M8 (by decide)
  refine r_iconst S dX10_drawTimes_13 (by decide) (fun v12 z13 => ?_)
  have r14 := R_eq z13
  refine r_istore (lv' := [(4, .int v12), (3, .int v3), (0, .ref (G.2.2.2.1 22)), (1, .int a0), (2, .int a1)]) S dX10_drawTimes_14 hl (by decide) rfl (fun ls hl => ?_)
  have L315 : ∀ (n : Nat) (t309 : Tau) (H : Heap) (lc : List Loc) (ls : Array Slot) (i307 : Int32), Xd G s H lc t309 → Inv t309 → Fr [(22, 3), (30, 4), (30, 5), (30, 6), (30, 9), (30, 10)] [33, 34] τ t309 → WI t309 → R (0) (40) i307 → t309 23 3 = v1 → lv_has ls 5 [(0, .ref (G.2.2.2.1 22)), (1, .int a0), (3, .int v3), (4, .int i307)] → (40 - i307.toInt).toNat < n → W p l e (Rm 6 141) s m ([.ref (G.2.2.2.1 22), .int a0, .int a1] : List Value).toArray below meth c H lc 0 0 (MQ below (va_Qi (po_X10_drawTimes τ  a0 a1  ) (Bs G) G.2.2.2.2) ([.ref (G.2.2.2.1 22), .int a0, .int a1] : List Value).toArray s 0 0 G.2.2.2.2) (F0 m 16 ls []) := by
    intro n
    induction n with
    | zero => intros; omega
    | succ n ih316 =>
      intro t309 H lc ls i307 X313 I310 F311 hWI312 r308 z314 hl hm
      refine r_iload S dX10_drawTimes_16 (lv_at hl 3 rfl) ?_
      refine r_iload_n S dX10_drawTimes_18 rfl (lv_at hl 1 rfl) ?_
      refine r_icmp_ge (tgt := 32) S dX10_drawTimes_19 (by decide) (fun c317 => ?_) (fun c317 => ?_)
      ·
        have r318 : R (1) (40) i307 := ⟨by omega, by omega⟩
        refine r_aload_n S dX10_drawTimes_32 rfl (lv_at hl 0 rfl) ?_
        refine r_get (K := 22) (v := .ref (G.2.2.2.1 30)) S X313 (Nat.le_of_ble_eq_true rfl) rfl lk10_21_8 (fun _ => ⟨_, rfl, rfl⟩) dX10_drawTimes_33 ?_
        refine r_getn (K := 23) S X313 (Nat.le_of_ble_eq_true rfl) rfl lk10_150_3 (fun _ => ⟨_, rfl, rfl⟩) dX10_drawTimes_36 (fun v319 z320 => ?_)
        have r322 := R_any v319
        refine r_iload_n S dX10_drawTimes_39 rfl (lv_at hl 2 rfl) ?_
        refine r_isub S dX10_drawTimes_40 (fun v323 z324 => ?_)
        have r325 := R_any v323
        exact r_ret S hr hlk X313 ⟨I310, F311⟩ rfl dX10_drawTimes_41
      ·
        have r326 : R (0) (39) i307 := ⟨by omega, by omega⟩
        refine r_aload_n S dX10_drawTimes_22 rfl (lv_at hl 0 rfl) ?_
        refine r_kv (q_V (As := []) (rest := []) (K := 22) (ci := 8) S X313 (c_X10_drawOnce l G t309 I310 (by rw [z314]; exact R_of hf_0 rfl) hWI312) ck10_156 (Nat.le_of_ble_eq_true rfl) rfl (fun _ => ⟨_, rfl⟩) ⟨_, _, rfl⟩ ⟨Nat.le_of_ble_eq_true rfl, Nat.le_of_ble_eq_true rfl⟩ rfl hl.1 rfl (Nat.le_of_ble_eq_true rfl) dX10_drawTimes_23 ⟨Nat.le_refl 0, Nat.le_refl 0⟩) X313 (fun t329 H lc q327 X328 => ?_)
        unfold po_X10_drawOnce at q327
        obtain ⟨q330, q331⟩ := q327
        have F332 : Fr [(22, 3), (30, 4), (30, 5), (30, 6), (30, 9), (30, 10)] [33, 34] τ t329 := Fr_call F311 q331 (by decide)
        refine r_iinc (k := 3) S dX10_drawTimes_26 hl rfl (by decide) (by decide) (fun v333 d334 ls z335 z336 hl => ?_)
        obtain ⟨e337, r338⟩ := i_add (lo := 1) (hi := 40) z335 r326 (R_eq z336) rfl
        have hl : lv_has ls 5 [(4, .int v333), (0, .ref (G.2.2.2.1 22)), (1, .int a0), (3, .int v3)] := hl
        refine r_goto (tgt := 16) S dX10_drawTimes_29 (by decide) ?_
        exact ih316 t329 _ _ _ v333 X328 q330 F332 (WI_eq hWI312 ((q331 23 2 (by decide)).trans rfl) ((q331 30 8 (by decide)).trans rfl)) (R_of r338 rfl) ((q331 23 3 (by decide)).trans z314) (lv_sub hl [1, 2, 3, 0] rfl) (by omega)
  exact L315 _ t7 _ _ _ v12 X9 I10 F11 (WI_eq hWI ((M8.2 23 2 (Or.inl (by decide))).trans rfl) ((M8.2 30 8 (Or.inl (by decide))).trans rfl)) (R_of r14 rfl) ((M8.2 23 3 (Or.inl (by decide))).trans z2) (lv_sub hl [2, 3, 1, 0] rfl) (Nat.lt_succ_self _)
