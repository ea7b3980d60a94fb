def po_X12_sentence_q (τ : Tau)     (r : Int32) (u : Tau) : Prop := Inv u ∧ Fr [(131, 0), (131, 15), (131, 16), (131, 4), (131, 11), (131, 12), (131, 13), (131, 14), (131, 2), (131, 3), (131, 5), (131, 41), (131, 42), (131, 43), (131, 44), (131, 45)] [135, 148, 133, 331] τ u ∧ R (0) (0) (u 131 2) ∧ PF u ∧ (∀ j : Nat, j < 5 → u 133 j = τ 133 j)
set_option maxHeartbeats 4000000 in
set_option maxRecDepth 100000 in
theorem c_X12_sentence_q (l : Launch) (G : Gx) (τ : Tau) (hI : Inv τ) (hp_0 : PF τ) : Ci l G yX12_sentence cX12_sentence 3 (some .int) 3 67 [.ref (G.2.2.2.1 131)] τ (po_X12_sentence_q τ    ) := by
  unfold Ci
  refine C_of (own := RX12) (by decide) rfl (Nat.le_of_ble_eq_true rfl) ?_
  intro p e s m below meth c ls S hr hlk X hl
  have hl : lv_has ls 3 [(0, .ref (G.2.2.2.1 131))] := hl
  refine r_aload_n S dX12_sentence_0 rfl (lv_at hl 0 rfl) ?_
  refine r_iconst S dX12_sentence_1 (by decide) (fun v1 z2 => ?_)
  have r3 := R_eq z2
  refine r_put (K := 38) (ty := .int) S X (Nat.le_of_ble_eq_true rfl) rfl lk12_1_10 (fun _ => ⟨_, rfl, Nat.le_of_ble_eq_true rfl, rfl⟩) (fun _ _ _ h => by cases h; exact ⟨rfl, rfl⟩) rfl rfl dX12_sentence_2 (fun t4 H lc M5 X6 => ?_)
  have I7 := Inv_mu hI M5 (R_any v1)
  have F8 : Fr [(131, 0), (131, 15), (131, 16), (131, 4), (131, 11), (131, 12), (131, 13), (131, 14), (131, 2), (131, 3), (131, 5), (131, 41), (131, 42), (131, 43), (131, 44), (131, 45)] [135, 148, 133, 331] τ t4 := Fr_mu Fr_rfl M5 (by decide)
  refine r_aload_n S dX12_sentence_5 rfl (lv_at hl 0 rfl) ?_
  refine r_sipush S dX12_sentence_6 (by decide) (fun v9 z10 => ?_)
  have r11 := R_eq z10
  refine r_kv (q_V (As := [.int v9]) (rest := []) (K := 38) (ci := 10) S X6 (c_X12_taken l G t4 I7 v9 (R_of (lo := 0) (hi := 940) r11 rfl)) ck12_237 (Nat.le_of_ble_eq_true rfl) rfl (fun _ => ⟨_, rfl⟩) ⟨_, _, rfl⟩ ⟨Nat.le_of_ble_eq_true rfl, Nat.le_of_ble_eq_true rfl⟩ rfl hl.1 rfl (Nat.le_of_ble_eq_true rfl) dX12_sentence_9 ⟨Nat.le_refl 0, Nat.le_refl 0⟩) X6 (fun t14 H lc q12 X13 => ?_)
  unfold po_X12_taken at q12
  obtain ⟨q15, q16, q17⟩ := q12
  have F18 : Fr [(131, 0), (131, 15), (131, 16), (131, 4), (131, 11), (131, 12), (131, 13), (131, 14), (131, 2), (131, 3), (131, 5), (131, 41), (131, 42), (131, 43), (131, 44), (131, 45)] [135, 148, 133, 331] τ t14 := Fr_call F8 q16 (by decide)
  obtain ⟨v19, z20⟩ : ∃ x, t14 131 2 = x := ⟨_, rfl⟩
  rw [z20] at q17
  refine r_aload_n S dX12_sentence_12 rfl (lv_at hl 0 rfl) ?_
  refine r_iconst S dX12_sentence_13 (by decide) (fun v21 z22 => ?_)
  have r23 := R_eq z22
  refine r_put (K := 38) (ty := .int) S X13 (Nat.le_of_ble_eq_true rfl) rfl lk12_174_10 (fun _ => ⟨_, rfl, Nat.le_of_ble_eq_true rfl, rfl⟩) (fun _ _ _ h => by cases h; exact ⟨rfl, rfl⟩) rfl rfl dX12_sentence_14 (fun t24 H lc M25 X26 => ?_)
  have I27 := Inv_mu q15 M25 (R_any v21)
  have F28 : Fr [(131, 0), (131, 15), (131, 16), (131, 4), (131, 11), (131, 12), (131, 13), (131, 14), (131, 2), (131, 3), (131, 5), (131, 41), (131, 42), (131, 43), (131, 44), (131, 45)] [135, 148, 133, 331] τ t24 := Fr_mu F18 M25 (by decide)
  refine r_aload_n S dX12_sentence_17 rfl (lv_at hl 0 rfl) ?_
  refine r_iconst S dX12_sentence_18 (by decide) (fun v29 z30 => ?_)
  have r31 := R_eq z30
  refine r_put (K := 38) (ty := .int) S X26 (Nat.le_of_ble_eq_true rfl) rfl lk12_404_10 (fun _ => ⟨_, rfl, Nat.le_of_ble_eq_true rfl, rfl⟩) (fun _ _ _ h => by cases h; exact ⟨rfl, rfl⟩) rfl rfl dX12_sentence_19 (fun t32 H lc M33 X34 => ?_)
  have I35 := Inv_mu I27 M33 (show Rg (kd 131) 41 v29 from (R_of (lo := 0) (hi := 53) r31 rfl))
  have F36 : Fr [(131, 0), (131, 15), (131, 16), (131, 4), (131, 11), (131, 12), (131, 13), (131, 14), (131, 2), (131, 3), (131, 5), (131, 41), (131, 42), (131, 43), (131, 44), (131, 45)] [135, 148, 133, 331] τ t32 := Fr_mu F28 M33 (by decide)
  refine r_aload_n S dX12_sentence_22 rfl (lv_at hl 0 rfl) ?_
  refine r_iconst S dX12_sentence_23 (by decide) (fun v37 z38 => ?_)
  have r39 := R_eq z38
  refine r_put (K := 38) (ty := .int) S X34 (Nat.le_of_ble_eq_true rfl) rfl lk12_419_10 (fun _ => ⟨_, rfl, Nat.le_of_ble_eq_true rfl, rfl⟩) (fun _ _ _ h => by cases h; exact ⟨rfl, rfl⟩) rfl rfl dX12_sentence_24 (fun t40 H lc M41 X42 => ?_)
  have I43 := Inv_mu I35 M41 (show Rg (kd 131) 42 v37 from (R_of (lo := 0) (hi := 20) r39 rfl))
  have F44 : Fr [(131, 0), (131, 15), (131, 16), (131, 4), (131, 11), (131, 12), (131, 13), (131, 14), (131, 2), (131, 3), (131, 5), (131, 41), (131, 42), (131, 43), (131, 44), (131, 45)] [135, 148, 133, 331] τ t40 := Fr_mu F36 M41 (by decide)
  refine r_aload_n S dX12_sentence_27 rfl (lv_at hl 0 rfl) ?_
  refine r_iconst S dX12_sentence_28 (by decide) (fun v45 z46 => ?_)
  have r47 := R_eq z46
  refine r_put (K := 38) (ty := .int) S X42 (Nat.le_of_ble_eq_true rfl) rfl lk12_407_10 (fun _ => ⟨_, rfl, Nat.le_of_ble_eq_true rfl, rfl⟩) (fun _ _ _ h => by cases h; exact ⟨rfl, rfl⟩) rfl rfl dX12_sentence_29 (fun t48 H lc M49 X50 => ?_)
  have I51 := Inv_mu I43 M49 (show Rg (kd 131) 43 v45 from (R_of (lo := 0) (hi := 45) r47 rfl))
  have F52 : Fr [(131, 0), (131, 15), (131, 16), (131, 4), (131, 11), (131, 12), (131, 13), (131, 14), (131, 2), (131, 3), (131, 5), (131, 41), (131, 42), (131, 43), (131, 44), (131, 45)] [135, 148, 133, 331] τ t48 := Fr_mu F44 M49 (by decide)
  refine r_aload_n S dX12_sentence_32 rfl (lv_at hl 0 rfl) ?_
  refine r_iconst S dX12_sentence_33 (by decide) (fun v53 z54 => ?_)
  have r55 := R_eq z54
  refine r_put (K := 38) (ty := .int) S X50 (Nat.le_of_ble_eq_true rfl) rfl lk12_413_10 (fun _ => ⟨_, rfl, Nat.le_of_ble_eq_true rfl, rfl⟩) (fun _ _ _ h => by cases h; exact ⟨rfl, rfl⟩) rfl rfl dX12_sentence_34 (fun t56 H lc M57 X58 => ?_)
  have I59 := Inv_mu I51 M57 (R_any v53)
  have F60 : Fr [(131, 0), (131, 15), (131, 16), (131, 4), (131, 11), (131, 12), (131, 13), (131, 14), (131, 2), (131, 3), (131, 5), (131, 41), (131, 42), (131, 43), (131, 44), (131, 45)] [135, 148, 133, 331] τ t56 := Fr_mu F52 M57 (by decide)
  refine r_aload_n S dX12_sentence_37 rfl (lv_at hl 0 rfl) ?_
  refine r_iconst S dX12_sentence_38 (by decide) (fun v61 z62 => ?_)
  have r63 := R_eq z62
  refine r_put (K := 38) (ty := .boolean) S X58 (Nat.le_of_ble_eq_true rfl) rfl lk12_422_10 (fun _ => ⟨_, rfl, Nat.le_of_ble_eq_true rfl, rfl⟩) (fun _ _ _ h => by cases h; exact ⟨rfl, rfl⟩) (nr_bool (R_of (lo := 0) (hi := 1) r63 rfl)) (ft_bool (R_of (lo := 0) (hi := 1) r63 rfl)) dX12_sentence_39 (fun t64 H lc M65 X66 => ?_)
  have I67 := Inv_mu I59 M65 (show Rg (kd 131) 45 v61 from (R_of (lo := 0) (hi := 1) r63 rfl))
  have F68 : Fr [(131, 0), (131, 15), (131, 16), (131, 4), (131, 11), (131, 12), (131, 13), (131, 14), (131, 2), (131, 3), (131, 5), (131, 41), (131, 42), (131, 43), (131, 44), (131, 45)] [135, 148, 133, 331] τ t64 := Fr_mu F60 M65 (by decide)
  refine r_aload_n S dX12_sentence_42 rfl (lv_at hl 0 rfl) ?_
  refine r_kv (q_V (As := []) (rest := []) (K := 38) (ci := 10) S X66 (c_X12_skip l G t64 I67 ) ck12_186 (Nat.le_of_ble_eq_true rfl) rfl (fun _ => ⟨_, rfl⟩) ⟨_, _, rfl⟩ ⟨Nat.le_of_ble_eq_true rfl, Nat.le_of_ble_eq_true rfl⟩ rfl hl.1 rfl (Nat.le_of_ble_eq_true rfl) dX12_sentence_43 ⟨Nat.le_refl 0, Nat.le_refl 0⟩) X66 (fun t71 H lc q69 X70 => ?_)
  unfold po_X12_skip at q69
  obtain ⟨q72, q73, q74, q75, q76, q77⟩ := q69
  have F78 : Fr [(131, 0), (131, 15), (131, 16), (131, 4), (131, 11), (131, 12), (131, 13), (131, 14), (131, 2), (131, 3), (131, 5), (131, 41), (131, 42), (131, 43), (131, 44), (131, 45)] [135, 148, 133, 331] τ t71 := Fr_call F68 q73 (by decide)
  obtain ⟨v79, z80⟩ : ∃ x, t71 131 4 = x := ⟨_, rfl⟩
  rw [z80] at q74
  obtain ⟨v81, z82⟩ : ∃ x, t71 131 11 = x := ⟨_, rfl⟩
  rw [z82] at q75
  have e83 := congrArg Int32.toInt z80
  have e84 := congrArg Int32.toInt z80
  have e85 := congrArg Int32.toInt z82
  refine r_iconst S dX12_sentence_46 (by decide) (fun v86 z87 => ?_)
  have r88 := R_eq z87
  refine r_istore_n (lv' := [(1, .int v86), (0, .ref (G.2.2.2.1 131))]) S dX12_sentence_47 rfl hl (by decide) rfl (fun ls hl => ?_)
  have L530 : ∀ (n : Nat) (t506 : Tau) (H : Heap) (lc : List Loc) (ls : Array Slot) (i504 : Int32) (f512 : Int32) (f515 : Int32) (f518 : Int32) (f521 : Int32) (f524 : Int32) (f527 : Int32), Xd G s H lc t506 → Inv t506 → Fr [(131, 0), (131, 15), (131, 16), (131, 4), (131, 11), (131, 12), (131, 13), (131, 14), (131, 2), (131, 3), (131, 5), (131, 41), (131, 42), (131, 43), (131, 44), (131, 45)] [135, 148, 133, 331] τ t506 → R (0) (1) i504 → t506 131 0 = v1 → t506 131 2 = v19 → t506 131 41 = f512 → R (0) (53) f512 → t506 131 42 = f515 → R (0) (20) f515 → t506 131 43 = f518 → R (0) (45) f518 → t506 131 45 = f521 → R (0) (1) f521 → t506 131 4 = f524 → R (0) (940) f524 → t506 131 11 = f527 → R (0) (4) f527 → SI t506 → PF t506 → (∀ j : Nat, j < 5 → t506 133 j = τ 133 j) → lv_has ls 3 [(0, .ref (G.2.2.2.1 131)), (1, .int i504)] → (2 * (940 - f524.toInt) + (if 1 ≤ f527.toInt ∧ f527.toInt ≤ 3 then 1 else 0) + i504.toInt).toNat < n → W p l e (Rm 3 67) s m ([.ref (G.2.2.2.1 131)] : List Value).toArray below meth c H lc 0 0 (MQ below (va_Qi (po_X12_sentence_q τ    ) (Bs G) G.2.2.2.2) ([.ref (G.2.2.2.1 131)] : List Value).toArray s 0 0 G.2.2.2.2) (F0 m 48 ls []) := by
    intro n
    induction n with
    | zero => intros; omega
    | succ n ih534 =>
      intro t506 H lc ls i504 f512 f515 f518 f521 f524 f527 X509 I507 F508 r505 z510 z511 z514 r513 z517 r516 z520 r519 z523 r522 z526 r525 z529 r528 x531 x532 x533 hl hm
      refine r_iload_n S dX12_sentence_48 rfl (lv_at hl 1 rfl) ?_
      refine r_if_eq (tgt := 132) S dX12_sentence_49 (by decide) (fun c535 => ?_) (fun c535 => ?_)
      ·
        have r536 : R (0) (0) i504 := ⟨by omega, by omega⟩
        refine r_aload_n S dX12_sentence_132 rfl (lv_at hl 0 rfl) ?_
        refine r_get (K := 38) (v := .ref (G.2.2.2.1 133)) S X509 (Nat.le_of_ble_eq_true rfl) rfl lk12_33_10 (fun _ => ⟨_, rfl, rfl⟩) dX12_sentence_133 ?_
        refine r_sipush S dX12_sentence_136 (by decide) (fun v537 z538 => ?_)
        have r539 := R_eq z538
        refine r_aload_n S dX12_sentence_139 rfl (lv_at hl 0 rfl) ?_
        refine r_geti (K := 38) S X509 (Nat.le_of_ble_eq_true rfl) rfl lk12_404_10 (fun _ => ⟨_, rfl, rfl⟩) z514 dX12_sentence_140 ?_
        refine r_ast (n := 513) (K := 40) S X509 (Nat.le_of_ble_eq_true rfl) rfl (fun _ _ => rfl) (ix_of r539 rfl) dX12_sentence_143 (fun t540 H lc M541 X542 => ?_)
        have I543 := Inv_mu I507 M541 (show Rg (kd 133) _ f512 from wrs (K := 40) (a := 332) (n := 1) (R_of r539 rfl) (R_of (lo := 0) (hi := 53) r513 rfl) (by decide +kernel))
        have F544 : Fr [(131, 0), (131, 15), (131, 16), (131, 4), (131, 11), (131, 12), (131, 13), (131, 14), (131, 2), (131, 3), (131, 5), (131, 41), (131, 42), (131, 43), (131, 44), (131, 45)] [135, 148, 133, 331] τ t540 := Fr_cell F508 M541 (by decide)
        refine r_iconst S dX12_sentence_144 (by decide) (fun v545 z546 => ?_)
        have r547 := R_eq z546
        refine r_istore_n (lv' := [(2, .int v545), (0, .ref (G.2.2.2.1 131)), (1, .int i504)]) S dX12_sentence_145 rfl hl (by decide) rfl (fun ls hl => ?_)
        have L1600 : ∀ (n : Nat) (t1587 : Tau) (H : Heap) (lc : List Loc) (ls : Array Slot) (i1585 : Int32), Xd G s H lc t1587 → Inv t1587 → Fr [(131, 0), (131, 15), (131, 16), (131, 4), (131, 11), (131, 12), (131, 13), (131, 14), (131, 2), (131, 3), (131, 5), (131, 41), (131, 42), (131, 43), (131, 44), (131, 45)] [135, 148, 133, 331] τ t1587 → R (0) (160) i1585 → t1587 131 0 = v1 → t1587 131 2 = v19 → t1587 131 41 = f512 → t1587 131 42 = f515 → t1587 131 43 = f518 → t1587 131 45 = f521 → t1587 131 4 = f524 → t1587 131 11 = f527 → t1587 133 332 = f512 → (∀ j : Nat, (j : Int) < i1585.toInt → t1587 133 (333 + j) = t1587 135 j) → SI t1587 → (∀ j : Nat, j < 5 → t1587 133 j = τ 133 j) → lv_has ls 3 [(0, .ref (G.2.2.2.1 131)), (2, .int i1585)] → (160 - i1585.toInt).toNat < n → W p l e (Rm 3 67) s m ([.ref (G.2.2.2.1 131)] : List Value).toArray below meth c H lc 0 0 (MQ below (va_Qi (po_X12_sentence_q τ    ) (Bs G) G.2.2.2.2) ([.ref (G.2.2.2.1 131)] : List Value).toArray s 0 0 G.2.2.2.2) (F0 m 146 ls []) := by
          intro n
          induction n with
          | zero => intros; omega
          | succ n ih1604 =>
            intro t1587 H lc ls i1585 X1590 I1588 F1589 r1586 z1591 z1592 z1593 z1594 z1595 z1596 z1597 z1598 z1599 x1601 x1602 x1603 hl hm
            refine r_iload_n S dX12_sentence_146 rfl (lv_at hl 1 rfl) ?_
            refine r_iconst S dX12_sentence_147 (by decide) (fun v1605 z1606 => ?_)
            have r1607 := R_eq z1606
            refine r_aload_n S dX12_sentence_148 rfl (lv_at hl 0 rfl) ?_
            refine r_geti (K := 38) S X1590 (Nat.le_of_ble_eq_true rfl) rfl lk12_404_10 (fun _ => ⟨_, rfl, rfl⟩) z1593 dX12_sentence_149 ?_
            refine r_imul S dX12_sentence_152 (fun v1608 z1609 => ?_)
            obtain ⟨e1610, r1611⟩ := i_mul (lo := 0) (hi := 159) z1609 r1607 r513 rfl rfl
            have e1612 : v1608.toInt = 3 * f512.toInt := by rw [e1610, show v1605.toInt = 3 by omega]
            refine r_icmp_ge (tgt := 178) S dX12_sentence_153 (by decide) (fun c1613 => ?_) (fun c1613 => ?_)
            ·
              refine r_aload_n S dX12_sentence_178 rfl (lv_at hl 0 rfl) ?_
              refine r_geti (K := 38) S X1590 (Nat.le_of_ble_eq_true rfl) rfl lk12_419_10 (fun _ => ⟨_, rfl, rfl⟩) z1594 dX12_sentence_179 ?_
              exact r_ret S hr hlk X1590 ⟨I1588, F1589, (by rw [z1592]; exact R_of q17 rfl), (PF_mk x1602 z1593 z1594 z1595 z1596 (by omega) (by omega) z1599 x1601 (by omega)), (fun j hj => (rfl : t1587 133 j = t1587 133 j).trans (x1603 j hj))⟩ rfl dX12_sentence_182
            ·
              have r1614 : R (0) (158) i1585 := ⟨by omega, by omega⟩
              have r1615 : R (1) (159) v1608 := ⟨by omega, by omega⟩
              have r1616 : R (1) (53) f512 := ⟨by omega, by omega⟩
              refine r_aload_n S dX12_sentence_156 rfl (lv_at hl 0 rfl) ?_
              refine r_get (K := 38) (v := .ref (G.2.2.2.1 133)) S X1590 (Nat.le_of_ble_eq_true rfl) rfl lk12_33_10 (fun _ => ⟨_, rfl, rfl⟩) dX12_sentence_157 ?_
              refine r_sipush S dX12_sentence_160 (by decide) (fun v1617 z1618 => ?_)
              have r1619 := R_eq z1618
              refine r_iload_n S dX12_sentence_163 rfl (lv_at hl 1 rfl) ?_
              refine r_iadd S dX12_sentence_164 (fun v1620 z1621 => ?_)
              obtain ⟨e1622, r1623⟩ := i_add (lo := 333) (hi := 491) z1621 r1619 r1614 rfl
              refine r_aload_n S dX12_sentence_165 rfl (lv_at hl 0 rfl) ?_
              refine r_get (K := 38) (v := .ref (G.2.2.2.1 135)) S X1590 (Nat.le_of_ble_eq_true rfl) rfl lk12_40_10 (fun _ => ⟨_, rfl, rfl⟩) dX12_sentence_166 ?_
              refine r_iload_n S dX12_sentence_169 rfl (lv_at hl 1 rfl) ?_
              refine r_aldn (n := 160) (K := 42) S X1590 (Nat.le_of_ble_eq_true rfl) rfl (fun _ => rfl) (ix_of r1614 rfl) dX12_sentence_170 (fun v1624 z1625 => ?_)
              have r1627 := R_any v1624
              refine r_ast (n := 513) (K := 40) S X1590 (Nat.le_of_ble_eq_true rfl) rfl (fun _ _ => rfl) (ix_of r1623 rfl) dX12_sentence_171 (fun t1628 H lc M1629 X1630 => ?_)
              have I1631 := Inv_mu I1588 M1629 (show Rg (kd 133) _ v1624 from wrs (K := 40) (a := 333) (n := 159) (R_of r1623 rfl) (R_of (lo := -2147483648) (hi := 2147483647) r1627 rfl) (by decide +kernel))
              have F1632 : Fr [(131, 0), (131, 15), (131, 16), (131, 4), (131, 11), (131, 12), (131, 13), (131, 14), (131, 2), (131, 3), (131, 5), (131, 41), (131, 42), (131, 43), (131, 44), (131, 45)] [135, 148, 133, 331] τ t1628 := Fr_cell F1589 M1629 (by decide)
              refine r_iinc (k := 1) S dX12_sentence_172 hl rfl (by decide) (by decide) (fun v1633 d1634 ls z1635 z1636 hl => ?_)
              obtain ⟨e1637, r1638⟩ := i_add (lo := 1) (hi := 159) z1635 r1614 (R_eq z1636) rfl
              have hl : lv_has ls 3 [(2, .int v1633), (0, .ref (G.2.2.2.1 131))] := hl
              refine r_goto (tgt := 146) S dX12_sentence_175 (by decide) ?_
              exact ih1604 t1628 _ _ _ v1633 X1630 I1631 F1632 (R_of r1638 rfl) ((M1629.2 131 0 (Or.inl (by decide))).trans z1591) ((M1629.2 131 2 (Or.inl (by decide))).trans z1592) ((M1629.2 131 41 (Or.inl (by decide))).trans z1593) ((M1629.2 131 42 (Or.inl (by decide))).trans z1594) ((M1629.2 131 43 (Or.inl (by decide))).trans z1595) ((M1629.2 131 45 (Or.inl (by decide))).trans z1596) ((M1629.2 131 4 (Or.inl (by decide))).trans z1597) ((M1629.2 131 11 (Or.inl (by decide))).trans z1598) ((M1629.2 133 332 (Or.inr (ixne r1623 rfl))).trans z1599) (cp_step x1601 M1629 (by decide) (by omega) (by omega) z1625 (by omega)) (SI_eq x1602 (fun j => ((M1629.2 135 j (Or.inl (by decide))).trans rfl)) (fun j => ((M1629.2 148 j (Or.inl (by decide))).trans rfl)) ((M1629.2 131 41 (Or.inl (by decide))).trans rfl) ((M1629.2 131 42 (Or.inl (by decide))).trans rfl) ((M1629.2 131 43 (Or.inl (by decide))).trans rfl) ((M1629.2 131 45 (Or.inl (by decide))).trans rfl)) (fun j hj => (M1629.2 133 j (Or.inr (by have c : v1620.toNatClampNeg = v1620.toInt.toNat := rfl; omega))).trans ((rfl : t1587 133 j = t1587 133 j).trans (x1603 j hj))) (lv_sub hl [1, 0] rfl) (by omega)
        exact L1600 _ t540 _ _ _ v545 X542 I543 F544 (R_of r547 rfl) ((M541.2 131 0 (Or.inl (by decide))).trans z510) ((M541.2 131 2 (Or.inl (by decide))).trans z511) ((M541.2 131 41 (Or.inl (by decide))).trans z514) ((M541.2 131 42 (Or.inl (by decide))).trans z517) ((M541.2 131 43 (Or.inl (by decide))).trans z520) ((M541.2 131 45 (Or.inl (by decide))).trans z523) ((M541.2 131 4 (Or.inl (by decide))).trans z526) ((M541.2 131 11 (Or.inl (by decide))).trans z529) (zc (by omega) M541.1) (fun j hj => by exfalso; omega) (SI_eq x531 (fun j => ((M541.2 135 j (Or.inl (by decide))).trans rfl)) (fun j => ((M541.2 148 j (Or.inl (by decide))).trans rfl)) ((M541.2 131 41 (Or.inl (by decide))).trans rfl) ((M541.2 131 42 (Or.inl (by decide))).trans rfl) ((M541.2 131 43 (Or.inl (by decide))).trans rfl) ((M541.2 131 45 (Or.inl (by decide))).trans rfl)) (fun j hj => (M541.2 133 j (Or.inr (by have c : v537.toNatClampNeg = v537.toInt.toNat := rfl; omega))).trans ((rfl : t506 133 j = t506 133 j).trans (x533 j hj))) (lv_sub hl [1, 0] rfl) (Nat.lt_succ_self _)
      ·
        have r1639 : R (1) (1) i504 := ⟨by omega, by omega⟩
        refine r_aload_n S dX12_sentence_52 rfl (lv_at hl 0 rfl) ?_
        refine r_geti (K := 38) S X509 (Nat.le_of_ble_eq_true rfl) rfl lk12_422_10 (fun _ => ⟨_, rfl, rfl⟩) z523 dX12_sentence_53 ?_
        refine r_if_eq (tgt := 101) S dX12_sentence_56 (by decide) (fun c1640 => ?_) (fun c1640 => ?_)
        ·
          have r1641 : R (0) (0) f521 := ⟨by omega, by omega⟩
          refine r_aload_n S dX12_sentence_101 rfl (lv_at hl 0 rfl) ?_
          refine r_geti (K := 38) S X509 (Nat.le_of_ble_eq_true rfl) rfl lk12_422_10 (fun _ => ⟨_, rfl, rfl⟩) z523 dX12_sentence_102 ?_
          refine r_if_eq (tgt := 118) S dX12_sentence_105 (by decide) (fun c1642 => ?_) (fun c1642 => ?_)
          ·
            refine r_aload_n S dX12_sentence_118 rfl (lv_at hl 0 rfl) ?_
            refine r_ki (q_V (As := []) (rest := []) (K := 38) (ci := 10) S X509 (c_X12_operand l G t506 I507 (by rw [z523]; exact R_of r1641 rfl) x531) ck12_434 (Nat.le_of_ble_eq_true rfl) rfl (fun _ => ⟨_, rfl⟩) ⟨_, _, rfl⟩ ⟨Nat.le_of_ble_eq_true rfl, Nat.le_of_ble_eq_true rfl⟩ rfl hl.1 rfl (Nat.le_of_ble_eq_true rfl) dX12_sentence_119 ⟨Nat.le_refl 0, Nat.le_refl 0⟩) X509 (fun v1646 t1645 H lc q1643 X1644 => ?_)
            unfold po_X12_operand at q1643
            obtain ⟨q1647, q1648, q1649, q1650, q1651, q1652, q1653, q1654, q1655, q1656, q1657, q1658, q1659⟩ := q1643
            have F1660 : Fr [(131, 0), (131, 15), (131, 16), (131, 4), (131, 11), (131, 12), (131, 13), (131, 14), (131, 2), (131, 3), (131, 5), (131, 41), (131, 42), (131, 43), (131, 44), (131, 45)] [135, 148, 133, 331] τ t1645 := Fr_call F508 q1648 (by decide)
            obtain ⟨v1661, z1662⟩ : ∃ x, t1645 131 4 = x := ⟨_, rfl⟩
            rw [z1662] at q1650
            obtain ⟨v1663, z1664⟩ : ∃ x, t1645 131 11 = x := ⟨_, rfl⟩
            rw [z1664] at q1651
            have e1665 := congrArg Int32.toInt z526
            have e1666 := congrArg Int32.toInt z1662
            have e1667 := congrArg Int32.toInt z526
            have e1668 := congrArg Int32.toInt z1662
            have e1669 := congrArg Int32.toInt z529
            have e1670 := congrArg Int32.toInt z1664
            have e1671 := congrArg Int32.toInt z529
            have e1672 := congrArg Int32.toInt z1664
            obtain ⟨v1673, z1674⟩ : ∃ x, t1645 131 41 = x := ⟨_, rfl⟩
            rw [z1674] at q1655
            obtain ⟨v1675, z1676⟩ : ∃ x, t1645 131 42 = x := ⟨_, rfl⟩
            rw [z1676] at q1656
            obtain ⟨v1677, z1678⟩ : ∃ x, t1645 131 43 = x := ⟨_, rfl⟩
            rw [z1678] at q1657
            obtain ⟨v1679, z1680⟩ : ∃ x, t1645 131 45 = x := ⟨_, rfl⟩
            rw [z1680] at q1658
            refine r_if_ne (tgt := 48) S dX12_sentence_122 (by decide) (fun c1681 => ?_) (fun c1681 => ?_)
            ·
              have r1682 : R (1) (1) v1646 := ⟨by omega, by omega⟩
              exact ih534 t1645 _ _ _ i504 v1673 v1675 v1677 v1679 v1661 v1663 X1644 q1647 F1660 (R_of r1639 rfl) ((q1648 131 0 (by decide)).trans z510) ((q1648 131 2 (by decide)).trans z511) z1674 ⟨by omega, by omega⟩ z1676 ⟨by omega, by omega⟩ z1678 ⟨by omega, by omega⟩ z1680 ⟨by omega, by omega⟩ z1662 ⟨by omega, by omega⟩ z1664 ⟨by omega, by omega⟩ (q1659 (by omega)) (PF_eq x532 (fun j _ => ((q1648 133 j (by simp [fz])).trans rfl))) (fun j hj => (((q1648 133 j (by simp [fz])).trans rfl) : t1645 133 j = t506 133 j).trans (x533 j hj)) (lv_sub hl [0, 1] rfl) (by omega)
            ·
              have r1683 : R (0) (0) v1646 := ⟨by omega, by omega⟩
              refine r_iconst S dX12_sentence_125 (by decide) (fun v1684 z1685 => ?_)
              have r1686 := R_eq z1685
              refine r_aload_n S dX12_sentence_126 rfl (lv_at hl 0 rfl) ?_
              refine r_getn (K := 38) S X1644 (Nat.le_of_ble_eq_true rfl) rfl lk12_177_10 (fun _ => ⟨_, rfl, rfl⟩) dX12_sentence_127 (fun v1687 z1688 => ?_)
              have r1690 := R_any v1687
              refine r_isub S dX12_sentence_130 (fun v1691 z1692 => ?_)
              obtain ⟨e1693, r1694⟩ := i_sub (lo := -2147483648) (hi := 2147483647) z1692 r1686 r1690 rfl
              exact r_ret S hr hlk X1644 ⟨q1647, F1660, (by rw [((q1648 131 2 (by decide)).trans z511)]; exact R_of q17 rfl), (PF_eq x532 (fun j _ => ((q1648 133 j (by simp [fz])).trans rfl))), (fun j hj => (((q1648 133 j (by simp [fz])).trans rfl) : t1645 133 j = t506 133 j).trans (x533 j hj))⟩ rfl dX12_sentence_131
          ·
            exfalso; omega
        ·
          have r1695 : R (1) (1) f521 := ⟨by omega, by omega⟩
          refine r_aload_n S dX12_sentence_59 rfl (lv_at hl 0 rfl) ?_
          refine r_geti (K := 38) S X509 (Nat.le_of_ble_eq_true rfl) rfl lk12_157_10 (fun _ => ⟨_, rfl, rfl⟩) z529 dX12_sentence_60 ?_
          refine r_if_ne (tgt := 101) S dX12_sentence_63 (by decide) (fun c1696 => ?_) (fun c1696 => ?_)
          ·
            have r1697 : R (1) (4) f527 := ⟨by omega, by omega⟩
            refine r_aload_n S dX12_sentence_101 rfl (lv_at hl 0 rfl) ?_
            refine r_geti (K := 38) S X509 (Nat.le_of_ble_eq_true rfl) rfl lk12_422_10 (fun _ => ⟨_, rfl, rfl⟩) z523 dX12_sentence_102 ?_
            refine r_if_eq (tgt := 118) S dX12_sentence_105 (by decide) (fun c1698 => ?_) (fun c1698 => ?_)
            ·
              exfalso; omega
            ·
              refine r_aload_n S dX12_sentence_108 rfl (lv_at hl 0 rfl) ?_
              refine r_ki (q_V (As := []) (rest := []) (K := 38) (ci := 10) S X509 (c_X12_behind l G t506 I507 (by rw [z523]; exact R_of r1695 rfl) x531) ck12_431 (Nat.le_of_ble_eq_true rfl) rfl (fun _ => ⟨_, rfl⟩) ⟨_, _, rfl⟩ ⟨Nat.le_of_ble_eq_true rfl, Nat.le_of_ble_eq_true rfl⟩ rfl hl.1 rfl (Nat.le_of_ble_eq_true rfl) dX12_sentence_109 ⟨Nat.le_refl 0, Nat.le_refl 0⟩) X509 (fun v1702 t1701 H lc q1699 X1700 => ?_)
              unfold po_X12_behind at q1699
              obtain ⟨q1703, q1704, q1705, q1706, q1707, q1708, q1709, q1710, q1711, q1712, q1713, q1714, q1715⟩ := q1699
              have F1716 : Fr [(131, 0), (131, 15), (131, 16), (131, 4), (131, 11), (131, 12), (131, 13), (131, 14), (131, 2), (131, 3), (131, 5), (131, 41), (131, 42), (131, 43), (131, 44), (131, 45)] [135, 148, 133, 331] τ t1701 := Fr_call F508 q1704 (by decide)
              obtain ⟨v1717, z1718⟩ : ∃ x, t1701 131 4 = x := ⟨_, rfl⟩
              rw [z1718] at q1706
              obtain ⟨v1719, z1720⟩ : ∃ x, t1701 131 11 = x := ⟨_, rfl⟩
              rw [z1720] at q1707
              have e1721 := congrArg Int32.toInt z526
              have e1722 := congrArg Int32.toInt z1718
              have e1723 := congrArg Int32.toInt z526
              have e1724 := congrArg Int32.toInt z1718
              have e1725 := congrArg Int32.toInt z529
              have e1726 := congrArg Int32.toInt z1720
              have e1727 := congrArg Int32.toInt z529
              have e1728 := congrArg Int32.toInt z1720
              obtain ⟨v1729, z1730⟩ : ∃ x, t1701 131 41 = x := ⟨_, rfl⟩
              rw [z1730] at q1711
              obtain ⟨v1731, z1732⟩ : ∃ x, t1701 131 42 = x := ⟨_, rfl⟩
              rw [z1732] at q1712
              obtain ⟨v1733, z1734⟩ : ∃ x, t1701 131 43 = x := ⟨_, rfl⟩
              rw [z1734] at q1713
              obtain ⟨v1735, z1736⟩ : ∃ x, t1701 131 45 = x := ⟨_, rfl⟩
              rw [z1736] at q1714
              refine r_if_ne (tgt := 48) S dX12_sentence_112 (by decide) (fun c1737 => ?_) (fun c1737 => ?_)
              ·
                have r1738 : R (1) (1) v1702 := ⟨by omega, by omega⟩
                exact ih534 t1701 _ _ _ i504 v1729 v1731 v1733 v1735 v1717 v1719 X1700 q1703 F1716 (R_of r1639 rfl) ((q1704 131 0 (by decide)).trans z510) ((q1704 131 2 (by decide)).trans z511) z1730 ⟨by omega, by omega⟩ z1732 ⟨by omega, by omega⟩ z1734 ⟨by omega, by omega⟩ z1736 ⟨by omega, by omega⟩ z1718 ⟨by omega, by omega⟩ z1720 ⟨by omega, by omega⟩ (q1715 (by omega)) (PF_eq x532 (fun j _ => ((q1704 133 j (by simp [fz])).trans rfl))) (fun j hj => (((q1704 133 j (by simp [fz])).trans rfl) : t1701 133 j = t506 133 j).trans (x533 j hj)) (lv_sub hl [0, 1] rfl) (by omega)
              ·
                have r1739 : R (0) (0) v1702 := ⟨by omega, by omega⟩
                refine r_goto (tgt := 125) S dX12_sentence_115 (by decide) ?_
                refine r_iconst S dX12_sentence_125 (by decide) (fun v1740 z1741 => ?_)
                have r1742 := R_eq z1741
                refine r_aload_n S dX12_sentence_126 rfl (lv_at hl 0 rfl) ?_
                refine r_getn (K := 38) S X1700 (Nat.le_of_ble_eq_true rfl) rfl lk12_177_10 (fun _ => ⟨_, rfl, rfl⟩) dX12_sentence_127 (fun v1743 z1744 => ?_)
                have r1746 := R_any v1743
                refine r_isub S dX12_sentence_130 (fun v1747 z1748 => ?_)
                obtain ⟨e1749, r1750⟩ := i_sub (lo := -2147483648) (hi := 2147483647) z1748 r1742 r1746 rfl
                exact r_ret S hr hlk X1700 ⟨q1703, F1716, (by rw [((q1704 131 2 (by decide)).trans z511)]; exact R_of q17 rfl), (PF_eq x532 (fun j _ => ((q1704 133 j (by simp [fz])).trans rfl))), (fun j hj => (((q1704 133 j (by simp [fz])).trans rfl) : t1701 133 j = t506 133 j).trans (x533 j hj))⟩ rfl dX12_sentence_131
          ·
            have r1751 : R (0) (0) f527 := ⟨by omega, by omega⟩
            refine r_aload_n S dX12_sentence_66 rfl (lv_at hl 0 rfl) ?_
            refine r_kv (q_V (As := []) (rest := []) (K := 38) (ci := 10) S X509 (c_X12_nots l G t506 I507 (by rw [z523]; exact R_of r1695 rfl) x531) ck12_425 (Nat.le_of_ble_eq_true rfl) rfl (fun _ => ⟨_, rfl⟩) ⟨_, _, rfl⟩ ⟨Nat.le_of_ble_eq_true rfl, Nat.le_of_ble_eq_true rfl⟩ rfl hl.1 rfl (Nat.le_of_ble_eq_true rfl) dX12_sentence_67 ⟨Nat.le_refl 0, Nat.le_refl 0⟩) X509 (fun t1754 H lc q1752 X1753 => ?_)
            unfold po_X12_nots at q1752
            obtain ⟨q1755, q1756, q1757, q1758, q1759⟩ := q1752
            have F1760 : Fr [(131, 0), (131, 15), (131, 16), (131, 4), (131, 11), (131, 12), (131, 13), (131, 14), (131, 2), (131, 3), (131, 5), (131, 41), (131, 42), (131, 43), (131, 44), (131, 45)] [135, 148, 133, 331] τ t1754 := Fr_call F508 q1756 (by decide)
            obtain ⟨v1761, z1762⟩ : ∃ x, t1754 131 41 = x := ⟨_, rfl⟩
            rw [z1762] at q1757
            obtain ⟨v1763, z1764⟩ : ∃ x, t1754 131 43 = x := ⟨_, rfl⟩
            rw [z1764] at q1758
            refine r_aload_n S dX12_sentence_70 rfl (lv_at hl 0 rfl) ?_
            refine r_bipush S dX12_sentence_71 (by decide) (fun v1765 z1766 => ?_)
            have r1767 := R_eq z1766
            refine r_kv (q_V (As := [.int v1765]) (rest := []) (K := 38) (ci := 10) S X1753 (c_X12_joins_22 l G t1754 q1755 v1765 r1767 (by rw [((q1756 131 45 (by decide)).trans z523)]; exact R_of r1695 rfl) q1759) ck12_428 (Nat.le_of_ble_eq_true rfl) rfl (fun _ => ⟨_, rfl⟩) ⟨_, _, rfl⟩ ⟨Nat.le_of_ble_eq_true rfl, Nat.le_of_ble_eq_true rfl⟩ rfl hl.1 rfl (Nat.le_of_ble_eq_true rfl) dX12_sentence_73 ⟨Nat.le_refl 0, Nat.le_refl 0⟩) X1753 (fun t1770 H lc q1768 X1769 => ?_)
            unfold po_X12_joins_22 at q1768
            obtain ⟨q1771, q1772, q1773, q1774, q1775, q1776⟩ := q1768
            have F1777 : Fr [(131, 0), (131, 15), (131, 16), (131, 4), (131, 11), (131, 12), (131, 13), (131, 14), (131, 2), (131, 3), (131, 5), (131, 41), (131, 42), (131, 43), (131, 44), (131, 45)] [135, 148, 133, 331] τ t1770 := Fr_call F1760 q1772 (by decide)
            obtain ⟨v1778, z1779⟩ : ∃ x, t1770 131 41 = x := ⟨_, rfl⟩
            rw [z1779] at q1773
            obtain ⟨v1780, z1781⟩ : ∃ x, t1770 131 43 = x := ⟨_, rfl⟩
            rw [z1781] at q1774
            refine r_aload_n S dX12_sentence_76 rfl (lv_at hl 0 rfl) ?_
            refine r_geti (K := 38) S X1769 (Nat.le_of_ble_eq_true rfl) rfl lk12_407_10 (fun _ => ⟨_, rfl, rfl⟩) z1781 dX12_sentence_77 ?_
            refine r_if_le (tgt := 96) S dX12_sentence_80 (by decide) (fun c1782 => ?_) (fun c1782 => ?_)
            ·
              have r1783 : R (0) (0) v1780 := ⟨by omega, by omega⟩
              refine r_iconst S dX12_sentence_96 (by decide) (fun v1784 z1785 => ?_)
              have r1786 := R_eq z1785
              refine r_istore_n (lv' := [(1, .int v1784), (0, .ref (G.2.2.2.1 131))]) S dX12_sentence_97 rfl hl (by decide) rfl (fun ls hl => ?_)
              refine r_goto (tgt := 48) S dX12_sentence_98 (by decide) ?_
              exact ih534 t1770 _ _ _ v1784 v1778 f515 v1780 f521 f524 f527 X1769 q1771 F1777 (R_of r1786 rfl) ((q1772 131 0 (by decide)).trans ((q1756 131 0 (by decide)).trans z510)) ((q1772 131 2 (by decide)).trans ((q1756 131 2 (by decide)).trans z511)) z1779 ⟨by omega, by omega⟩ ((q1772 131 42 (by decide)).trans ((q1756 131 42 (by decide)).trans z517)) ⟨by omega, by omega⟩ z1781 ⟨by omega, by omega⟩ ((q1772 131 45 (by decide)).trans ((q1756 131 45 (by decide)).trans z523)) ⟨by omega, by omega⟩ ((q1772 131 4 (by decide)).trans ((q1756 131 4 (by decide)).trans z526)) ⟨by omega, by omega⟩ ((q1772 131 11 (by decide)).trans ((q1756 131 11 (by decide)).trans z529)) ⟨by omega, by omega⟩ q1775 (PF_eq x532 (fun j _ => ((q1772 133 j (by simp [fz])).trans ((q1756 133 j (by simp [fz])).trans rfl)))) (fun j hj => (((q1772 133 j (by simp [fz])).trans ((q1756 133 j (by simp [fz])).trans rfl)) : t1770 133 j = t506 133 j).trans (x533 j hj)) (lv_sub hl [1, 0] rfl) (by omega)
            ·
              have r1787 : R (1) (45) v1780 := ⟨by omega, by omega⟩
              refine r_aload_n S dX12_sentence_83 rfl (lv_at hl 0 rfl) ?_
              refine r_iconst S dX12_sentence_84 (by decide) (fun v1788 z1789 => ?_)
              have r1790 := R_eq z1789
              refine r_ki (q_V (As := [.int v1788]) (rest := []) (K := 38) (ci := 10) S X1769 (c_X12_bad l G t1770 q1771 v1788 (R_of (lo := -2147483648) (hi := 2147483647) r1790 rfl)) ck12_183 (Nat.le_of_ble_eq_true rfl) rfl (fun _ => ⟨_, rfl⟩) ⟨_, _, rfl⟩ ⟨Nat.le_of_ble_eq_true rfl, Nat.le_of_ble_eq_true rfl⟩ rfl hl.1 rfl (Nat.le_of_ble_eq_true rfl) dX12_sentence_85 ⟨Nat.le_refl 0, Nat.le_refl 0⟩) X1769 (fun v1794 t1793 H lc q1791 X1792 => ?_)
              unfold po_X12_bad at q1791
              obtain ⟨q1795, q1796, q1797⟩ := q1791
              have F1798 : Fr [(131, 0), (131, 15), (131, 16), (131, 4), (131, 11), (131, 12), (131, 13), (131, 14), (131, 2), (131, 3), (131, 5), (131, 41), (131, 42), (131, 43), (131, 44), (131, 45)] [135, 148, 133, 331] τ t1793 := Fr_call F1777 q1796 (by decide)
              refine r_pop S dX12_sentence_88 rfl ?_
              refine r_iconst S dX12_sentence_89 (by decide) (fun v1799 z1800 => ?_)
              have r1801 := R_eq z1800
              refine r_aload_n S dX12_sentence_90 rfl (lv_at hl 0 rfl) ?_
              refine r_getn (K := 38) S X1792 (Nat.le_of_ble_eq_true rfl) rfl lk12_177_10 (fun _ => ⟨_, rfl, rfl⟩) dX12_sentence_91 (fun v1802 z1803 => ?_)
              have r1805 := R_any v1802
              refine r_isub S dX12_sentence_94 (fun v1806 z1807 => ?_)
              obtain ⟨e1808, r1809⟩ := i_sub (lo := -2147483648) (hi := 2147483647) z1807 r1801 r1805 rfl
              exact r_ret S hr hlk X1792 ⟨q1795, F1798, (by rw [((q1796 131 2 (by decide)).trans ((q1772 131 2 (by decide)).trans ((q1756 131 2 (by decide)).trans z511)))]; exact R_of q17 rfl), (PF_eq x532 (fun j _ => ((q1796 133 j (by simp [fz])).trans ((q1772 133 j (by simp [fz])).trans ((q1756 133 j (by simp [fz])).trans rfl))))), (fun j hj => (((q1796 133 j (by simp [fz])).trans ((q1772 133 j (by simp [fz])).trans ((q1756 133 j (by simp [fz])).trans rfl))) : t1793 133 j = t506 133 j).trans (x533 j hj))⟩ rfl dX12_sentence_95
  exact L530 _ t71 _ _ _ v86 v29 v37 v45 v61 v79 v81 X70 q72 F78 (R_of r88 rfl) ((q73 131 0 (by decide)).trans ((M65.2 131 0 (Or.inr (by decide))).trans ((M57.2 131 0 (Or.inr (by decide))).trans ((M49.2 131 0 (Or.inr (by decide))).trans ((M41.2 131 0 (Or.inr (by decide))).trans ((M33.2 131 0 (Or.inr (by decide))).trans ((M25.2 131 0 (Or.inr (by decide))).trans ((q16 131 0 (by decide)).trans M5.1)))))))) ((q73 131 2 (by decide)).trans ((M65.2 131 2 (Or.inr (by decide))).trans ((M57.2 131 2 (Or.inr (by decide))).trans ((M49.2 131 2 (Or.inr (by decide))).trans ((M41.2 131 2 (Or.inr (by decide))).trans ((M33.2 131 2 (Or.inr (by decide))).trans ((M25.2 131 2 (Or.inr (by decide))).trans z20))))))) ((q73 131 41 (by decide)).trans ((M65.2 131 41 (Or.inr (by decide))).trans ((M57.2 131 41 (Or.inr (by decide))).trans ((M49.2 131 41 (Or.inr (by decide))).trans ((M41.2 131 41 (Or.inr (by decide))).trans M33.1))))) ⟨by omega, by omega⟩ ((q73 131 42 (by decide)).trans ((M65.2 131 42 (Or.inr (by decide))).trans ((M57.2 131 42 (Or.inr (by decide))).trans ((M49.2 131 42 (Or.inr (by decide))).trans M41.1)))) ⟨by omega, by omega⟩ ((q73 131 43 (by decide)).trans ((M65.2 131 43 (Or.inr (by decide))).trans ((M57.2 131 43 (Or.inr (by decide))).trans M49.1))) ⟨by omega, by omega⟩ ((q73 131 45 (by decide)).trans M65.1) ⟨by omega, by omega⟩ z80 ⟨by omega, by omega⟩ z82 ⟨by omega, by omega⟩ (SI_0 ((q73 131 41 (by decide)).trans ((M65.2 131 41 (Or.inr (by decide))).trans ((M57.2 131 41 (Or.inr (by decide))).trans ((M49.2 131 41 (Or.inr (by decide))).trans ((M41.2 131 41 (Or.inr (by decide))).trans M33.1))))) ((q73 131 42 (by decide)).trans ((M65.2 131 42 (Or.inr (by decide))).trans ((M57.2 131 42 (Or.inr (by decide))).trans ((M49.2 131 42 (Or.inr (by decide))).trans M41.1)))) ((q73 131 43 (by decide)).trans ((M65.2 131 43 (Or.inr (by decide))).trans ((M57.2 131 43 (Or.inr (by decide))).trans M49.1))) ((q73 131 45 (by decide)).trans M65.1) (by omega) (by omega) (by omega) (by omega)) (PF_eq hp_0 (fun j _ => ((q73 133 j (by simp [fz])).trans ((M65.2 133 j (Or.inl (by decide))).trans ((M57.2 133 j (Or.inl (by decide))).trans ((M49.2 133 j (Or.inl (by decide))).trans ((M41.2 133 j (Or.inl (by decide))).trans ((M33.2 133 j (Or.inl (by decide))).trans ((M25.2 133 j (Or.inl (by decide))).trans ((q16 133 j (by simp [fz])).trans ((M5.2 133 j (Or.inl (by decide))).trans rfl))))))))))) (fun j _ => ((q73 133 j (by simp [fz])).trans ((M65.2 133 j (Or.inl (by decide))).trans ((M57.2 133 j (Or.inl (by decide))).trans ((M49.2 133 j (Or.inl (by decide))).trans ((M41.2 133 j (Or.inl (by decide))).trans ((M33.2 133 j (Or.inl (by decide))).trans ((M25.2 133 j (Or.inl (by decide))).trans ((q16 133 j (by simp [fz])).trans ((M5.2 133 j (Or.inl (by decide))).trans rfl)))))))))) (lv_sub hl [1, 0] rfl) (Nat.lt_succ_self _)
