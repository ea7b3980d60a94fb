def po_X12_taken_q (τ : Tau)  (a0 : Int32)   (u : Tau) : Prop := Inv u ∧ Fr [(131, 2), (131, 3), (131, 4), (131, 5)] [] τ u ∧ R (0) (0) (u 131 2) ∧ (u 131 3 = τ 131 2) ∧ R (0) (0) (u 131 4) ∧ (u 131 5 = a0)
set_option maxHeartbeats 4000000 in
set_option maxRecDepth 100000 in
theorem c_X12_taken_q (l : Launch) (G : Gx) (τ : Tau) (hI : Inv τ) (a0 : Int32) (h_a0 : R (0) (940) a0) : Cv l G yX12_taken cX12_taken 2 0 0 [.ref (G.2.2.2.1 131), .int a0] τ (po_X12_taken_q τ  a0  ) := by
  unfold Cv
  refine C_of (own := RX12) (by decide) rfl (Nat.le_of_ble_eq_true rfl) ?_
  intro p e s m below meth c ls S hr hlk X hl
  have hl : lv_has ls 2 [(0, .ref (G.2.2.2.1 131)), (1, .int a0)] := hl
  obtain ⟨v1, z2⟩ : ∃ x, τ 131 2 = x := ⟨_, rfl⟩
  have r3 : R (0) (940) v1 := rd hI rfl z2
  refine r_aload_n S dX12_taken_0 rfl (lv_at hl 0 rfl) ?_
  refine r_aload_n S dX12_taken_1 rfl (lv_at hl 0 rfl) ?_
  refine r_geti (K := 38) S X (Nat.le_of_ble_eq_true rfl) rfl lk12_7_10 (fun _ => ⟨_, rfl, rfl⟩) z2 dX12_taken_2 ?_
  refine r_put (K := 38) (ty := .int) S X (Nat.le_of_ble_eq_true rfl) rfl lk12_18_10 (fun _ => ⟨_, rfl, Nat.le_of_ble_eq_true rfl, rfl⟩) (fun _ _ _ h => by cases h; exact ⟨rfl, rfl⟩) rfl rfl dX12_taken_5 (fun t4 H lc M5 X6 => ?_)
  have I7 := Inv_mu hI M5 (show Rg (kd 131) 3 v1 from (R_of (lo := 0) (hi := 940) r3 rfl))
  have F8 : Fr [(131, 2), (131, 3), (131, 4), (131, 5)] [] τ t4 := Fr_mu Fr_rfl M5 (by decide)
  refine r_aload_n S dX12_taken_8 rfl (lv_at hl 0 rfl) ?_
  refine r_iconst S dX12_taken_9 (by decide) (fun v9 z10 => ?_)
  have r11 := R_eq z10
  refine r_put (K := 38) (ty := .int) S X6 (Nat.le_of_ble_eq_true rfl) rfl lk12_7_10 (fun _ => ⟨_, rfl, Nat.le_of_ble_eq_true rfl, rfl⟩) (fun _ _ _ h => by cases h; exact ⟨rfl, rfl⟩) rfl rfl dX12_taken_10 (fun t12 H lc M13 X14 => ?_)
  have I15 := Inv_mu I7 M13 (show Rg (kd 131) 2 v9 from (R_of (lo := 0) (hi := 940) r11 rfl))
  have F16 : Fr [(131, 2), (131, 3), (131, 4), (131, 5)] [] τ t12 := Fr_mu F8 M13 (by decide)
  refine r_aload_n S dX12_taken_13 rfl (lv_at hl 0 rfl) ?_
  refine r_iconst S dX12_taken_14 (by decide) (fun v17 z18 => ?_)
  have r19 := R_eq z18
  refine r_put (K := 38) (ty := .int) S X14 (Nat.le_of_ble_eq_true rfl) rfl lk12_21_10 (fun _ => ⟨_, rfl, Nat.le_of_ble_eq_true rfl, rfl⟩) (fun _ _ _ h => by cases h; exact ⟨rfl, rfl⟩) rfl rfl dX12_taken_15 (fun t20 H lc M21 X22 => ?_)
  have I23 := Inv_mu I15 M21 (show Rg (kd 131) 4 v17 from (R_of (lo := 0) (hi := 940) r19 rfl))
  have F24 : Fr [(131, 2), (131, 3), (131, 4), (131, 5)] [] τ t20 := Fr_mu F16 M21 (by decide)
  refine r_aload_n S dX12_taken_18 rfl (lv_at hl 0 rfl) ?_
  refine r_iload_n S dX12_taken_19 rfl (lv_at hl 1 rfl) ?_
  refine r_put (K := 38) (ty := .int) S X22 (Nat.le_of_ble_eq_true rfl) rfl lk12_24_10 (fun _ => ⟨_, rfl, Nat.le_of_ble_eq_true rfl, rfl⟩) (fun _ _ _ h => by cases h; exact ⟨rfl, rfl⟩) rfl rfl dX12_taken_20 (fun t25 H lc M26 X27 => ?_)
  have I28 := Inv_mu I23 M26 (show Rg (kd 131) 5 a0 from (R_of (lo := 0) (hi := 940) h_a0 rfl))
  have F29 : Fr [(131, 2), (131, 3), (131, 4), (131, 5)] [] τ t25 := Fr_mu F24 M26 (by decide)
  exact r_vret S hr hlk X27 ⟨I28, F29, (by rw [((M26.2 131 2 (Or.inr (by decide))).trans ((M21.2 131 2 (Or.inr (by decide))).trans M13.1))]; exact R_of r11 rfl), (((M26.2 131 3 (Or.inr (by decide))).trans ((M21.2 131 3 (Or.inr (by decide))).trans ((M13.2 131 3 (Or.inr (by decide))).trans M5.1))).trans z2.symm), (by rw [((M26.2 131 4 (Or.inr (by decide))).trans M21.1)]; exact R_of r19 rfl), M26.1⟩ dX12_taken_23
def po_X12_ferry_q (τ : Tau)    (bb : Nat → Int) (nb : Nat) (r : Int32) (u : Tau) : Prop := Inv u ∧ Fr [(131, 0), (131, 15), (131, 16), (131, 4), (131, 11), (131, 12), (131, 13), (131, 14), (131, 2), (131, 3), (131, 5), (131, 18), (131, 19), (131, 20), (131, 21), (131, 24)] [134, 133, 331, 336] τ u ∧ R (0) (0) (u 131 2) ∧ PF u ∧ QG (sFe bb nb) r (u 131 15).toInt ((∀ j, u 133 j = τ 133 j) ∧ NB bb u) (fun f => PLm u f.2 ∧ PLn u f.2)
set_option maxHeartbeats 4000000 in
set_option maxRecDepth 100000 in
theorem c_X12_ferry_q (l : Launch) (G : Gx) (τ : Tau) (hI : Inv τ) (hp_0 : PF τ) (bb : Nat → Int) (nb : Nat) (hB0 : MB0 bb nb τ) (hS : RS τ) (hN : NB bb τ) : Ci l G yX12_ferry cX12_ferry 2 (some .int) 6 131 [.ref (G.2.2.2.1 131)] τ (po_X12_ferry_q τ    bb nb) := by
  unfold Ci
  refine C_of (own := RX12) (by decide) rfl (Nat.le_of_ble_eq_true rfl) ?_
  intro p e s m below meth c ls S hr hlk X hl
  have hl : lv_has ls 2 [(0, .ref (G.2.2.2.1 131))] := hl
  obtain ⟨v1, z2⟩ : ∃ x, τ 131 2 = x := ⟨_, rfl⟩
  have r3 : R (0) (940) v1 := rd hI rfl z2
  refine r_aload_n S dX12_ferry_0 rfl (lv_at hl 0 rfl) ?_
  refine r_iconst S dX12_ferry_1 (by decide) (fun v4 z5 => ?_)
  have r6 := R_eq z5
  refine r_put (K := 38) (ty := .int) S X (Nat.le_of_ble_eq_true rfl) rfl lk12_1_10 (fun _ => ⟨_, rfl, Nat.le_of_ble_eq_true rfl, rfl⟩) (fun _ _ _ h => by cases h; exact ⟨rfl, rfl⟩) rfl rfl dX12_ferry_2 (fun t7 H lc M8 X9 => ?_)
  have I10 := Inv_mu hI M8 (R_any v4)
  have F11 : Fr [(131, 0), (131, 15), (131, 16), (131, 4), (131, 11), (131, 12), (131, 13), (131, 14), (131, 2), (131, 3), (131, 5), (131, 18), (131, 19), (131, 20), (131, 21), (131, 24)] [134, 133, 331, 336] τ t7 := Fr_mu Fr_rfl M8 (by decide)
  refine r_aload_n S dX12_ferry_5 rfl (lv_at hl 0 rfl) ?_
  refine r_sipush S dX12_ferry_6 (by decide) (fun v12 z13 => ?_)
  have r14 := R_eq z13
  refine r_kv (q_V (As := [.int v12]) (rest := []) (K := 38) (ci := 10) S X9 (c_X12_taken_q l G t7 I10 v12 (R_of (lo := 0) (hi := 940) r14 rfl)) ck12_237 (Nat.le_of_ble_eq_true rfl) rfl (fun _ => ⟨_, rfl⟩) ⟨_, _, rfl⟩ ⟨Nat.le_of_ble_eq_true rfl, Nat.le_of_ble_eq_true rfl⟩ rfl hl.1 rfl (Nat.le_of_ble_eq_true rfl) dX12_ferry_9 ⟨Nat.le_refl 0, Nat.le_refl 0⟩) X9 (fun t17 H lc q15 X16 => ?_)
  unfold po_X12_taken_q at q15
  obtain ⟨q18, q19, q20, q21, q22, q23⟩ := q15
  have F24 : Fr [(131, 0), (131, 15), (131, 16), (131, 4), (131, 11), (131, 12), (131, 13), (131, 14), (131, 2), (131, 3), (131, 5), (131, 18), (131, 19), (131, 20), (131, 21), (131, 24)] [134, 133, 331, 336] τ t17 := Fr_call F11 q19 (by decide)
  obtain ⟨v25, z26⟩ : ∃ x, t17 131 2 = x := ⟨_, rfl⟩
  rw [z26] at q20
  obtain ⟨v27, z28⟩ : ∃ x, t17 131 4 = x := ⟨_, rfl⟩
  rw [z28] at q22
  refine r_aload_n S dX12_ferry_12 rfl (lv_at hl 0 rfl) ?_
  refine r_iconst S dX12_ferry_13 (by decide) (fun v29 z30 => ?_)
  have r31 := R_eq z30
  refine r_put (K := 38) (ty := .int) S X16 (Nat.le_of_ble_eq_true rfl) rfl lk12_174_10 (fun _ => ⟨_, rfl, Nat.le_of_ble_eq_true rfl, rfl⟩) (fun _ _ _ h => by cases h; exact ⟨rfl, rfl⟩) rfl rfl dX12_ferry_14 (fun t32 H lc M33 X34 => ?_)
  have I35 := Inv_mu q18 M33 (R_any v29)
  have F36 : Fr [(131, 0), (131, 15), (131, 16), (131, 4), (131, 11), (131, 12), (131, 13), (131, 14), (131, 2), (131, 3), (131, 5), (131, 18), (131, 19), (131, 20), (131, 21), (131, 24)] [134, 133, 331, 336] τ t32 := Fr_mu F24 M33 (by decide)
  refine r_aload_n S dX12_ferry_17 rfl (lv_at hl 0 rfl) ?_
  refine r_iconst S dX12_ferry_18 (by decide) (fun v37 z38 => ?_)
  have r39 := R_eq z38
  refine r_put (K := 38) (ty := .int) S X34 (Nat.le_of_ble_eq_true rfl) rfl lk12_240_10 (fun _ => ⟨_, rfl, Nat.le_of_ble_eq_true rfl, rfl⟩) (fun _ _ _ h => by cases h; exact ⟨rfl, rfl⟩) rfl rfl dX12_ferry_19 (fun t40 H lc M41 X42 => ?_)
  have I43 := Inv_mu I35 M41 (R_any v37)
  have F44 : Fr [(131, 0), (131, 15), (131, 16), (131, 4), (131, 11), (131, 12), (131, 13), (131, 14), (131, 2), (131, 3), (131, 5), (131, 18), (131, 19), (131, 20), (131, 21), (131, 24)] [134, 133, 331, 336] τ t40 := Fr_mu F36 M41 (by decide)
  refine r_aload_n S dX12_ferry_22 rfl (lv_at hl 0 rfl) ?_
  refine r_iconst S dX12_ferry_23 (by decide) (fun v45 z46 => ?_)
  have r47 := R_eq z46
  refine r_put (K := 38) (ty := .int) S X42 (Nat.le_of_ble_eq_true rfl) rfl lk12_218_10 (fun _ => ⟨_, rfl, Nat.le_of_ble_eq_true rfl, rfl⟩) (fun _ _ _ h => by cases h; exact ⟨rfl, rfl⟩) rfl rfl dX12_ferry_24 (fun t48 H lc M49 X50 => ?_)
  have I51 := Inv_mu I43 M49 (R_any v45)
  have F52 : Fr [(131, 0), (131, 15), (131, 16), (131, 4), (131, 11), (131, 12), (131, 13), (131, 14), (131, 2), (131, 3), (131, 5), (131, 18), (131, 19), (131, 20), (131, 21), (131, 24)] [134, 133, 331, 336] τ t48 := Fr_mu F44 M49 (by decide)
  refine r_iconst S dX12_ferry_27 (by decide) (fun v53 z54 => ?_)
  have r55 := R_eq z54
  refine r_istore_n (lv' := [(1, .int v53), (0, .ref (G.2.2.2.1 131))]) S dX12_ferry_28 rfl hl (by decide) rfl (fun ls hl => ?_)
  have L701 : ∀ (n : Nat) (t689 : Tau) (H : Heap) (lc : List Loc) (ls : Array Slot) (i687 : Int32), Xd G s H lc t689 → Inv t689 → Fr [(131, 0), (131, 15), (131, 16), (131, 4), (131, 11), (131, 12), (131, 13), (131, 14), (131, 2), (131, 3), (131, 5), (131, 18), (131, 19), (131, 20), (131, 21), (131, 24)] [134, 133, 331, 336] τ t689 → R (0) (125) i687 → t689 131 0 = v4 → t689 131 2 = v25 → t689 131 3 = v1 → t689 131 4 = v27 → t689 131 5 = v12 → t689 131 15 = v29 → t689 131 19 = v37 → t689 131 20 = v45 → PF t689 → (∀ j : Nat, (j : Int) < (i687).toInt → (t689 134 j).toInt = 0) → (∀ j, t689 133 j = τ 133 j) → (∀ j : Nat, t689 336 j = t48 336 j) → lv_has ls 2 [(0, .ref (G.2.2.2.1 131)), (1, .int i687)] → (125 - i687.toInt).toNat < n → W p l e (Rm 6 131) s m ([.ref (G.2.2.2.1 131)] : List Value).toArray below meth c H lc 0 0 (MQ below (va_Qi (po_X12_ferry_q τ    bb nb) (Bs G) G.2.2.2.2) ([.ref (G.2.2.2.1 131)] : List Value).toArray s 0 0 G.2.2.2.2) (F0 m 29 ls []) := by
    intro n
    induction n with
    | zero => intros; omega
    | succ n ih706 =>
      intro t689 H lc ls i687 X692 I690 F691 r688 z693 z694 z695 z696 z697 z698 z699 z700 x702 x703 x704 kp705 hl hm
      refine r_iload_n S dX12_ferry_29 rfl (lv_at hl 1 rfl) ?_
      refine r_bipush S dX12_ferry_30 (by decide) (fun v707 z708 => ?_)
      have r709 := R_eq z708
      refine r_icmp_ge (tgt := 48) S dX12_ferry_32 (by decide) (fun c710 => ?_) (fun c710 => ?_)
      ·
        have r711 : R (125) (125) i687 := ⟨by omega, by omega⟩
        refine r_aload_n S dX12_ferry_48 rfl (lv_at hl 0 rfl) ?_
        refine r_get (K := 38) (v := .ref (G.2.2.2.1 134)) S X692 (Nat.le_of_ble_eq_true rfl) rfl lk12_37_10 (fun _ => ⟨_, rfl, rfl⟩) dX12_ferry_49 ?_
        refine r_iconst S dX12_ferry_52 (by decide) (fun v712 z713 => ?_)
        have r714 := R_eq z713
        refine r_iconst S dX12_ferry_53 (by decide) (fun v715 z716 => ?_)
        have r717 := R_eq z716
        refine r_ast (n := 125) (K := 41) S X692 (Nat.le_of_ble_eq_true rfl) rfl (fun _ _ => rfl) (ix_of r714 rfl) dX12_ferry_54 (fun t718 H lc M719 X720 => ?_)
        have I721 := Inv_mu I690 M719 (show Rg (kd 134) _ v715 from wrs (K := 41) (a := 2) (n := 1) (R_of r714 rfl) (R_of (lo := 0) (hi := 8) r717 rfl) (by decide +kernel))
        have F722 : Fr [(131, 0), (131, 15), (131, 16), (131, 4), (131, 11), (131, 12), (131, 13), (131, 14), (131, 2), (131, 3), (131, 5), (131, 18), (131, 19), (131, 20), (131, 21), (131, 24)] [134, 133, 331, 336] τ t718 := Fr_cell F691 M719 (by decide)
        have hz723 : ∀ j : Nat, j < 125 → j ≠ 2 → (t718 134 j).toInt = 0 := fun j h1 h2 => by rw [M719.2 134 j (Or.inr (by have c : v712.toNatClampNeg = v712.toInt.toNat := rfl; omega))]; exact x703 j (by omega)
        have h4724 : (t718 134 2).toInt = 4 := by have q := M719.1; rw [show v712.toNatClampNeg = 2 by (have c : v712.toNatClampNeg = v712.toInt.toNat := rfl; omega)] at q; rw [q]; omega
        refine r_aload_n S dX12_ferry_55 rfl (lv_at hl 0 rfl) ?_
        refine r_kv (q_V (As := []) (rest := []) (K := 38) (ci := 10) S X720 (c_X12_skip_q l G t718 I721 bb nb 900 0 ⟨by have q := congrArg Int32.toInt ((M719.2 131 3 (Or.inl (by decide))).trans z695); have q2 := congrArg Int32.toInt z2; have q3 := hB0.1; omega, hB0.2.1, by rw [((M719.2 131 5 (Or.inl (by decide))).trans z697)]; omega, fun j hj => by rw [(fun j => F722 132 j (by simp [fz])) j]; exact hB0.2.2 j hj⟩ (by rw [((M719.2 131 4 (Or.inl (by decide))).trans z696)]; omega) (Nat.zero_le _)) ck12_186 (Nat.le_of_ble_eq_true rfl) rfl (fun _ => ⟨_, rfl⟩) ⟨_, _, rfl⟩ ⟨Nat.le_of_ble_eq_true rfl, Nat.le_of_ble_eq_true rfl⟩ rfl hl.1 rfl (Nat.le_of_ble_eq_true rfl) dX12_ferry_56 ⟨Nat.le_refl 0, Nat.le_refl 0⟩) X720 (fun t727 H lc q725 X726 => ?_)
        unfold po_X12_skip_q at q725
        obtain ⟨q728, q729, q730, q731, q732, q733, q734⟩ := q725
        have F735 : Fr [(131, 0), (131, 15), (131, 16), (131, 4), (131, 11), (131, 12), (131, 13), (131, 14), (131, 2), (131, 3), (131, 5), (131, 18), (131, 19), (131, 20), (131, 21), (131, 24)] [134, 133, 331, 336] τ t727 := Fr_call F722 q729 (by decide)
        obtain ⟨v736, z737⟩ : ∃ x, t727 131 4 = x := ⟨_, rfl⟩
        rw [z737] at q730
        obtain ⟨v738, z739⟩ : ∃ x, t727 131 11 = x := ⟨_, rfl⟩
        rw [z739] at q731
        have e740 := congrArg Int32.toInt ((M719.2 131 4 (Or.inl (by decide))).trans z696)
        have e741 := congrArg Int32.toInt z737
        have e742 := congrArg Int32.toInt ((M719.2 131 4 (Or.inl (by decide))).trans z696)
        have e743 := congrArg Int32.toInt z737
        have e744 := congrArg Int32.toInt z739
        have hR745 : RM bb nb t727 (stp bb nb ((0, 0, 0), ps0)) := ⟨q734, RH_0 (by rw [((q729 131 20 (by decide)).trans ((M719.2 131 20 (Or.inl (by decide))).trans z700))]; omega) (by rw [(((q729 134 2 (by simp [fz])).trans rfl) : t727 134 2 = t718 134 2)]; exact h4724) (fun j h1 h2 => by rw [(((q729 134 j (by simp [fz])).trans rfl) : t727 134 j = t718 134 j)]; exact hz723 j h1 h2), ⟨RS_fr hS (fun j => F735 337 j (by simp [fz])), NB_fr hN (fun j => ((q729 336 j (by simp [fz])).trans ((M719.2 336 j (Or.inl (by decide))).trans ((kp705 j).trans ((M49.2 336 j (Or.inl (by decide))).trans ((M41.2 336 j (Or.inl (by decide))).trans ((M33.2 336 j (Or.inl (by decide))).trans ((q19 336 j (by simp [fz])).trans ((M8.2 336 j (Or.inl (by decide))).trans rfl)))))))))⟩⟩
        have L4517 : ∀ (n : Nat) (t4497 : Tau) (H : Heap) (lc : List Loc) (ls : Array Slot) (f4505 : Int32) (f4508 : Int32) (f4511 : Int32) (f4514 : Int32), Xd G s H lc t4497 → Inv t4497 → Fr [(131, 0), (131, 15), (131, 16), (131, 4), (131, 11), (131, 12), (131, 13), (131, 14), (131, 2), (131, 3), (131, 5), (131, 18), (131, 19), (131, 20), (131, 21), (131, 24)] [134, 133, 331, 336] τ t4497 → t4497 131 0 = v4 → t4497 131 2 = v25 → t4497 131 3 = v1 → t4497 131 5 = v12 → t4497 131 15 = f4505 → R (0) (0) f4505 → t4497 131 19 = f4508 → R (0) (940) f4508 → t4497 131 4 = f4511 → R (0) (940) f4511 → t4497 131 11 = f4514 → R (0) (4) f4514 → PF t4497 → (∃ fc : FS, RM bb nb t4497 fc ∧ sRd bb nb (940 - (f4508).toInt.toNat) fc (f4508).toInt.toNat = sFe bb nb) → (∀ j, t4497 133 j = τ 133 j) → 0 ≤ (f4508).toInt ∧ (f4508).toInt ≤ 939 → (1 ≤ (f4514).toInt ∧ (f4514).toInt ≤ 3 → (f4508).toInt + 1 ≤ (f4511).toInt) → lv_has ls 2 [(0, .ref (G.2.2.2.1 131))] → (940 - f4511.toInt).toNat < n → W p l e (Rm 6 131) s m ([.ref (G.2.2.2.1 131)] : List Value).toArray below meth c H lc 0 0 (MQ below (va_Qi (po_X12_ferry_q τ    bb nb) (Bs G) G.2.2.2.2) ([.ref (G.2.2.2.1 131)] : List Value).toArray s 0 0 G.2.2.2.2) (F0 m 59 ls []) := by
          intro n
          induction n with
          | zero => intros; omega
          | succ n ih4523 =>
            intro t4497 H lc ls f4505 f4508 f4511 f4514 X4500 I4498 F4499 z4501 z4502 z4503 z4504 z4507 r4506 z4510 r4509 z4513 r4512 z4516 r4515 x4518 x4519 x4520 x4521 x4522 hl hm
            obtain ⟨fc4524, hR4525, he4526⟩ := x4519
            have r4527 : R (0) (939) f4508 := ⟨by omega, by omega⟩
            refine r_aload_n S dX12_ferry_59 rfl (lv_at hl 0 rfl) ?_
            refine r_geti (K := 38) S X4500 (Nat.le_of_ble_eq_true rfl) rfl lk12_157_10 (fun _ => ⟨_, rfl, rfl⟩) z4516 dX12_ferry_60 ?_
            refine r_if_eq (tgt := 102) S dX12_ferry_63 (by decide) (fun c4528 => ?_) (fun c4528 => ?_)
            ·
              have r4529 : R (0) (0) f4514 := ⟨by omega, by omega⟩
              refine r_iconst S dX12_ferry_102 (by decide) (fun v4530 z4531 => ?_)
              have r4532 := R_eq z4531
              refine r_istore_n (lv' := [(1, .int v4530), (0, .ref (G.2.2.2.1 131))]) S dX12_ferry_103 rfl hl (by decide) rfl (fun ls hl => ?_)
              have L5794 : ∀ (n : Nat) (t5782 : Tau) (H : Heap) (lc : List Loc) (ls : Array Slot) (i5780 : Int32), Xd G s H lc t5782 → Inv t5782 → Fr [(131, 0), (131, 15), (131, 16), (131, 4), (131, 11), (131, 12), (131, 13), (131, 14), (131, 2), (131, 3), (131, 5), (131, 18), (131, 19), (131, 20), (131, 21), (131, 24)] [134, 133, 331, 336] τ t5782 → R (0) (513) i5780 → t5782 131 0 = v4 → t5782 131 2 = v25 → t5782 131 3 = v1 → t5782 131 5 = v12 → t5782 131 15 = f4505 → t5782 131 19 = f4508 → t5782 131 4 = f4511 → t5782 131 11 = f4514 → (332 < i5780.toInt → (t5782 133 332).toInt = 0) → (∀ j : Nat, (j : Int) < (i5780).toInt → j < 5 → t5782 133 j = t4497 134 j) → (∀ j : Nat, t5782 134 j = t4497 134 j) → (∀ j : Nat, t5782 336 j = t4497 336 j) → lv_has ls 2 [(0, .ref (G.2.2.2.1 131)), (1, .int i5780)] → (513 - i5780.toInt).toNat < n → W p l e (Rm 6 131) s m ([.ref (G.2.2.2.1 131)] : List Value).toArray below meth c H lc 0 0 (MQ below (va_Qi (po_X12_ferry_q τ    bb nb) (Bs G) G.2.2.2.2) ([.ref (G.2.2.2.1 131)] : List Value).toArray s 0 0 G.2.2.2.2) (F0 m 104 ls []) := by
                intro n
                induction n with
                | zero => intros; omega
                | succ n ih5799 =>
                  intro t5782 H lc ls i5780 X5785 I5783 F5784 r5781 z5786 z5787 z5788 z5789 z5790 z5791 z5792 z5793 x5795 x5796 kp5797 kp5798 hl hm
                  refine r_iload_n S dX12_ferry_104 rfl (lv_at hl 1 rfl) ?_
                  refine r_sipush S dX12_ferry_105 (by decide) (fun v5800 z5801 => ?_)
                  have r5802 := R_eq z5801
                  refine r_icmp_ge (tgt := 139) S dX12_ferry_108 (by decide) (fun c5803 => ?_) (fun c5803 => ?_)
                  ·
                    have r5804 : R (513) (513) i5780 := ⟨by omega, by omega⟩
                    refine r_iconst S dX12_ferry_139 (by decide) (fun v5805 z5806 => ?_)
                    have r5807 := R_eq z5806
                    refine r_istore_n (lv' := [(1, .int v5805), (0, .ref (G.2.2.2.1 131))]) S dX12_ferry_140 rfl hl (by decide) rfl (fun ls hl => ?_)
                    have L6155 : ∀ (n : Nat) (t6143 : Tau) (H : Heap) (lc : List Loc) (ls : Array Slot) (i6141 : Int32), Xd G s H lc t6143 → Inv t6143 → Fr [(131, 0), (131, 15), (131, 16), (131, 4), (131, 11), (131, 12), (131, 13), (131, 14), (131, 2), (131, 3), (131, 5), (131, 18), (131, 19), (131, 20), (131, 21), (131, 24)] [134, 133, 331, 336] τ t6143 → R (0) (19) i6141 → t6143 131 0 = v4 → t6143 131 2 = v25 → t6143 131 3 = v1 → t6143 131 5 = v12 → t6143 131 15 = f4505 → t6143 131 19 = f4508 → t6143 131 4 = f4511 → t6143 131 11 = f4514 → (∀ i : Nat, (i : Int) < (i6141).toInt → qof t6143 136 i = qof t5782 136 (19 + i)) → (∀ i : Nat, 19 ≤ i → qof t6143 136 i = qof t5782 136 i) → (∀ j : Nat, t6143 133 j = t5782 133 j) → (∀ j : Nat, t6143 134 j = t5782 134 j) → lv_has ls 2 [(0, .ref (G.2.2.2.1 131)), (1, .int i6141)] → (19 - i6141.toInt).toNat < n → W p l e (Rm 6 131) s m ([.ref (G.2.2.2.1 131)] : List Value).toArray below meth c H lc 0 0 (MQ below (va_Qi (po_X12_ferry_q τ    bb nb) (Bs G) G.2.2.2.2) ([.ref (G.2.2.2.1 131)] : List Value).toArray s 0 0 G.2.2.2.2) (F0 m 141 ls []) := by
                      intro n
                      induction n with
                      | zero => intros; omega
                      | succ n ih6160 =>
                        intro t6143 H lc ls i6141 X6146 I6144 F6145 r6142 z6147 z6148 z6149 z6150 z6151 z6152 z6153 z6154 x6156 x6157 kp6158 kp6159 hl hm
                        refine r_iload_n S dX12_ferry_141 rfl (lv_at hl 1 rfl) ?_
                        refine r_bipush S dX12_ferry_142 (by decide) (fun v6161 z6162 => ?_)
                        have r6163 := R_eq z6162
                        refine r_icmp_ge (tgt := 168) S dX12_ferry_144 (by decide) (fun c6164 => ?_) (fun c6164 => ?_)
                        ·
                          have r6165 : R (19) (19) i6141 := ⟨by omega, by omega⟩
                          refine r_iconst S dX12_ferry_168 (by decide) (fun v6166 z6167 => ?_)
                          have r6168 := R_eq z6167
                          refine r_istore_n (lv' := [(1, .int v6166), (0, .ref (G.2.2.2.1 131))]) S dX12_ferry_169 rfl hl (by decide) rfl (fun ls hl => ?_)
                          have L6971 : ∀ (n : Nat) (t6959 : Tau) (H : Heap) (lc : List Loc) (ls : Array Slot) (i6957 : Int32), Xd G s H lc t6959 → Inv t6959 → Fr [(131, 0), (131, 15), (131, 16), (131, 4), (131, 11), (131, 12), (131, 13), (131, 14), (131, 2), (131, 3), (131, 5), (131, 18), (131, 19), (131, 20), (131, 21), (131, 24)] [134, 133, 331, 336] τ t6959 → R (0) (90) i6957 → t6959 131 0 = v4 → t6959 131 2 = v25 → t6959 131 3 = v1 → t6959 131 5 = v12 → t6959 131 15 = f4505 → t6959 131 19 = f4508 → t6959 131 4 = f4511 → t6959 131 11 = f4514 → (t6959 133 332).toInt = 0 → (∀ j : Nat, j < 5 → t6959 133 j = t6143 133 j) → (∀ j : Nat, t6959 336 j = t6143 336 j) → lv_has ls 2 [(0, .ref (G.2.2.2.1 131)), (1, .int i6957)] → (90 - i6957.toInt).toNat < n → W p l e (Rm 6 131) s m ([.ref (G.2.2.2.1 131)] : List Value).toArray below meth c H lc 0 0 (MQ below (va_Qi (po_X12_ferry_q τ    bb nb) (Bs G) G.2.2.2.2) ([.ref (G.2.2.2.1 131)] : List Value).toArray s 0 0 G.2.2.2.2) (F0 m 170 ls []) := by
                            intro n
                            induction n with
                            | zero => intros; omega
                            | succ n ih6975 =>
                              intro t6959 H lc ls i6957 X6962 I6960 F6961 r6958 z6963 z6964 z6965 z6966 z6967 z6968 z6969 z6970 x6972 x6973 kp6974 hl hm
                              refine r_iload_n S dX12_ferry_170 rfl (lv_at hl 1 rfl) ?_
                              refine r_bipush S dX12_ferry_171 (by decide) (fun v6976 z6977 => ?_)
                              have r6978 := R_eq z6977
                              refine r_icmp_ge (tgt := 201) S dX12_ferry_173 (by decide) (fun c6979 => ?_) (fun c6979 => ?_)
                              ·
                                have r6980 : R (90) (90) i6957 := ⟨by omega, by omega⟩
                                refine r_aload_n S dX12_ferry_201 rfl (lv_at hl 0 rfl) ?_
                                refine r_iconst S dX12_ferry_202 (by decide) (fun v6981 z6982 => ?_)
                                have r6983 := R_eq z6982
                                refine r_put (K := 38) (ty := .int) S X6962 (Nat.le_of_ble_eq_true rfl) rfl lk12_249_10 (fun _ => ⟨_, rfl, Nat.le_of_ble_eq_true rfl, rfl⟩) (fun _ _ _ h => by cases h; exact ⟨rfl, rfl⟩) rfl rfl dX12_ferry_203 (fun t6984 H lc M6985 X6986 => ?_)
                                have I6987 := Inv_mu I6960 M6985 (show Rg (kd 131) 24 v6981 from (R_of (lo := 0) (hi := 8) r6983 rfl))
                                have F6988 : Fr [(131, 0), (131, 15), (131, 16), (131, 4), (131, 11), (131, 12), (131, 13), (131, 14), (131, 2), (131, 3), (131, 5), (131, 18), (131, 19), (131, 20), (131, 21), (131, 24)] [134, 133, 331, 336] τ t6984 := Fr_mu F6961 M6985 (by decide)
                                refine r_aload_n S dX12_ferry_206 rfl (lv_at hl 0 rfl) ?_
                                refine r_geti (K := 38) S X6986 (Nat.le_of_ble_eq_true rfl) rfl lk12_240_10 (fun _ => ⟨_, rfl, rfl⟩) ((M6985.2 131 19 (Or.inr (by decide))).trans z6968) dX12_ferry_207 ?_
                                exact r_ret S hr hlk X6986 ⟨I6987, F6988, (by rw [((M6985.2 131 2 (Or.inr (by decide))).trans z6964)]; exact R_of q20 rfl), (PF_0 (by rw [((M6985.2 133 332 (Or.inl (by decide))).trans rfl)]; exact x6972)), (QG_r (g := (f4508.toInt.toNat, fc4524)) (by rw [← he4526]; exact sRd_e (by have q := MT_k hR4525.1; rw [z4516] at q; omega)) (by show f4508.toInt = ((f4508.toInt.toNat : Nat) : Int); omega) (by have q := congrArg Int32.toInt ((M6985.2 131 15 (Or.inr (by decide))).trans z6967); omega) ⟨PLm_of hR4525.2.1 (fun j hj => ((((M6985.2 133 j (Or.inl (by decide))).trans rfl) : t6984 133 j = t6959 133 j).trans (x6973 j hj)).trans ((((kp6158 j).trans rfl) : t6143 133 j = t5782 133 j).trans (x5796 j (by omega) hj))), PLn_of (PLm_of hR4525.2.1 (fun j hj => ((((M6985.2 133 j (Or.inl (by decide))).trans rfl) : t6984 133 j = t6959 133 j).trans (x6973 j hj)).trans ((((kp6158 j).trans rfl) : t6143 133 j = t5782 133 j).trans (x5796 j (by omega) hj)))) hR4525.2.1 (rd (K := 41) I4498 rfl rfl) (rd (K := 41) I4498 rfl rfl) (fun i hi => ((qof_of (k := 136) (fun j => ((M6985.2 336 j (Or.inl (by decide))).trans ((kp6974 j).trans rfl))) i).trans (x6156 i (by omega))).trans (qof_of (k := 136) (fun j => ((kp5798 j).trans rfl)) _))⟩)⟩ rfl dX12_ferry_210
                              ·
                                have r6989 : R (0) (89) i6957 := ⟨by omega, by omega⟩
                                refine r_aload_n S dX12_ferry_176 rfl (lv_at hl 0 rfl) ?_
                                refine r_get (K := 38) (v := .ref (G.2.2.2.1 133)) S X6962 (Nat.le_of_ble_eq_true rfl) rfl lk12_33_10 (fun _ => ⟨_, rfl, rfl⟩) dX12_ferry_177 ?_
                                refine r_sipush S dX12_ferry_180 (by decide) (fun v6990 z6991 => ?_)
                                have r6992 := R_eq z6991
                                refine r_iload_n S dX12_ferry_183 rfl (lv_at hl 1 rfl) ?_
                                refine r_iadd S dX12_ferry_184 (fun v6993 z6994 => ?_)
                                obtain ⟨e6995, r6996⟩ := i_add (lo := 142) (hi := 231) z6994 r6992 r6989 rfl
                                refine r_aload_n S dX12_ferry_185 rfl (lv_at hl 0 rfl) ?_
                                refine r_get (K := 38) (v := .ref (G.2.2.2.1 133)) S X6962 (Nat.le_of_ble_eq_true rfl) rfl lk12_33_10 (fun _ => ⟨_, rfl, rfl⟩) dX12_ferry_186 ?_
                                refine r_bipush S dX12_ferry_189 (by decide) (fun v6997 z6998 => ?_)
                                have r6999 := R_eq z6998
                                refine r_iload_n S dX12_ferry_191 rfl (lv_at hl 1 rfl) ?_
                                refine r_iadd S dX12_ferry_192 (fun v7000 z7001 => ?_)
                                obtain ⟨e7002, r7003⟩ := i_add (lo := 15) (hi := 104) z7001 r6999 r6989 rfl
                                refine r_aldn (n := 513) (K := 40) S X6962 (Nat.le_of_ble_eq_true rfl) rfl (fun _ => rfl) (ix_of r7003 rfl) dX12_ferry_193 (fun v7004 z7005 => ?_)
                                have r7006 : R (-9) (9) v7004 := rds (K := 40) (a := 15) (n := 90) I6960 rfl z7005 (R_of r7003 rfl) (by decide +kernel)
                                have g7007 : Rg 40 v7000.toNatClampNeg v7004 := rd I6960 rfl z7005
                                refine r_ast (n := 513) (K := 40) S X6962 (Nat.le_of_ble_eq_true rfl) rfl (fun _ _ => rfl) (ix_of r6996 rfl) dX12_ferry_194 (fun t7008 H lc M7009 X7010 => ?_)
                                have I7011 := Inv_mu I6960 M7009 (show Rg (kd 133) _ v7004 from wrs (K := 40) (a := 142) (n := 90) (R_of r6996 rfl) (R_of (lo := -9) (hi := 9) r7006 rfl) (by decide +kernel))
                                have F7012 : Fr [(131, 0), (131, 15), (131, 16), (131, 4), (131, 11), (131, 12), (131, 13), (131, 14), (131, 2), (131, 3), (131, 5), (131, 18), (131, 19), (131, 20), (131, 21), (131, 24)] [134, 133, 331, 336] τ t7008 := Fr_cell F6961 M7009 (by decide)
                                refine r_iinc (k := 1) S dX12_ferry_195 hl rfl (by decide) (by decide) (fun v7013 d7014 ls z7015 z7016 hl => ?_)
                                obtain ⟨e7017, r7018⟩ := i_add (lo := 1) (hi := 90) z7015 r6989 (R_eq z7016) rfl
                                have hl : lv_has ls 2 [(1, .int v7013), (0, .ref (G.2.2.2.1 131))] := hl
                                refine r_goto (tgt := 170) S dX12_ferry_198 (by decide) ?_
                                exact ih6975 t7008 _ _ _ v7013 X7010 I7011 F7012 (R_of r7018 rfl) ((M7009.2 131 0 (Or.inl (by decide))).trans z6963) ((M7009.2 131 2 (Or.inl (by decide))).trans z6964) ((M7009.2 131 3 (Or.inl (by decide))).trans z6965) ((M7009.2 131 5 (Or.inl (by decide))).trans z6966) ((M7009.2 131 15 (Or.inl (by decide))).trans z6967) ((M7009.2 131 19 (Or.inl (by decide))).trans z6968) ((M7009.2 131 4 (Or.inl (by decide))).trans z6969) ((M7009.2 131 11 (Or.inl (by decide))).trans z6970) (by rw [M7009.2 133 332 (Or.inr (by have q := tn (i := v6993) (by omega); omega))]; exact x6972) (fun j hj => (M7009.2 133 j (Or.inr (by have c : v6993.toNatClampNeg = v6993.toInt.toNat := rfl; omega))).trans (x6973 j hj)) (fun j => ((M7009.2 336 j (Or.inl (by decide))).trans ((kp6974 j).trans rfl))) (lv_sub hl [1, 0] rfl) (by omega)
                          exact L6971 _ t6143 _ _ _ v6166 X6146 I6144 F6145 (R_of r6168 rfl) z6147 z6148 z6149 z6150 z6151 z6152 z6153 z6154 (by rw [((kp6158 332).trans rfl)]; exact x5795 (by omega)) (fun j _ => rfl) (fun j => rfl) (lv_sub hl [1, 0] rfl) (Nat.lt_succ_self _)
                        ·
                          have r7019 : R (0) (18) i6141 := ⟨by omega, by omega⟩
                          refine r_aload_n S dX12_ferry_147 rfl (lv_at hl 0 rfl) ?_
                          refine r_get (K := 38) (v := .ref (G.2.2.2.1 136)) S X6146 (Nat.le_of_ble_eq_true rfl) rfl lk12_43_10 (fun _ => ⟨_, rfl, rfl⟩) dX12_ferry_148 ?_
                          refine r_iload_n S dX12_ferry_151 rfl (lv_at hl 1 rfl) ?_
                          refine r_aload_n S dX12_ferry_152 rfl (lv_at hl 0 rfl) ?_
                          refine r_get (K := 38) (v := .ref (G.2.2.2.1 136)) S X6146 (Nat.le_of_ble_eq_true rfl) rfl lk12_43_10 (fun _ => ⟨_, rfl, rfl⟩) dX12_ferry_153 ?_
                          refine r_bipush S dX12_ferry_156 (by decide) (fun v7020 z7021 => ?_)
                          have r7022 := R_eq z7021
                          refine r_iload_n S dX12_ferry_158 rfl (lv_at hl 1 rfl) ?_
                          refine r_iadd S dX12_ferry_159 (fun v7023 z7024 => ?_)
                          obtain ⟨e7025, r7026⟩ := i_add (lo := 19) (hi := 37) z7024 r7022 r7019 rfl
                          refine r_lald (n := 38) (K := 43) S X6146 (Nat.le_of_ble_eq_true rfl) rfl (fun _ => rfl) (ix_of r7026 rfl) dX12_ferry_160 (fun j7027 z7028 => ?_)
                          refine r_last (n := 38) (K := 43) S X6146 (Nat.le_of_ble_eq_true rfl) rfl (fun _ => rfl) (ix_of r7019 rfl) dX12_ferry_161 (fun t7030 H lc M7031 X7029 => ?_)
                          have I7032 := Inv_ml I6144 M7031
                          have F7033 : Fr [(131, 0), (131, 15), (131, 16), (131, 4), (131, 11), (131, 12), (131, 13), (131, 14), (131, 2), (131, 3), (131, 5), (131, 18), (131, 19), (131, 20), (131, 21), (131, 24)] [134, 133, 331, 336] τ t7030 := Fr_ml F6145 M7031 (by decide)
                          refine r_iinc (k := 1) S dX12_ferry_162 hl rfl (by decide) (by decide) (fun v7034 d7035 ls z7036 z7037 hl => ?_)
                          obtain ⟨e7038, r7039⟩ := i_add (lo := 1) (hi := 19) z7036 r7019 (R_eq z7037) rfl
                          have hl : lv_has ls 2 [(1, .int v7034), (0, .ref (G.2.2.2.1 131))] := hl
                          refine r_goto (tgt := 141) S dX12_ferry_165 (by decide) ?_
                          exact ih6160 t7030 _ _ _ v7034 X7029 I7032 F7033 (R_of r7039 rfl) ((M7031.1 131 (by decide) 0).trans z6147) ((M7031.1 131 (by decide) 2).trans z6148) ((M7031.1 131 (by decide) 3).trans z6149) ((M7031.1 131 (by decide) 5).trans z6150) ((M7031.1 131 (by decide) 15).trans z6151) ((M7031.1 131 (by decide) 19).trans z6152) ((M7031.1 131 (by decide) 4).trans z6153) ((M7031.1 131 (by decide) 11).trans z6154) (cpn_up x6156 x6157 M7031 z7028 (show v7023.toInt = 19 + i6141.toInt by omega) ⟨by omega, by omega⟩ (by omega)) (cpn_hi x6157 M7031 ⟨by omega, by omega⟩) (fun j => ((M7031.1 133 (by decide) j).trans ((kp6158 j).trans rfl))) (fun j => ((M7031.1 134 (by decide) j).trans ((kp6159 j).trans rfl))) (lv_sub hl [1, 0] rfl) (by omega)
                    exact L6155 _ t5782 _ _ _ v5805 X5785 I5783 F5784 (R_of r5807 rfl) z5786 z5787 z5788 z5789 z5790 z5791 z5792 z5793 (fun i hi => by exfalso; omega) (fun i _ => rfl) (fun j => rfl) (fun j => rfl) (lv_sub hl [1, 0] rfl) (Nat.lt_succ_self _)
                  ·
                    have r7040 : R (0) (512) i5780 := ⟨by omega, by omega⟩
                    refine r_aload_n S dX12_ferry_111 rfl (lv_at hl 0 rfl) ?_
                    refine r_get (K := 38) (v := .ref (G.2.2.2.1 133)) S X5785 (Nat.le_of_ble_eq_true rfl) rfl lk12_33_10 (fun _ => ⟨_, rfl, rfl⟩) dX12_ferry_112 ?_
                    refine r_iload_n S dX12_ferry_115 rfl (lv_at hl 1 rfl) ?_
                    refine r_iload_n S dX12_ferry_116 rfl (lv_at hl 1 rfl) ?_
                    refine r_bipush S dX12_ferry_117 (by decide) (fun v7041 z7042 => ?_)
                    have r7043 := R_eq z7042
                    refine r_icmp_ge (tgt := 131) S dX12_ferry_119 (by decide) (fun c7044 => ?_) (fun c7044 => ?_)
                    ·
                      have r7045 : R (125) (512) i5780 := ⟨by omega, by omega⟩
                      refine r_iconst S dX12_ferry_131 (by decide) (fun v7046 z7047 => ?_)
                      have r7048 := R_eq z7047
                      refine r_ast (n := 513) (K := 40) S X5785 (Nat.le_of_ble_eq_true rfl) rfl (fun _ _ => rfl) (ix_of r7045 rfl) dX12_ferry_132 (fun t7049 H lc M7050 X7051 => ?_)
                      have I7052 := Inv_mu I5783 M7050 (show Rg (kd 133) _ v7046 from wrs (K := 40) (a := 125) (n := 388) (R_of r7045 rfl) (R_of (lo := 0) (hi := 1) r7048 rfl) (by decide +kernel))
                      have F7053 : Fr [(131, 0), (131, 15), (131, 16), (131, 4), (131, 11), (131, 12), (131, 13), (131, 14), (131, 2), (131, 3), (131, 5), (131, 18), (131, 19), (131, 20), (131, 21), (131, 24)] [134, 133, 331, 336] τ t7049 := Fr_cell F5784 M7050 (by decide)
                      refine r_iinc (k := 1) S dX12_ferry_133 hl rfl (by decide) (by decide) (fun v7054 d7055 ls z7056 z7057 hl => ?_)
                      obtain ⟨e7058, r7059⟩ := i_add (lo := 126) (hi := 513) z7056 r7045 (R_eq z7057) rfl
                      have hl : lv_has ls 2 [(1, .int v7054), (0, .ref (G.2.2.2.1 131))] := hl
                      refine r_goto (tgt := 104) S dX12_ferry_136 (by decide) ?_
                      exact ih5799 t7049 _ _ _ v7054 X7051 I7052 F7053 (R_of r7059 rfl) ((M7050.2 131 0 (Or.inl (by decide))).trans z5786) ((M7050.2 131 2 (Or.inl (by decide))).trans z5787) ((M7050.2 131 3 (Or.inl (by decide))).trans z5788) ((M7050.2 131 5 (Or.inl (by decide))).trans z5789) ((M7050.2 131 15 (Or.inl (by decide))).trans z5790) ((M7050.2 131 19 (Or.inl (by decide))).trans z5791) ((M7050.2 131 4 (Or.inl (by decide))).trans z5792) ((M7050.2 131 11 (Or.inl (by decide))).trans z5793) (f332_step x5795 M7050 (by omega) (by omega) (by omega)) (copy5 (i := i5780) x5796 M7050 (fun h => by exfalso; omega) (by omega) (by omega)) (fun j => ((M7050.2 134 j (Or.inl (by decide))).trans ((kp5797 j).trans rfl))) (fun j => ((M7050.2 336 j (Or.inl (by decide))).trans ((kp5798 j).trans rfl))) (lv_sub hl [1, 0] rfl) (by omega)
                    ·
                      have r7060 : R (0) (124) i5780 := ⟨by omega, by omega⟩
                      refine r_aload_n S dX12_ferry_122 rfl (lv_at hl 0 rfl) ?_
                      refine r_get (K := 38) (v := .ref (G.2.2.2.1 134)) S X5785 (Nat.le_of_ble_eq_true rfl) rfl lk12_37_10 (fun _ => ⟨_, rfl, rfl⟩) dX12_ferry_123 ?_
                      refine r_iload_n S dX12_ferry_126 rfl (lv_at hl 1 rfl) ?_
                      refine r_aldn (n := 125) (K := 41) S X5785 (Nat.le_of_ble_eq_true rfl) rfl (fun _ => rfl) (ix_of r7060 rfl) dX12_ferry_127 (fun v7061 z7062 => ?_)
                      have r7064 := R_any v7061
                      have g7065 : Rg 41 i5780.toNatClampNeg v7061 := rd I5783 rfl z7062
                      refine r_goto (tgt := 132) S dX12_ferry_128 (by decide) ?_
                      refine r_ast (n := 513) (K := 40) S X5785 (Nat.le_of_ble_eq_true rfl) rfl (fun _ _ => rfl) (ix_of r7060 rfl) dX12_ferry_132 (fun t7066 H lc M7067 X7068 => ?_)
                      have I7069 := Inv_mu I5783 M7067 (show Rg (kd 133) _ v7061 from seg_c (K := 40) (K2 := 41) (a := 0) (b := 0) (n := 125) g7065 (R_of r7060 rfl) (by omega) (by decide +kernel))
                      have F7070 : Fr [(131, 0), (131, 15), (131, 16), (131, 4), (131, 11), (131, 12), (131, 13), (131, 14), (131, 2), (131, 3), (131, 5), (131, 18), (131, 19), (131, 20), (131, 21), (131, 24)] [134, 133, 331, 336] τ t7066 := Fr_cell F5784 M7067 (by decide)
                      refine r_iinc (k := 1) S dX12_ferry_133 hl rfl (by decide) (by decide) (fun v7071 d7072 ls z7073 z7074 hl => ?_)
                      obtain ⟨e7075, r7076⟩ := i_add (lo := 1) (hi := 125) z7073 r7060 (R_eq z7074) rfl
                      have hl : lv_has ls 2 [(1, .int v7071), (0, .ref (G.2.2.2.1 131))] := hl
                      refine r_goto (tgt := 104) S dX12_ferry_136 (by decide) ?_
                      exact ih5799 t7066 _ _ _ v7071 X7068 I7069 F7070 (R_of r7076 rfl) ((M7067.2 131 0 (Or.inl (by decide))).trans z5786) ((M7067.2 131 2 (Or.inl (by decide))).trans z5787) ((M7067.2 131 3 (Or.inl (by decide))).trans z5788) ((M7067.2 131 5 (Or.inl (by decide))).trans z5789) ((M7067.2 131 15 (Or.inl (by decide))).trans z5790) ((M7067.2 131 19 (Or.inl (by decide))).trans z5791) ((M7067.2 131 4 (Or.inl (by decide))).trans z5792) ((M7067.2 131 11 (Or.inl (by decide))).trans z5793) (f332_step x5795 M7067 (by omega) (by omega) (by omega)) (copy5 (i := i5780) x5796 M7067 (fun _ => (((kp5797 i5780.toNatClampNeg).trans rfl) : t5782 134 i5780.toNatClampNeg = t4497 134 i5780.toNatClampNeg).symm.trans z7062) (by omega) (by omega)) (fun j => ((M7067.2 134 j (Or.inl (by decide))).trans ((kp5797 j).trans rfl))) (fun j => ((M7067.2 336 j (Or.inl (by decide))).trans ((kp5798 j).trans rfl))) (lv_sub hl [1, 0] rfl) (by omega)
              exact L5794 _ t4497 _ _ _ v4530 X4500 I4498 F4499 (R_of r4532 rfl) z4501 z4502 z4503 z4504 z4507 z4510 z4513 z4516 (fun h => by exfalso; omega) (fun j h1 h2 => by exfalso; omega) (fun j => rfl) (fun j => rfl) (lv_sub hl [1, 0] rfl) (Nat.lt_succ_self _)
            ·
              have r7077 : R (1) (4) f4514 := ⟨by omega, by omega⟩
              refine r_aload_n S dX12_ferry_66 rfl (lv_at hl 0 rfl) ?_
              refine r_ki (q_V (As := []) (rest := []) (K := 38) (ci := 10) S X4500 (c_X12_line_q l G t4497 I4498 (by rw [z4507]; exact R_of r4506 rfl) bb nb fc4524 hR4525 ) ck12_243 (Nat.le_of_ble_eq_true rfl) rfl (fun _ => ⟨_, rfl⟩) ⟨_, _, rfl⟩ ⟨Nat.le_of_ble_eq_true rfl, Nat.le_of_ble_eq_true rfl⟩ rfl hl.1 rfl (Nat.le_of_ble_eq_true rfl) dX12_ferry_67 ⟨Nat.le_refl 0, Nat.le_refl 0⟩) X4500 (fun v7081 t7080 H lc q7078 X7079 => ?_)
              unfold po_X12_line_q at q7078
              obtain ⟨q7082, q7083, q7084, q7085, q7086, q7087, q7088, q7089, q7090, q7091⟩ := q7078
              have F7092 : Fr [(131, 0), (131, 15), (131, 16), (131, 4), (131, 11), (131, 12), (131, 13), (131, 14), (131, 2), (131, 3), (131, 5), (131, 18), (131, 19), (131, 20), (131, 21), (131, 24)] [134, 133, 331, 336] τ t7080 := Fr_call F4499 q7083 (by decide)
              obtain ⟨v7093, z7094⟩ : ∃ x, t7080 131 4 = x := ⟨_, rfl⟩
              rw [z7094] at q7086
              obtain ⟨v7095, z7096⟩ : ∃ x, t7080 131 11 = x := ⟨_, rfl⟩
              rw [z7096] at q7087
              have e7097 := congrArg Int32.toInt z4513
              have e7098 := congrArg Int32.toInt z7094
              have e7099 := congrArg Int32.toInt z4513
              have e7100 := congrArg Int32.toInt z7094
              refine r_if_eq (tgt := 82) S dX12_ferry_70 (by decide) (fun c7101 => ?_) (fun c7101 => ?_)
              ·
                have r7102 : R (0) (0) v7081 := ⟨by omega, by omega⟩
                have p7103 := (QM_0 q7091) (by omega)
                obtain ⟨q7104, e7105, h7106, h7107⟩ := p7103
                refine r_iconst S dX12_ferry_82 (by decide) (fun v7108 z7109 => ?_)
                have r7110 := R_eq z7109
                refine r_aload_n S dX12_ferry_83 rfl (lv_at hl 0 rfl) ?_
                refine r_getn (K := 38) S X7079 (Nat.le_of_ble_eq_true rfl) rfl lk12_177_10 (fun _ => ⟨_, rfl, rfl⟩) dX12_ferry_84 (fun v7111 z7112 => ?_)
                have r7114 := R_any v7111
                refine r_isub S dX12_ferry_87 (fun v7115 z7116 => ?_)
                obtain ⟨e7117, r7118⟩ := i_sub (lo := -2147483648) (hi := 2147483647) z7116 r7110 r7114 rfl
                exact r_ret S hr hlk X7079 ⟨q7082, F7092, (by rw [((q7083 131 2 (by decide)).trans z4502)]; exact R_of q20 rfl), (PF_eq x4518 (fun j _ => ((q7083 133 j (by simp [fz])).trans rfl))), (QG_l (by rw [← he4526, show 940 - f4508.toInt.toNat = (939 - f4508.toInt.toNat) + 1 by omega]; exact sRd_l1 (fun h => by have q := MT_k hR4525.1; rw [z4516] at q; omega) e7105) (by have q1 := h7107; have q2 := congrArg Int32.toInt z7112; omega) h7106 ⟨(fun j => (((q7083 133 j (by simp [fz])).trans rfl) : t7080 133 j = t4497 133 j).trans (x4520 j)), q7090⟩)⟩ rfl dX12_ferry_88
              ·
                have r7119 : R (1) (1) v7081 := ⟨by omega, by omega⟩
                have p7120 := q7085 (by omega)
                obtain ⟨v7121, z7122⟩ : ∃ x, t7080 131 15 = x := ⟨_, rfl⟩
                rw [z7122] at p7120
                have p7123 := (QM_1 q7091) (by omega)
                obtain ⟨g7124, e7125, hP7126⟩ := p7123
                have e7127 : f4514.toInt = 1 := by have q := MT_k hR4525.1; rw [z4516] at q; have q2 := sSeats_w e7125; omega
                refine r_aload_n S dX12_ferry_73 rfl (lv_at hl 0 rfl) ?_
                refine r_bipush S dX12_ferry_74 (by decide) (fun v7128 z7129 => ?_)
                have r7130 := R_eq z7129
                refine r_ki (q_V (As := [.int v7128]) (rest := []) (K := 38) (ci := 10) S X7079 (c_X12_sign_q l G t7080 q7082 v7128 r7130 (by rw [z7122]; exact R_of p7120 rfl) bb nb g7124 hP7126 ) ck12_246 (Nat.le_of_ble_eq_true rfl) rfl (fun _ => ⟨_, rfl⟩) ⟨_, _, rfl⟩ ⟨Nat.le_of_ble_eq_true rfl, Nat.le_of_ble_eq_true rfl⟩ rfl hl.1 rfl (Nat.le_of_ble_eq_true rfl) dX12_ferry_76 ⟨Nat.le_refl 0, Nat.le_refl 0⟩) X7079 (fun v7134 t7133 H lc q7131 X7132 => ?_)
                unfold po_X12_sign_q at q7131
                obtain ⟨q7135, q7136, q7137, q7138, q7139, q7140, q7141, q7142, q7143⟩ := q7131
                have F7144 : Fr [(131, 0), (131, 15), (131, 16), (131, 4), (131, 11), (131, 12), (131, 13), (131, 14), (131, 2), (131, 3), (131, 5), (131, 18), (131, 19), (131, 20), (131, 21), (131, 24)] [134, 133, 331, 336] τ t7133 := Fr_call F7092 q7136 (by decide)
                obtain ⟨v7145, z7146⟩ : ∃ x, t7133 131 4 = x := ⟨_, rfl⟩
                rw [z7146] at q7139
                obtain ⟨v7147, z7148⟩ : ∃ x, t7133 131 11 = x := ⟨_, rfl⟩
                rw [z7148] at q7140
                have e7149 := congrArg Int32.toInt z7094
                have e7150 := congrArg Int32.toInt z7146
                have e7151 := congrArg Int32.toInt z7096
                have e7152 := congrArg Int32.toInt z7148
                refine r_if_ne (tgt := 89) S dX12_ferry_79 (by decide) (fun c7153 => ?_) (fun c7153 => ?_)
                ·
                  have r7154 : R (1) (1) v7134 := ⟨by omega, by omega⟩
                  have p7155 := q7138 (by omega)
                  obtain ⟨v7156, z7157⟩ : ∃ x, t7133 131 15 = x := ⟨_, rfl⟩
                  rw [z7157] at p7155
                  have p7158 := (QM_1 q7143) (by omega)
                  obtain ⟨g7159, e7160, hP7161⟩ := p7158
                  refine r_aload_n S dX12_ferry_89 rfl (lv_at hl 0 rfl) ?_
                  refine r_dup S dX12_ferry_90 rfl ?_
                  refine r_geti (K := 38) S X7132 (Nat.le_of_ble_eq_true rfl) rfl lk12_240_10 (fun _ => ⟨_, rfl, rfl⟩) ((q7136 131 19 (by decide)).trans ((q7083 131 19 (by decide)).trans z4510)) dX12_ferry_91 ?_
                  refine r_iconst S dX12_ferry_94 (by decide) (fun v7162 z7163 => ?_)
                  have r7164 := R_eq z7163
                  refine r_iadd S dX12_ferry_95 (fun v7165 z7166 => ?_)
                  obtain ⟨e7167, r7168⟩ := i_add (lo := 1) (hi := 940) z7166 r4527 r7164 rfl
                  refine r_put (K := 38) (ty := .int) S X7132 (Nat.le_of_ble_eq_true rfl) rfl lk12_240_10 (fun _ => ⟨_, rfl, Nat.le_of_ble_eq_true rfl, rfl⟩) (fun _ _ _ h => by cases h; exact ⟨rfl, rfl⟩) rfl rfl dX12_ferry_96 (fun t7169 H lc M7170 X7171 => ?_)
                  have I7172 := Inv_mu q7135 M7170 (R_any v7165)
                  have F7173 : Fr [(131, 0), (131, 15), (131, 16), (131, 4), (131, 11), (131, 12), (131, 13), (131, 14), (131, 2), (131, 3), (131, 5), (131, 18), (131, 19), (131, 20), (131, 21), (131, 24)] [134, 133, 331, 336] τ t7169 := Fr_mu F7144 M7170 (by decide)
                  refine r_goto (tgt := 59) S dX12_ferry_99 (by decide) ?_
                  exact ih4523 t7169 _ _ _ v7156 v7165 v7145 v7147 X7171 I7172 F7173 ((M7170.2 131 0 (Or.inr (by decide))).trans ((q7136 131 0 (by decide)).trans ((q7083 131 0 (by decide)).trans z4501))) ((M7170.2 131 2 (Or.inr (by decide))).trans ((q7136 131 2 (by decide)).trans ((q7083 131 2 (by decide)).trans z4502))) ((M7170.2 131 3 (Or.inr (by decide))).trans ((q7136 131 3 (by decide)).trans ((q7083 131 3 (by decide)).trans z4503))) ((M7170.2 131 5 (Or.inr (by decide))).trans ((q7136 131 5 (by decide)).trans ((q7083 131 5 (by decide)).trans z4504))) ((M7170.2 131 15 (Or.inr (by decide))).trans z7157) ⟨by omega, by omega⟩ M7170.1 ⟨by omega, by omega⟩ ((M7170.2 131 4 (Or.inr (by decide))).trans z7146) ⟨by omega, by omega⟩ ((M7170.2 131 11 (Or.inr (by decide))).trans z7148) ⟨by omega, by omega⟩ (PF_eq x4518 (fun j _ => ((M7170.2 133 j (Or.inl (by decide))).trans ((q7136 133 j (by simp [fz])).trans ((q7083 133 j (by simp [fz])).trans rfl))))) ⟨g7159, (RM_fr hP7161 ((M7170.2 131 3 (Or.inr (by decide))).trans rfl) ((M7170.2 131 4 (Or.inr (by decide))).trans rfl) ((M7170.2 131 5 (Or.inr (by decide))).trans rfl) ((M7170.2 131 11 (Or.inr (by decide))).trans rfl) ((M7170.2 131 12 (Or.inr (by decide))).trans rfl) ((M7170.2 131 14 (Or.inr (by decide))).trans rfl) (fun j => ((M7170.2 132 j (Or.inl (by decide))).trans rfl)) (fun j => ((M7170.2 331 j (Or.inl (by decide))).trans rfl)) ((M7170.2 131 20 (Or.inr (by decide))).trans rfl) (fun j => ((M7170.2 134 j (Or.inl (by decide))).trans rfl)) (fun j => ((M7170.2 336 j (Or.inl (by decide))).trans rfl)) (fun j => ((M7170.2 337 j (Or.inl (by decide))).trans rfl))), (by rw [← he4526, show 940 - f4508.toInt.toNat = (940 - v7165.toInt.toNat) + 1 by omega, show v7165.toInt.toNat = f4508.toInt.toNat + 1 by omega]; exact (sRd_r (fun h => by have q := MT_k hR4525.1; rw [z4516] at q; omega) e7125 e7160).symm)⟩ (fun j => (((M7170.2 133 j (Or.inl (by decide))).trans ((q7136 133 j (by simp [fz])).trans ((q7083 133 j (by simp [fz])).trans rfl))) : t7169 133 j = t4497 133 j).trans (x4520 j)) ⟨by omega, by omega⟩ (fun h => by omega) (lv_sub hl [0] rfl) (by omega)
                ·
                  have r7174 : R (0) (0) v7134 := ⟨by omega, by omega⟩
                  have p7175 := (QM_0 q7143) (by omega)
                  obtain ⟨q7176, e7177, h7178, h7179⟩ := p7175
                  refine r_iconst S dX12_ferry_82 (by decide) (fun v7180 z7181 => ?_)
                  have r7182 := R_eq z7181
                  refine r_aload_n S dX12_ferry_83 rfl (lv_at hl 0 rfl) ?_
                  refine r_getn (K := 38) S X7132 (Nat.le_of_ble_eq_true rfl) rfl lk12_177_10 (fun _ => ⟨_, rfl, rfl⟩) dX12_ferry_84 (fun v7183 z7184 => ?_)
                  have r7186 := R_any v7183
                  refine r_isub S dX12_ferry_87 (fun v7187 z7188 => ?_)
                  obtain ⟨e7189, r7190⟩ := i_sub (lo := -2147483648) (hi := 2147483647) z7188 r7182 r7186 rfl
                  exact r_ret S hr hlk X7132 ⟨q7135, F7144, (by rw [((q7136 131 2 (by decide)).trans ((q7083 131 2 (by decide)).trans z4502))]; exact R_of q20 rfl), (PF_eq x4518 (fun j _ => ((q7136 133 j (by simp [fz])).trans ((q7083 133 j (by simp [fz])).trans rfl)))), (QG_l (by rw [← he4526, show 940 - f4508.toInt.toNat = (939 - f4508.toInt.toNat) + 1 by omega]; exact sRd_l2 (fun h => by have q := MT_k hR4525.1; rw [z4516] at q; omega) e7125 e7177) (by have q1 := h7179; have q2 := congrArg Int32.toInt z7184; omega) h7178 ⟨(fun j => (((q7136 133 j (by simp [fz])).trans ((q7083 133 j (by simp [fz])).trans rfl)) : t7133 133 j = t4497 133 j).trans (x4520 j)), (NB_fr hP7126.2.2.2 (fun j => ((q7136 336 j (by simp [fz])).trans rfl)))⟩)⟩ rfl dX12_ferry_88
        exact L4517 _ t727 _ _ _ v29 v37 v736 v738 X726 q728 F735 ((q729 131 0 (by decide)).trans ((M719.2 131 0 (Or.inl (by decide))).trans z693)) ((q729 131 2 (by decide)).trans ((M719.2 131 2 (Or.inl (by decide))).trans z694)) ((q729 131 3 (by decide)).trans ((M719.2 131 3 (Or.inl (by decide))).trans z695)) ((q729 131 5 (by decide)).trans ((M719.2 131 5 (Or.inl (by decide))).trans z697)) ((q729 131 15 (by decide)).trans ((M719.2 131 15 (Or.inl (by decide))).trans z698)) ⟨by omega, by omega⟩ ((q729 131 19 (by decide)).trans ((M719.2 131 19 (Or.inl (by decide))).trans z699)) ⟨by omega, by omega⟩ z737 ⟨by omega, by omega⟩ z739 ⟨by omega, by omega⟩ (PF_eq x702 (fun j _ => ((q729 133 j (by simp [fz])).trans ((M719.2 133 j (Or.inl (by decide))).trans rfl)))) ⟨stp bb nb ((0, 0, 0), ps0), hR745, (by rw [show v37.toInt.toNat = 0 by omega]; rfl)⟩ (fun j => (((q729 133 j (by simp [fz])).trans ((M719.2 133 j (Or.inl (by decide))).trans rfl)) : t727 133 j = t689 133 j).trans (x704 j)) ⟨by omega, by omega⟩ (fun h => by omega) (lv_sub hl [0] rfl) (Nat.lt_succ_self _)
      ·
        have r7191 : R (0) (124) i687 := ⟨by omega, by omega⟩
        refine r_aload_n S dX12_ferry_35 rfl (lv_at hl 0 rfl) ?_
        refine r_get (K := 38) (v := .ref (G.2.2.2.1 134)) S X692 (Nat.le_of_ble_eq_true rfl) rfl lk12_37_10 (fun _ => ⟨_, rfl, rfl⟩) dX12_ferry_36 ?_
        refine r_iload_n S dX12_ferry_39 rfl (lv_at hl 1 rfl) ?_
        refine r_iconst S dX12_ferry_40 (by decide) (fun v7192 z7193 => ?_)
        have r7194 := R_eq z7193
        refine r_ast (n := 125) (K := 41) S X692 (Nat.le_of_ble_eq_true rfl) rfl (fun _ _ => rfl) (ix_of r7191 rfl) dX12_ferry_41 (fun t7195 H lc M7196 X7197 => ?_)
        have I7198 := Inv_mu I690 M7196 (show Rg (kd 134) _ v7192 from wrs (K := 41) (a := 0) (n := 125) (R_of r7191 rfl) (R_of (lo := 0) (hi := 8) r7194 rfl) (by decide +kernel))
        have F7199 : Fr [(131, 0), (131, 15), (131, 16), (131, 4), (131, 11), (131, 12), (131, 13), (131, 14), (131, 2), (131, 3), (131, 5), (131, 18), (131, 19), (131, 20), (131, 21), (131, 24)] [134, 133, 331, 336] τ t7195 := Fr_cell F691 M7196 (by decide)
        refine r_iinc (k := 1) S dX12_ferry_42 hl rfl (by decide) (by decide) (fun v7200 d7201 ls z7202 z7203 hl => ?_)
        obtain ⟨e7204, r7205⟩ := i_add (lo := 1) (hi := 125) z7202 r7191 (R_eq z7203) rfl
        have hl : lv_has ls 2 [(1, .int v7200), (0, .ref (G.2.2.2.1 131))] := hl
        refine r_goto (tgt := 29) S dX12_ferry_45 (by decide) ?_
        exact ih706 t7195 _ _ _ v7200 X7197 I7198 F7199 (R_of r7205 rfl) ((M7196.2 131 0 (Or.inl (by decide))).trans z693) ((M7196.2 131 2 (Or.inl (by decide))).trans z694) ((M7196.2 131 3 (Or.inl (by decide))).trans z695) ((M7196.2 131 4 (Or.inl (by decide))).trans z696) ((M7196.2 131 5 (Or.inl (by decide))).trans z697) ((M7196.2 131 15 (Or.inl (by decide))).trans z698) ((M7196.2 131 19 (Or.inl (by decide))).trans z699) ((M7196.2 131 20 (Or.inl (by decide))).trans z700) (PF_eq x702 (fun j _ => ((M7196.2 133 j (Or.inl (by decide))).trans rfl))) (zero_up x703 M7196 (by omega) (by omega) (by omega)) (fun j => (((M7196.2 133 j (Or.inl (by decide))).trans rfl) : t7195 133 j = t689 133 j).trans (x704 j)) (fun j => ((M7196.2 336 j (Or.inl (by decide))).trans ((kp705 j).trans rfl))) (lv_sub hl [1, 0] rfl) (by omega)
  exact L701 _ t48 _ _ _ v53 X50 I51 F52 (R_of r55 rfl) ((M49.2 131 0 (Or.inr (by decide))).trans ((M41.2 131 0 (Or.inr (by decide))).trans ((M33.2 131 0 (Or.inr (by decide))).trans ((q19 131 0 (by decide)).trans M8.1)))) ((M49.2 131 2 (Or.inr (by decide))).trans ((M41.2 131 2 (Or.inr (by decide))).trans ((M33.2 131 2 (Or.inr (by decide))).trans z26))) ((M49.2 131 3 (Or.inr (by decide))).trans ((M41.2 131 3 (Or.inr (by decide))).trans ((M33.2 131 3 (Or.inr (by decide))).trans (q21.trans ((M8.2 131 2 (Or.inr (by decide))).trans z2))))) ((M49.2 131 4 (Or.inr (by decide))).trans ((M41.2 131 4 (Or.inr (by decide))).trans ((M33.2 131 4 (Or.inr (by decide))).trans z28))) ((M49.2 131 5 (Or.inr (by decide))).trans ((M41.2 131 5 (Or.inr (by decide))).trans ((M33.2 131 5 (Or.inr (by decide))).trans q23))) ((M49.2 131 15 (Or.inr (by decide))).trans ((M41.2 131 15 (Or.inr (by decide))).trans M33.1)) ((M49.2 131 19 (Or.inr (by decide))).trans M41.1) M49.1 (PF_eq hp_0 (fun j _ => ((M49.2 133 j (Or.inl (by decide))).trans ((M41.2 133 j (Or.inl (by decide))).trans ((M33.2 133 j (Or.inl (by decide))).trans ((q19 133 j (by simp [fz])).trans ((M8.2 133 j (Or.inl (by decide))).trans rfl))))))) (fun j hj => by exfalso; omega) (fun j => ((M49.2 133 j (Or.inl (by decide))).trans ((M41.2 133 j (Or.inl (by decide))).trans ((M33.2 133 j (Or.inl (by decide))).trans ((q19 133 j (by simp [fz])).trans ((M8.2 133 j (Or.inl (by decide))).trans rfl)))))) (fun j => rfl) (lv_sub hl [1, 0] rfl) (Nat.lt_succ_self _)
