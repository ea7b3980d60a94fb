def po_X12_taken_q (τ : Tau)  (a0 : Int32)   (u : Tau) : Prop := Inv u ∧ Fr [(131, 2), (131, 3), (131, 4), (131, 5)] [] τ u ∧ R (0) (0) (u 131 2) ∧ (u 131 3 = τ 131 2) ∧ R (0) (0) (u 131 4) ∧ (u 131 5 = a0)
set_option maxHeartbeats 4000000 in
set_option maxRecDepth 100000 in
theorem c_X12_taken_q (l : Launch) (G : Gx) (τ : Tau) (hI : Inv τ) (a0 : Int32) (h_a0 : R (0) (940) a0) : Cv l G yX12_taken cX12_taken 2 0 0 [.ref (G.2.2.2.1 131), .int a0] τ (po_X12_taken_q τ  a0  ) := by
  unfold Cv
  refine C_of (own := RX12) (by decide) rfl (Nat.le_of_ble_eq_true rfl) ?_
  intro p e s m below meth c ls S hr hlk X hl
  have hl : lv_has ls 2 [(0, .ref (G.2.2.2.1 131)), (1, .int a0)] := hl
  obtain ⟨v1, z2⟩ : ∃ x, τ 131 2 = x := ⟨_, rfl⟩
  have r3 : R (0) (940) v1 := rd hI rfl z2
  refine r_aload_n S dX12_taken_0 rfl (lv_at hl 0 rfl) ?_
  refine r_aload_n S dX12_taken_1 rfl (lv_at hl 0 rfl) ?_
  refine r_geti (K := 38) S X (Nat.le_of_ble_eq_true rfl) rfl lk12_7_10 (fun _ => ⟨_, rfl, rfl⟩) z2 dX12_taken_2 ?_
  refine r_put (K := 38) (ty := .int) S X (Nat.le_of_ble_eq_true rfl) rfl lk12_18_10 (fun _ => ⟨_, rfl, Nat.le_of_ble_eq_true rfl, rfl⟩) (fun _ _ _ h => by cases h; exact ⟨rfl, rfl⟩) rfl rfl dX12_taken_5 (fun t4 H lc M5 X6 => ?_)
  have I7 := Inv_mu hI M5 (show Rg (kd 131) 3 v1 from (R_of (lo := 0) (hi := 940) r3 rfl))
  have F8 : Fr [(131, 2), (131, 3), (131, 4), (131, 5)] [] τ t4 := Fr_mu Fr_rfl M5 (by decide)
  refine r_aload_n S dX12_taken_8 rfl (lv_at hl 0 rfl) ?_
  refine r_iconst S dX12_taken_9 (by decide) (fun v9 z10 => ?_)
  have r11 := R_eq z10
  refine r_put (K := 38) (ty := .int) S X6 (Nat.le_of_ble_eq_true rfl) rfl lk12_7_10 (fun _ => ⟨_, rfl, Nat.le_of_ble_eq_true rfl, rfl⟩) (fun _ _ _ h => by cases h; exact ⟨rfl, rfl⟩) rfl rfl dX12_taken_10 (fun t12 H lc M13 X14 => ?_)
  have I15 := Inv_mu I7 M13 (show Rg (kd 131) 2 v9 from (R_of (lo := 0) (hi := 940) r11 rfl))
  have F16 : Fr [(131, 2), (131, 3), (131, 4), (131, 5)] [] τ t12 := Fr_mu F8 M13 (by decide)
  refine r_aload_n S dX12_taken_13 rfl (lv_at hl 0 rfl) ?_
  refine r_iconst S dX12_taken_14 (by decide) (fun v17 z18 => ?_)
  have r19 := R_eq z18
  refine r_put (K := 38) (ty := .int) S X14 (Nat.le_of_ble_eq_true rfl) rfl lk12_21_10 (fun _ => ⟨_, rfl, Nat.le_of_ble_eq_true rfl, rfl⟩) (fun _ _ _ h => by cases h; exact ⟨rfl, rfl⟩) rfl rfl dX12_taken_15 (fun t20 H lc M21 X22 => ?_)
  have I23 := Inv_mu I15 M21 (show Rg (kd 131) 4 v17 from (R_of (lo := 0) (hi := 940) r19 rfl))
  have F24 : Fr [(131, 2), (131, 3), (131, 4), (131, 5)] [] τ t20 := Fr_mu F16 M21 (by decide)
  refine r_aload_n S dX12_taken_18 rfl (lv_at hl 0 rfl) ?_
  refine r_iload_n S dX12_taken_19 rfl (lv_at hl 1 rfl) ?_
  refine r_put (K := 38) (ty := .int) S X22 (Nat.le_of_ble_eq_true rfl) rfl lk12_24_10 (fun _ => ⟨_, rfl, Nat.le_of_ble_eq_true rfl, rfl⟩) (fun _ _ _ h => by cases h; exact ⟨rfl, rfl⟩) rfl rfl dX12_taken_20 (fun t25 H lc M26 X27 => ?_)
  have I28 := Inv_mu I23 M26 (show Rg (kd 131) 5 a0 from (R_of (lo := 0) (hi := 940) h_a0 rfl))
  have F29 : Fr [(131, 2), (131, 3), (131, 4), (131, 5)] [] τ t25 := Fr_mu F24 M26 (by decide)
  exact r_vret S hr hlk X27 ⟨I28, F29, (by rw [((M26.2 131 2 (Or.inr (by decide))).trans ((M21.2 131 2 (Or.inr (by decide))).trans M13.1))]; exact R_of r11 rfl), (((M26.2 131 3 (Or.inr (by decide))).trans ((M21.2 131 3 (Or.inr (by decide))).trans ((M13.2 131 3 (Or.inr (by decide))).trans M5.1))).trans z2.symm), (by rw [((M26.2 131 4 (Or.inr (by decide))).trans M21.1)]; exact R_of r19 rfl), M26.1⟩ dX12_taken_23
def po_X12_ferry_q (τ : Tau)    (bb : Nat → Int) (nb : Nat) (r : Int32) (u : Tau) : Prop := Inv u ∧ Fr [(131, 0), (131, 15), (131, 16), (131, 4), (131, 11), (131, 12), (131, 13), (131, 14), (131, 2), (131, 3), (131, 5), (131, 18), (131, 19), (131, 20), (131, 21), (131, 24)] [134, 133, 331, 336] τ u ∧ R (0) (0) (u 131 2) ∧ PF u ∧ QF (sFe bb nb) r (∀ j, u 133 j = τ 133 j) (fun f => PLm u f.2)
set_option maxHeartbeats 4000000 in
set_option maxRecDepth 100000 in
theorem c_X12_ferry_q (l : Launch) (G : Gx) (τ : Tau) (hI : Inv τ) (hp_0 : PF τ) (bb : Nat → Int) (nb : Nat) (hB0 : MB0 bb nb τ) (hS : RS τ) : Ci l G yX12_ferry cX12_ferry 2 (some .int) 6 131 [.ref (G.2.2.2.1 131)] τ (po_X12_ferry_q τ    bb nb) := by
  unfold Ci
  refine C_of (own := RX12) (by decide) rfl (Nat.le_of_ble_eq_true rfl) ?_
  intro p e s m below meth c ls S hr hlk X hl
  have hl : lv_has ls 2 [(0, .ref (G.2.2.2.1 131))] := hl
  obtain ⟨v1, z2⟩ : ∃ x, τ 131 2 = x := ⟨_, rfl⟩
  have r3 : R (0) (940) v1 := rd hI rfl z2
  refine r_aload_n S dX12_ferry_0 rfl (lv_at hl 0 rfl) ?_
  refine r_iconst S dX12_ferry_1 (by decide) (fun v4 z5 => ?_)
  have r6 := R_eq z5
  refine r_put (K := 38) (ty := .int) S X (Nat.le_of_ble_eq_true rfl) rfl lk12_1_10 (fun _ => ⟨_, rfl, Nat.le_of_ble_eq_true rfl, rfl⟩) (fun _ _ _ h => by cases h; exact ⟨rfl, rfl⟩) rfl rfl dX12_ferry_2 (fun t7 H lc M8 X9 => ?_)
  have I10 := Inv_mu hI M8 (R_any v4)
  have F11 : Fr [(131, 0), (131, 15), (131, 16), (131, 4), (131, 11), (131, 12), (131, 13), (131, 14), (131, 2), (131, 3), (131, 5), (131, 18), (131, 19), (131, 20), (131, 21), (131, 24)] [134, 133, 331, 336] τ t7 := Fr_mu Fr_rfl M8 (by decide)
  refine r_aload_n S dX12_ferry_5 rfl (lv_at hl 0 rfl) ?_
  refine r_sipush S dX12_ferry_6 (by decide) (fun v12 z13 => ?_)
  have r14 := R_eq z13
  refine r_kv (q_V (As := [.int v12]) (rest := []) (K := 38) (ci := 10) S X9 (c_X12_taken_q l G t7 I10 v12 (R_of (lo := 0) (hi := 940) r14 rfl)) ck12_237 (Nat.le_of_ble_eq_true rfl) rfl (fun _ => ⟨_, rfl⟩) ⟨_, _, rfl⟩ ⟨Nat.le_of_ble_eq_true rfl, Nat.le_of_ble_eq_true rfl⟩ rfl hl.1 rfl (Nat.le_of_ble_eq_true rfl) dX12_ferry_9 ⟨Nat.le_refl 0, Nat.le_refl 0⟩) X9 (fun t17 H lc q15 X16 => ?_)
  unfold po_X12_taken_q at q15
  obtain ⟨q18, q19, q20, q21, q22, q23⟩ := q15
  have F24 : Fr [(131, 0), (131, 15), (131, 16), (131, 4), (131, 11), (131, 12), (131, 13), (131, 14), (131, 2), (131, 3), (131, 5), (131, 18), (131, 19), (131, 20), (131, 21), (131, 24)] [134, 133, 331, 336] τ t17 := Fr_call F11 q19 (by decide)
  obtain ⟨v25, z26⟩ : ∃ x, t17 131 2 = x := ⟨_, rfl⟩
  rw [z26] at q20
  obtain ⟨v27, z28⟩ : ∃ x, t17 131 4 = x := ⟨_, rfl⟩
  rw [z28] at q22
  refine r_aload_n S dX12_ferry_12 rfl (lv_at hl 0 rfl) ?_
  refine r_iconst S dX12_ferry_13 (by decide) (fun v29 z30 => ?_)
  have r31 := R_eq z30
  refine r_put (K := 38) (ty := .int) S X16 (Nat.le_of_ble_eq_true rfl) rfl lk12_174_10 (fun _ => ⟨_, rfl, Nat.le_of_ble_eq_true rfl, rfl⟩) (fun _ _ _ h => by cases h; exact ⟨rfl, rfl⟩) rfl rfl dX12_ferry_14 (fun t32 H lc M33 X34 => ?_)
  have I35 := Inv_mu q18 M33 (R_any v29)
  have F36 : Fr [(131, 0), (131, 15), (131, 16), (131, 4), (131, 11), (131, 12), (131, 13), (131, 14), (131, 2), (131, 3), (131, 5), (131, 18), (131, 19), (131, 20), (131, 21), (131, 24)] [134, 133, 331, 336] τ t32 := Fr_mu F24 M33 (by decide)
  refine r_aload_n S dX12_ferry_17 rfl (lv_at hl 0 rfl) ?_
  refine r_iconst S dX12_ferry_18 (by decide) (fun v37 z38 => ?_)
  have r39 := R_eq z38
  refine r_put (K := 38) (ty := .int) S X34 (Nat.le_of_ble_eq_true rfl) rfl lk12_240_10 (fun _ => ⟨_, rfl, Nat.le_of_ble_eq_true rfl, rfl⟩) (fun _ _ _ h => by cases h; exact ⟨rfl, rfl⟩) rfl rfl dX12_ferry_19 (fun t40 H lc M41 X42 => ?_)
  have I43 := Inv_mu I35 M41 (R_any v37)
  have F44 : Fr [(131, 0), (131, 15), (131, 16), (131, 4), (131, 11), (131, 12), (131, 13), (131, 14), (131, 2), (131, 3), (131, 5), (131, 18), (131, 19), (131, 20), (131, 21), (131, 24)] [134, 133, 331, 336] τ t40 := Fr_mu F36 M41 (by decide)
  refine r_aload_n S dX12_ferry_22 rfl (lv_at hl 0 rfl) ?_
  refine r_iconst S dX12_ferry_23 (by decide) (fun v45 z46 => ?_)
  have r47 := R_eq z46
  refine r_put (K := 38) (ty := .int) S X42 (Nat.le_of_ble_eq_true rfl) rfl lk12_218_10 (fun _ => ⟨_, rfl, Nat.le_of_ble_eq_true rfl, rfl⟩) (fun _ _ _ h => by cases h; exact ⟨rfl, rfl⟩) rfl rfl dX12_ferry_24 (fun t48 H lc M49 X50 => ?_)
  have I51 := Inv_mu I43 M49 (R_any v45)
  have F52 : Fr [(131, 0), (131, 15), (131, 16), (131, 4), (131, 11), (131, 12), (131, 13), (131, 14), (131, 2), (131, 3), (131, 5), (131, 18), (131, 19), (131, 20), (131, 21), (131, 24)] [134, 133, 331, 336] τ t48 := Fr_mu F44 M49 (by decide)
  refine r_iconst S dX12_ferry_27 (by decide) (fun v53 z54 => ?_)
  have r55 := R_eq z54
  refine r_istore_n (lv' := [(1, .int v53), (0, .ref (G.2.2.2.1 131))]) S dX12_ferry_28 rfl hl (by decide) rfl (fun ls hl => ?_)
  have L701 : ∀ (n : Nat) (t689 : Tau) (H : Heap) (lc : List Loc) (ls : Array Slot) (i687 : Int32), Xd G s H lc t689 → Inv t689 → Fr [(131, 0), (131, 15), (131, 16), (131, 4), (131, 11), (131, 12), (131, 13), (131, 14), (131, 2), (131, 3), (131, 5), (131, 18), (131, 19), (131, 20), (131, 21), (131, 24)] [134, 133, 331, 336] τ t689 → R (0) (125) i687 → t689 131 0 = v4 → t689 131 2 = v25 → t689 131 3 = v1 → t689 131 4 = v27 → t689 131 5 = v12 → t689 131 15 = v29 → t689 131 19 = v37 → t689 131 20 = v45 → PF t689 → (∀ j : Nat, (j : Int) < (i687).toInt → (t689 134 j).toInt = 0) → (∀ j, t689 133 j = τ 133 j) → lv_has ls 2 [(0, .ref (G.2.2.2.1 131)), (1, .int i687)] → (125 - i687.toInt).toNat < n → W p l e (Rm 6 131) s m ([.ref (G.2.2.2.1 131)] : List Value).toArray below meth c H lc 0 0 (MQ below (va_Qi (po_X12_ferry_q τ    bb nb) (Bs G) G.2.2.2.2) ([.ref (G.2.2.2.1 131)] : List Value).toArray s 0 0 G.2.2.2.2) (F0 m 29 ls []) := by
    intro n
    induction n with
    | zero => intros; omega
    | succ n ih705 =>
      intro t689 H lc ls i687 X692 I690 F691 r688 z693 z694 z695 z696 z697 z698 z699 z700 x702 x703 x704 hl hm
      refine r_iload_n S dX12_ferry_29 rfl (lv_at hl 1 rfl) ?_
      refine r_bipush S dX12_ferry_30 (by decide) (fun v706 z707 => ?_)
      have r708 := R_eq z707
      refine r_icmp_ge (tgt := 48) S dX12_ferry_32 (by decide) (fun c709 => ?_) (fun c709 => ?_)
      ·
        have r710 : R (125) (125) i687 := ⟨by omega, by omega⟩
        refine r_aload_n S dX12_ferry_48 rfl (lv_at hl 0 rfl) ?_
        refine r_get (K := 38) (v := .ref (G.2.2.2.1 134)) S X692 (Nat.le_of_ble_eq_true rfl) rfl lk12_37_10 (fun _ => ⟨_, rfl, rfl⟩) dX12_ferry_49 ?_
        refine r_iconst S dX12_ferry_52 (by decide) (fun v711 z712 => ?_)
        have r713 := R_eq z712
        refine r_iconst S dX12_ferry_53 (by decide) (fun v714 z715 => ?_)
        have r716 := R_eq z715
        refine r_ast (n := 125) (K := 41) S X692 (Nat.le_of_ble_eq_true rfl) rfl (fun _ _ => rfl) (ix_of r713 rfl) dX12_ferry_54 (fun t717 H lc M718 X719 => ?_)
        have I720 := Inv_mu I690 M718 (show Rg (kd 134) _ v714 from wrs (K := 41) (a := 2) (n := 1) (R_of r713 rfl) (R_of (lo := 0) (hi := 8) r716 rfl) (by decide +kernel))
        have F721 : Fr [(131, 0), (131, 15), (131, 16), (131, 4), (131, 11), (131, 12), (131, 13), (131, 14), (131, 2), (131, 3), (131, 5), (131, 18), (131, 19), (131, 20), (131, 21), (131, 24)] [134, 133, 331, 336] τ t717 := Fr_cell F691 M718 (by decide)
        have hz722 : ∀ j : Nat, j < 125 → j ≠ 2 → (t717 134 j).toInt = 0 := fun j h1 h2 => by rw [M718.2 134 j (Or.inr (by have c : v711.toNatClampNeg = v711.toInt.toNat := rfl; omega))]; exact x703 j (by omega)
        have h4723 : (t717 134 2).toInt = 4 := by have q := M718.1; rw [show v711.toNatClampNeg = 2 by (have c : v711.toNatClampNeg = v711.toInt.toNat := rfl; omega)] at q; rw [q]; omega
        refine r_aload_n S dX12_ferry_55 rfl (lv_at hl 0 rfl) ?_
        refine r_kv (q_V (As := []) (rest := []) (K := 38) (ci := 10) S X719 (c_X12_skip_q l G t717 I720 bb nb 900 0 ⟨by have q := congrArg Int32.toInt ((M718.2 131 3 (Or.inl (by decide))).trans z695); have q2 := congrArg Int32.toInt z2; have q3 := hB0.1; omega, hB0.2.1, by rw [((M718.2 131 5 (Or.inl (by decide))).trans z697)]; omega, fun j hj => by rw [(fun j => F721 132 j (by simp [fz])) j]; exact hB0.2.2 j hj⟩ (by rw [((M718.2 131 4 (Or.inl (by decide))).trans z696)]; omega) (Nat.zero_le _)) ck12_186 (Nat.le_of_ble_eq_true rfl) rfl (fun _ => ⟨_, rfl⟩) ⟨_, _, rfl⟩ ⟨Nat.le_of_ble_eq_true rfl, Nat.le_of_ble_eq_true rfl⟩ rfl hl.1 rfl (Nat.le_of_ble_eq_true rfl) dX12_ferry_56 ⟨Nat.le_refl 0, Nat.le_refl 0⟩) X719 (fun t726 H lc q724 X725 => ?_)
        unfold po_X12_skip_q at q724
        obtain ⟨q727, q728, q729, q730, q731, q732, q733⟩ := q724
        have F734 : Fr [(131, 0), (131, 15), (131, 16), (131, 4), (131, 11), (131, 12), (131, 13), (131, 14), (131, 2), (131, 3), (131, 5), (131, 18), (131, 19), (131, 20), (131, 21), (131, 24)] [134, 133, 331, 336] τ t726 := Fr_call F721 q728 (by decide)
        obtain ⟨v735, z736⟩ : ∃ x, t726 131 4 = x := ⟨_, rfl⟩
        rw [z736] at q729
        obtain ⟨v737, z738⟩ : ∃ x, t726 131 11 = x := ⟨_, rfl⟩
        rw [z738] at q730
        have e739 := congrArg Int32.toInt ((M718.2 131 4 (Or.inl (by decide))).trans z696)
        have e740 := congrArg Int32.toInt z736
        have e741 := congrArg Int32.toInt ((M718.2 131 4 (Or.inl (by decide))).trans z696)
        have e742 := congrArg Int32.toInt z736
        have e743 := congrArg Int32.toInt z738
        have hR744 : RM bb nb t726 (stp bb nb ((0, 0, 0), ps0)) := ⟨q733, RH_0 (by rw [((q728 131 20 (by decide)).trans ((M718.2 131 20 (Or.inl (by decide))).trans z700))]; omega) (by rw [(((q728 134 2 (by simp [fz])).trans rfl) : t726 134 2 = t717 134 2)]; exact h4723) (fun j h1 h2 => by rw [(((q728 134 j (by simp [fz])).trans rfl) : t726 134 j = t717 134 j)]; exact hz722 j h1 h2), RS_fr hS (fun j => F734 337 j (by simp [fz]))⟩
        have L4135 : ∀ (n : Nat) (t4118 : Tau) (H : Heap) (lc : List Loc) (ls : Array Slot) (f4126 : Int32) (f4129 : Int32) (f4132 : Int32), Xd G s H lc t4118 → Inv t4118 → Fr [(131, 0), (131, 15), (131, 16), (131, 4), (131, 11), (131, 12), (131, 13), (131, 14), (131, 2), (131, 3), (131, 5), (131, 18), (131, 19), (131, 20), (131, 21), (131, 24)] [134, 133, 331, 336] τ t4118 → t4118 131 0 = v4 → t4118 131 2 = v25 → t4118 131 3 = v1 → t4118 131 5 = v12 → t4118 131 19 = f4126 → R (0) (940) f4126 → t4118 131 4 = f4129 → R (0) (940) f4129 → t4118 131 11 = f4132 → R (0) (4) f4132 → PF t4118 → (∃ fc : FS, RM bb nb t4118 fc ∧ sRd bb nb (940 - (f4126).toInt.toNat) fc (f4126).toInt.toNat = sFe bb nb) → (∀ j, t4118 133 j = τ 133 j) → 0 ≤ (f4126).toInt ∧ (f4126).toInt ≤ 939 → (1 ≤ (f4132).toInt ∧ (f4132).toInt ≤ 3 → (f4126).toInt + 1 ≤ (f4129).toInt) → lv_has ls 2 [(0, .ref (G.2.2.2.1 131))] → (940 - f4129.toInt).toNat < n → W p l e (Rm 6 131) s m ([.ref (G.2.2.2.1 131)] : List Value).toArray below meth c H lc 0 0 (MQ below (va_Qi (po_X12_ferry_q τ    bb nb) (Bs G) G.2.2.2.2) ([.ref (G.2.2.2.1 131)] : List Value).toArray s 0 0 G.2.2.2.2) (F0 m 59 ls []) := by
          intro n
          induction n with
          | zero => intros; omega
          | succ n ih4141 =>
            intro t4118 H lc ls f4126 f4129 f4132 X4121 I4119 F4120 z4122 z4123 z4124 z4125 z4128 r4127 z4131 r4130 z4134 r4133 x4136 x4137 x4138 x4139 x4140 hl hm
            obtain ⟨fc4142, hR4143, he4144⟩ := x4137
            have r4145 : R (0) (939) f4126 := ⟨by omega, by omega⟩
            refine r_aload_n S dX12_ferry_59 rfl (lv_at hl 0 rfl) ?_
            refine r_geti (K := 38) S X4121 (Nat.le_of_ble_eq_true rfl) rfl lk12_157_10 (fun _ => ⟨_, rfl, rfl⟩) z4134 dX12_ferry_60 ?_
            refine r_if_eq (tgt := 102) S dX12_ferry_63 (by decide) (fun c4146 => ?_) (fun c4146 => ?_)
            ·
              have r4147 : R (0) (0) f4132 := ⟨by omega, by omega⟩
              refine r_iconst S dX12_ferry_102 (by decide) (fun v4148 z4149 => ?_)
              have r4150 := R_eq z4149
              refine r_istore_n (lv' := [(1, .int v4148), (0, .ref (G.2.2.2.1 131))]) S dX12_ferry_103 rfl hl (by decide) rfl (fun ls hl => ?_)
              have L5383 : ∀ (n : Nat) (t5372 : Tau) (H : Heap) (lc : List Loc) (ls : Array Slot) (i5370 : Int32), Xd G s H lc t5372 → Inv t5372 → Fr [(131, 0), (131, 15), (131, 16), (131, 4), (131, 11), (131, 12), (131, 13), (131, 14), (131, 2), (131, 3), (131, 5), (131, 18), (131, 19), (131, 20), (131, 21), (131, 24)] [134, 133, 331, 336] τ t5372 → R (0) (513) i5370 → t5372 131 0 = v4 → t5372 131 2 = v25 → t5372 131 3 = v1 → t5372 131 5 = v12 → t5372 131 19 = f4126 → t5372 131 4 = f4129 → t5372 131 11 = f4132 → (332 < i5370.toInt → (t5372 133 332).toInt = 0) → (∀ j : Nat, (j : Int) < (i5370).toInt → j < 5 → t5372 133 j = t4118 134 j) → (∀ j : Nat, t5372 134 j = t4118 134 j) → lv_has ls 2 [(0, .ref (G.2.2.2.1 131)), (1, .int i5370)] → (513 - i5370.toInt).toNat < n → W p l e (Rm 6 131) s m ([.ref (G.2.2.2.1 131)] : List Value).toArray below meth c H lc 0 0 (MQ below (va_Qi (po_X12_ferry_q τ    bb nb) (Bs G) G.2.2.2.2) ([.ref (G.2.2.2.1 131)] : List Value).toArray s 0 0 G.2.2.2.2) (F0 m 104 ls []) := by
                intro n
                induction n with
                | zero => intros; omega
                | succ n ih5387 =>
                  intro t5372 H lc ls i5370 X5375 I5373 F5374 r5371 z5376 z5377 z5378 z5379 z5380 z5381 z5382 x5384 x5385 kp5386 hl hm
                  refine r_iload_n S dX12_ferry_104 rfl (lv_at hl 1 rfl) ?_
                  refine r_sipush S dX12_ferry_105 (by decide) (fun v5388 z5389 => ?_)
                  have r5390 := R_eq z5389
                  refine r_icmp_ge (tgt := 139) S dX12_ferry_108 (by decide) (fun c5391 => ?_) (fun c5391 => ?_)
                  ·
                    have r5392 : R (513) (513) i5370 := ⟨by omega, by omega⟩
                    refine r_iconst S dX12_ferry_139 (by decide) (fun v5393 z5394 => ?_)
                    have r5395 := R_eq z5394
                    refine r_istore_n (lv' := [(1, .int v5393), (0, .ref (G.2.2.2.1 131))]) S dX12_ferry_140 rfl hl (by decide) rfl (fun ls hl => ?_)
                    have L5734 : ∀ (n : Nat) (t5723 : Tau) (H : Heap) (lc : List Loc) (ls : Array Slot) (i5721 : Int32), Xd G s H lc t5723 → Inv t5723 → Fr [(131, 0), (131, 15), (131, 16), (131, 4), (131, 11), (131, 12), (131, 13), (131, 14), (131, 2), (131, 3), (131, 5), (131, 18), (131, 19), (131, 20), (131, 21), (131, 24)] [134, 133, 331, 336] τ t5723 → R (0) (19) i5721 → t5723 131 0 = v4 → t5723 131 2 = v25 → t5723 131 3 = v1 → t5723 131 5 = v12 → t5723 131 19 = f4126 → t5723 131 4 = f4129 → t5723 131 11 = f4132 → (∀ j : Nat, t5723 133 j = t5372 133 j) → (∀ j : Nat, t5723 134 j = t5372 134 j) → lv_has ls 2 [(0, .ref (G.2.2.2.1 131)), (1, .int i5721)] → (19 - i5721.toInt).toNat < n → W p l e (Rm 6 131) s m ([.ref (G.2.2.2.1 131)] : List Value).toArray below meth c H lc 0 0 (MQ below (va_Qi (po_X12_ferry_q τ    bb nb) (Bs G) G.2.2.2.2) ([.ref (G.2.2.2.1 131)] : List Value).toArray s 0 0 G.2.2.2.2) (F0 m 141 ls []) := by
                      intro n
                      induction n with
                      | zero => intros; omega
                      | succ n ih5737 =>
                        intro t5723 H lc ls i5721 X5726 I5724 F5725 r5722 z5727 z5728 z5729 z5730 z5731 z5732 z5733 kp5735 kp5736 hl hm
                        refine r_iload_n S dX12_ferry_141 rfl (lv_at hl 1 rfl) ?_
                        refine r_bipush S dX12_ferry_142 (by decide) (fun v5738 z5739 => ?_)
                        have r5740 := R_eq z5739
                        refine r_icmp_ge (tgt := 168) S dX12_ferry_144 (by decide) (fun c5741 => ?_) (fun c5741 => ?_)
                        ·
                          have r5742 : R (19) (19) i5721 := ⟨by omega, by omega⟩
                          refine r_iconst S dX12_ferry_168 (by decide) (fun v5743 z5744 => ?_)
                          have r5745 := R_eq z5744
                          refine r_istore_n (lv' := [(1, .int v5743), (0, .ref (G.2.2.2.1 131))]) S dX12_ferry_169 rfl hl (by decide) rfl (fun ls hl => ?_)
                          have L6531 : ∀ (n : Nat) (t6520 : Tau) (H : Heap) (lc : List Loc) (ls : Array Slot) (i6518 : Int32), Xd G s H lc t6520 → Inv t6520 → Fr [(131, 0), (131, 15), (131, 16), (131, 4), (131, 11), (131, 12), (131, 13), (131, 14), (131, 2), (131, 3), (131, 5), (131, 18), (131, 19), (131, 20), (131, 21), (131, 24)] [134, 133, 331, 336] τ t6520 → R (0) (90) i6518 → t6520 131 0 = v4 → t6520 131 2 = v25 → t6520 131 3 = v1 → t6520 131 5 = v12 → t6520 131 19 = f4126 → t6520 131 4 = f4129 → t6520 131 11 = f4132 → (t6520 133 332).toInt = 0 → (∀ j : Nat, j < 5 → t6520 133 j = t5723 133 j) → lv_has ls 2 [(0, .ref (G.2.2.2.1 131)), (1, .int i6518)] → (90 - i6518.toInt).toNat < n → W p l e (Rm 6 131) s m ([.ref (G.2.2.2.1 131)] : List Value).toArray below meth c H lc 0 0 (MQ below (va_Qi (po_X12_ferry_q τ    bb nb) (Bs G) G.2.2.2.2) ([.ref (G.2.2.2.1 131)] : List Value).toArray s 0 0 G.2.2.2.2) (F0 m 170 ls []) := by
                            intro n
                            induction n with
                            | zero => intros; omega
                            | succ n ih6534 =>
                              intro t6520 H lc ls i6518 X6523 I6521 F6522 r6519 z6524 z6525 z6526 z6527 z6528 z6529 z6530 x6532 x6533 hl hm
                              refine r_iload_n S dX12_ferry_170 rfl (lv_at hl 1 rfl) ?_
                              refine r_bipush S dX12_ferry_171 (by decide) (fun v6535 z6536 => ?_)
                              have r6537 := R_eq z6536
                              refine r_icmp_ge (tgt := 201) S dX12_ferry_173 (by decide) (fun c6538 => ?_) (fun c6538 => ?_)
                              ·
                                have r6539 : R (90) (90) i6518 := ⟨by omega, by omega⟩
                                refine r_aload_n S dX12_ferry_201 rfl (lv_at hl 0 rfl) ?_
                                refine r_iconst S dX12_ferry_202 (by decide) (fun v6540 z6541 => ?_)
                                have r6542 := R_eq z6541
                                refine r_put (K := 38) (ty := .int) S X6523 (Nat.le_of_ble_eq_true rfl) rfl lk12_249_10 (fun _ => ⟨_, rfl, Nat.le_of_ble_eq_true rfl, rfl⟩) (fun _ _ _ h => by cases h; exact ⟨rfl, rfl⟩) rfl rfl dX12_ferry_203 (fun t6543 H lc M6544 X6545 => ?_)
                                have I6546 := Inv_mu I6521 M6544 (show Rg (kd 131) 24 v6540 from (R_of (lo := 0) (hi := 8) r6542 rfl))
                                have F6547 : Fr [(131, 0), (131, 15), (131, 16), (131, 4), (131, 11), (131, 12), (131, 13), (131, 14), (131, 2), (131, 3), (131, 5), (131, 18), (131, 19), (131, 20), (131, 21), (131, 24)] [134, 133, 331, 336] τ t6543 := Fr_mu F6522 M6544 (by decide)
                                refine r_aload_n S dX12_ferry_206 rfl (lv_at hl 0 rfl) ?_
                                refine r_geti (K := 38) S X6545 (Nat.le_of_ble_eq_true rfl) rfl lk12_240_10 (fun _ => ⟨_, rfl, rfl⟩) ((M6544.2 131 19 (Or.inr (by decide))).trans z6528) dX12_ferry_207 ?_
                                exact r_ret S hr hlk X6545 ⟨I6546, F6547, (by rw [((M6544.2 131 2 (Or.inr (by decide))).trans z6525)]; exact R_of q20 rfl), (PF_0 (by rw [((M6544.2 133 332 (Or.inl (by decide))).trans rfl)]; exact x6532)), (QF_r (g := (f4126.toInt.toNat, fc4142)) (by rw [← he4144]; exact sRd_e (by have q := MT_k hR4143.1; rw [z4134] at q; omega)) (by show f4126.toInt = ((f4126.toInt.toNat : Nat) : Int); omega) (PLm_of hR4143.2.1 (fun j hj => ((((M6544.2 133 j (Or.inl (by decide))).trans rfl) : t6543 133 j = t6520 133 j).trans (x6533 j hj)).trans ((((kp5735 j).trans rfl) : t5723 133 j = t5372 133 j).trans (x5385 j (by omega) hj)))))⟩ rfl dX12_ferry_210
                              ·
                                have r6548 : R (0) (89) i6518 := ⟨by omega, by omega⟩
                                refine r_aload_n S dX12_ferry_176 rfl (lv_at hl 0 rfl) ?_
                                refine r_get (K := 38) (v := .ref (G.2.2.2.1 133)) S X6523 (Nat.le_of_ble_eq_true rfl) rfl lk12_33_10 (fun _ => ⟨_, rfl, rfl⟩) dX12_ferry_177 ?_
                                refine r_sipush S dX12_ferry_180 (by decide) (fun v6549 z6550 => ?_)
                                have r6551 := R_eq z6550
                                refine r_iload_n S dX12_ferry_183 rfl (lv_at hl 1 rfl) ?_
                                refine r_iadd S dX12_ferry_184 (fun v6552 z6553 => ?_)
                                obtain ⟨e6554, r6555⟩ := i_add (lo := 142) (hi := 231) z6553 r6551 r6548 rfl
                                refine r_aload_n S dX12_ferry_185 rfl (lv_at hl 0 rfl) ?_
                                refine r_get (K := 38) (v := .ref (G.2.2.2.1 133)) S X6523 (Nat.le_of_ble_eq_true rfl) rfl lk12_33_10 (fun _ => ⟨_, rfl, rfl⟩) dX12_ferry_186 ?_
                                refine r_bipush S dX12_ferry_189 (by decide) (fun v6556 z6557 => ?_)
                                have r6558 := R_eq z6557
                                refine r_iload_n S dX12_ferry_191 rfl (lv_at hl 1 rfl) ?_
                                refine r_iadd S dX12_ferry_192 (fun v6559 z6560 => ?_)
                                obtain ⟨e6561, r6562⟩ := i_add (lo := 15) (hi := 104) z6560 r6558 r6548 rfl
                                refine r_aldn (n := 513) (K := 40) S X6523 (Nat.le_of_ble_eq_true rfl) rfl (fun _ => rfl) (ix_of r6562 rfl) dX12_ferry_193 (fun v6563 z6564 => ?_)
                                have r6565 : R (-9) (9) v6563 := rds (K := 40) (a := 15) (n := 90) I6521 rfl z6564 (R_of r6562 rfl) (by decide +kernel)
                                have g6566 : Rg 40 v6559.toNatClampNeg v6563 := rd I6521 rfl z6564
                                refine r_ast (n := 513) (K := 40) S X6523 (Nat.le_of_ble_eq_true rfl) rfl (fun _ _ => rfl) (ix_of r6555 rfl) dX12_ferry_194 (fun t6567 H lc M6568 X6569 => ?_)
                                have I6570 := Inv_mu I6521 M6568 (show Rg (kd 133) _ v6563 from wrs (K := 40) (a := 142) (n := 90) (R_of r6555 rfl) (R_of (lo := -9) (hi := 9) r6565 rfl) (by decide +kernel))
                                have F6571 : Fr [(131, 0), (131, 15), (131, 16), (131, 4), (131, 11), (131, 12), (131, 13), (131, 14), (131, 2), (131, 3), (131, 5), (131, 18), (131, 19), (131, 20), (131, 21), (131, 24)] [134, 133, 331, 336] τ t6567 := Fr_cell F6522 M6568 (by decide)
                                refine r_iinc (k := 1) S dX12_ferry_195 hl rfl (by decide) (by decide) (fun v6572 d6573 ls z6574 z6575 hl => ?_)
                                obtain ⟨e6576, r6577⟩ := i_add (lo := 1) (hi := 90) z6574 r6548 (R_eq z6575) rfl
                                have hl : lv_has ls 2 [(1, .int v6572), (0, .ref (G.2.2.2.1 131))] := hl
                                refine r_goto (tgt := 170) S dX12_ferry_198 (by decide) ?_
                                exact ih6534 t6567 _ _ _ v6572 X6569 I6570 F6571 (R_of r6577 rfl) ((M6568.2 131 0 (Or.inl (by decide))).trans z6524) ((M6568.2 131 2 (Or.inl (by decide))).trans z6525) ((M6568.2 131 3 (Or.inl (by decide))).trans z6526) ((M6568.2 131 5 (Or.inl (by decide))).trans z6527) ((M6568.2 131 19 (Or.inl (by decide))).trans z6528) ((M6568.2 131 4 (Or.inl (by decide))).trans z6529) ((M6568.2 131 11 (Or.inl (by decide))).trans z6530) (by rw [M6568.2 133 332 (Or.inr (by have q := tn (i := v6552) (by omega); omega))]; exact x6532) (fun j hj => (M6568.2 133 j (Or.inr (by have c : v6552.toNatClampNeg = v6552.toInt.toNat := rfl; omega))).trans (x6533 j hj)) (lv_sub hl [1, 0] rfl) (by omega)
                          exact L6531 _ t5723 _ _ _ v5743 X5726 I5724 F5725 (R_of r5745 rfl) z5727 z5728 z5729 z5730 z5731 z5732 z5733 (by rw [((kp5735 332).trans rfl)]; exact x5384 (by omega)) (fun j _ => rfl) (lv_sub hl [1, 0] rfl) (Nat.lt_succ_self _)
                        ·
                          have r6578 : R (0) (18) i5721 := ⟨by omega, by omega⟩
                          refine r_aload_n S dX12_ferry_147 rfl (lv_at hl 0 rfl) ?_
                          refine r_get (K := 38) (v := .ref (G.2.2.2.1 136)) S X5726 (Nat.le_of_ble_eq_true rfl) rfl lk12_43_10 (fun _ => ⟨_, rfl, rfl⟩) dX12_ferry_148 ?_
                          refine r_iload_n S dX12_ferry_151 rfl (lv_at hl 1 rfl) ?_
                          refine r_aload_n S dX12_ferry_152 rfl (lv_at hl 0 rfl) ?_
                          refine r_get (K := 38) (v := .ref (G.2.2.2.1 136)) S X5726 (Nat.le_of_ble_eq_true rfl) rfl lk12_43_10 (fun _ => ⟨_, rfl, rfl⟩) dX12_ferry_153 ?_
                          refine r_bipush S dX12_ferry_156 (by decide) (fun v6579 z6580 => ?_)
                          have r6581 := R_eq z6580
                          refine r_iload_n S dX12_ferry_158 rfl (lv_at hl 1 rfl) ?_
                          refine r_iadd S dX12_ferry_159 (fun v6582 z6583 => ?_)
                          obtain ⟨e6584, r6585⟩ := i_add (lo := 19) (hi := 37) z6583 r6581 r6578 rfl
                          refine r_lald (n := 38) (K := 43) S X5726 (Nat.le_of_ble_eq_true rfl) rfl (fun _ => rfl) (ix_of r6585 rfl) dX12_ferry_160 (fun j6586 z6587 => ?_)
                          refine r_last (n := 38) (K := 43) S X5726 (Nat.le_of_ble_eq_true rfl) rfl (fun _ => rfl) (ix_of r6578 rfl) dX12_ferry_161 (fun t6589 H lc M6590 X6588 => ?_)
                          have I6591 := Inv_ml I5724 M6590
                          have F6592 : Fr [(131, 0), (131, 15), (131, 16), (131, 4), (131, 11), (131, 12), (131, 13), (131, 14), (131, 2), (131, 3), (131, 5), (131, 18), (131, 19), (131, 20), (131, 21), (131, 24)] [134, 133, 331, 336] τ t6589 := Fr_ml F5725 M6590 (by decide)
                          refine r_iinc (k := 1) S dX12_ferry_162 hl rfl (by decide) (by decide) (fun v6593 d6594 ls z6595 z6596 hl => ?_)
                          obtain ⟨e6597, r6598⟩ := i_add (lo := 1) (hi := 19) z6595 r6578 (R_eq z6596) rfl
                          have hl : lv_has ls 2 [(1, .int v6593), (0, .ref (G.2.2.2.1 131))] := hl
                          refine r_goto (tgt := 141) S dX12_ferry_165 (by decide) ?_
                          exact ih5737 t6589 _ _ _ v6593 X6588 I6591 F6592 (R_of r6598 rfl) ((M6590.1 131 (by decide) 0).trans z5727) ((M6590.1 131 (by decide) 2).trans z5728) ((M6590.1 131 (by decide) 3).trans z5729) ((M6590.1 131 (by decide) 5).trans z5730) ((M6590.1 131 (by decide) 19).trans z5731) ((M6590.1 131 (by decide) 4).trans z5732) ((M6590.1 131 (by decide) 11).trans z5733) (fun j => ((M6590.1 133 (by decide) j).trans ((kp5735 j).trans rfl))) (fun j => ((M6590.1 134 (by decide) j).trans ((kp5736 j).trans rfl))) (lv_sub hl [1, 0] rfl) (by omega)
                    exact L5734 _ t5372 _ _ _ v5393 X5375 I5373 F5374 (R_of r5395 rfl) z5376 z5377 z5378 z5379 z5380 z5381 z5382 (fun j => rfl) (fun j => rfl) (lv_sub hl [1, 0] rfl) (Nat.lt_succ_self _)
                  ·
                    have r6599 : R (0) (512) i5370 := ⟨by omega, by omega⟩
                    refine r_aload_n S dX12_ferry_111 rfl (lv_at hl 0 rfl) ?_
                    refine r_get (K := 38) (v := .ref (G.2.2.2.1 133)) S X5375 (Nat.le_of_ble_eq_true rfl) rfl lk12_33_10 (fun _ => ⟨_, rfl, rfl⟩) dX12_ferry_112 ?_
                    refine r_iload_n S dX12_ferry_115 rfl (lv_at hl 1 rfl) ?_
                    refine r_iload_n S dX12_ferry_116 rfl (lv_at hl 1 rfl) ?_
                    refine r_bipush S dX12_ferry_117 (by decide) (fun v6600 z6601 => ?_)
                    have r6602 := R_eq z6601
                    refine r_icmp_ge (tgt := 131) S dX12_ferry_119 (by decide) (fun c6603 => ?_) (fun c6603 => ?_)
                    ·
                      have r6604 : R (125) (512) i5370 := ⟨by omega, by omega⟩
                      refine r_iconst S dX12_ferry_131 (by decide) (fun v6605 z6606 => ?_)
                      have r6607 := R_eq z6606
                      refine r_ast (n := 513) (K := 40) S X5375 (Nat.le_of_ble_eq_true rfl) rfl (fun _ _ => rfl) (ix_of r6604 rfl) dX12_ferry_132 (fun t6608 H lc M6609 X6610 => ?_)
                      have I6611 := Inv_mu I5373 M6609 (show Rg (kd 133) _ v6605 from wrs (K := 40) (a := 125) (n := 388) (R_of r6604 rfl) (R_of (lo := 0) (hi := 1) r6607 rfl) (by decide +kernel))
                      have F6612 : Fr [(131, 0), (131, 15), (131, 16), (131, 4), (131, 11), (131, 12), (131, 13), (131, 14), (131, 2), (131, 3), (131, 5), (131, 18), (131, 19), (131, 20), (131, 21), (131, 24)] [134, 133, 331, 336] τ t6608 := Fr_cell F5374 M6609 (by decide)
                      refine r_iinc (k := 1) S dX12_ferry_133 hl rfl (by decide) (by decide) (fun v6613 d6614 ls z6615 z6616 hl => ?_)
                      obtain ⟨e6617, r6618⟩ := i_add (lo := 126) (hi := 513) z6615 r6604 (R_eq z6616) rfl
                      have hl : lv_has ls 2 [(1, .int v6613), (0, .ref (G.2.2.2.1 131))] := hl
                      refine r_goto (tgt := 104) S dX12_ferry_136 (by decide) ?_
                      exact ih5387 t6608 _ _ _ v6613 X6610 I6611 F6612 (R_of r6618 rfl) ((M6609.2 131 0 (Or.inl (by decide))).trans z5376) ((M6609.2 131 2 (Or.inl (by decide))).trans z5377) ((M6609.2 131 3 (Or.inl (by decide))).trans z5378) ((M6609.2 131 5 (Or.inl (by decide))).trans z5379) ((M6609.2 131 19 (Or.inl (by decide))).trans z5380) ((M6609.2 131 4 (Or.inl (by decide))).trans z5381) ((M6609.2 131 11 (Or.inl (by decide))).trans z5382) (f332_step x5384 M6609 (by omega) (by omega) (by omega)) (copy5 (i := i5370) x5385 M6609 (fun h => by exfalso; omega) (by omega) (by omega)) (fun j => ((M6609.2 134 j (Or.inl (by decide))).trans ((kp5386 j).trans rfl))) (lv_sub hl [1, 0] rfl) (by omega)
                    ·
                      have r6619 : R (0) (124) i5370 := ⟨by omega, by omega⟩
                      refine r_aload_n S dX12_ferry_122 rfl (lv_at hl 0 rfl) ?_
                      refine r_get (K := 38) (v := .ref (G.2.2.2.1 134)) S X5375 (Nat.le_of_ble_eq_true rfl) rfl lk12_37_10 (fun _ => ⟨_, rfl, rfl⟩) dX12_ferry_123 ?_
                      refine r_iload_n S dX12_ferry_126 rfl (lv_at hl 1 rfl) ?_
                      refine r_aldn (n := 125) (K := 41) S X5375 (Nat.le_of_ble_eq_true rfl) rfl (fun _ => rfl) (ix_of r6619 rfl) dX12_ferry_127 (fun v6620 z6621 => ?_)
                      have r6623 := R_any v6620
                      have g6624 : Rg 41 i5370.toNatClampNeg v6620 := rd I5373 rfl z6621
                      refine r_goto (tgt := 132) S dX12_ferry_128 (by decide) ?_
                      refine r_ast (n := 513) (K := 40) S X5375 (Nat.le_of_ble_eq_true rfl) rfl (fun _ _ => rfl) (ix_of r6619 rfl) dX12_ferry_132 (fun t6625 H lc M6626 X6627 => ?_)
                      have I6628 := Inv_mu I5373 M6626 (show Rg (kd 133) _ v6620 from seg_c (K := 40) (K2 := 41) (a := 0) (b := 0) (n := 125) g6624 (R_of r6619 rfl) (by omega) (by decide +kernel))
                      have F6629 : Fr [(131, 0), (131, 15), (131, 16), (131, 4), (131, 11), (131, 12), (131, 13), (131, 14), (131, 2), (131, 3), (131, 5), (131, 18), (131, 19), (131, 20), (131, 21), (131, 24)] [134, 133, 331, 336] τ t6625 := Fr_cell F5374 M6626 (by decide)
                      refine r_iinc (k := 1) S dX12_ferry_133 hl rfl (by decide) (by decide) (fun v6630 d6631 ls z6632 z6633 hl => ?_)
                      obtain ⟨e6634, r6635⟩ := i_add (lo := 1) (hi := 125) z6632 r6619 (R_eq z6633) rfl
                      have hl : lv_has ls 2 [(1, .int v6630), (0, .ref (G.2.2.2.1 131))] := hl
                      refine r_goto (tgt := 104) S dX12_ferry_136 (by decide) ?_
                      exact ih5387 t6625 _ _ _ v6630 X6627 I6628 F6629 (R_of r6635 rfl) ((M6626.2 131 0 (Or.inl (by decide))).trans z5376) ((M6626.2 131 2 (Or.inl (by decide))).trans z5377) ((M6626.2 131 3 (Or.inl (by decide))).trans z5378) ((M6626.2 131 5 (Or.inl (by decide))).trans z5379) ((M6626.2 131 19 (Or.inl (by decide))).trans z5380) ((M6626.2 131 4 (Or.inl (by decide))).trans z5381) ((M6626.2 131 11 (Or.inl (by decide))).trans z5382) (f332_step x5384 M6626 (by omega) (by omega) (by omega)) (copy5 (i := i5370) x5385 M6626 (fun _ => (((kp5386 i5370.toNatClampNeg).trans rfl) : t5372 134 i5370.toNatClampNeg = t4118 134 i5370.toNatClampNeg).symm.trans z6621) (by omega) (by omega)) (fun j => ((M6626.2 134 j (Or.inl (by decide))).trans ((kp5386 j).trans rfl))) (lv_sub hl [1, 0] rfl) (by omega)
              exact L5383 _ t4118 _ _ _ v4148 X4121 I4119 F4120 (R_of r4150 rfl) z4122 z4123 z4124 z4125 z4128 z4131 z4134 (fun h => by exfalso; omega) (fun j h1 h2 => by exfalso; omega) (fun j => rfl) (lv_sub hl [1, 0] rfl) (Nat.lt_succ_self _)
            ·
              have r6636 : R (1) (4) f4132 := ⟨by omega, by omega⟩
              refine r_aload_n S dX12_ferry_66 rfl (lv_at hl 0 rfl) ?_
              refine r_ki (q_V (As := []) (rest := []) (K := 38) (ci := 10) S X4121 (c_X12_line_q l G t4118 I4119 bb nb fc4142 hR4143 ) ck12_243 (Nat.le_of_ble_eq_true rfl) rfl (fun _ => ⟨_, rfl⟩) ⟨_, _, rfl⟩ ⟨Nat.le_of_ble_eq_true rfl, Nat.le_of_ble_eq_true rfl⟩ rfl hl.1 rfl (Nat.le_of_ble_eq_true rfl) dX12_ferry_67 ⟨Nat.le_refl 0, Nat.le_refl 0⟩) X4121 (fun v6640 t6639 H lc q6637 X6638 => ?_)
              unfold po_X12_line_q at q6637
              obtain ⟨q6641, q6642, q6643, q6644, q6645, q6646, q6647, q6648⟩ := q6637
              have F6649 : Fr [(131, 0), (131, 15), (131, 16), (131, 4), (131, 11), (131, 12), (131, 13), (131, 14), (131, 2), (131, 3), (131, 5), (131, 18), (131, 19), (131, 20), (131, 21), (131, 24)] [134, 133, 331, 336] τ t6639 := Fr_call F4120 q6642 (by decide)
              obtain ⟨v6650, z6651⟩ : ∃ x, t6639 131 4 = x := ⟨_, rfl⟩
              rw [z6651] at q6644
              obtain ⟨v6652, z6653⟩ : ∃ x, t6639 131 11 = x := ⟨_, rfl⟩
              rw [z6653] at q6645
              have e6654 := congrArg Int32.toInt z4131
              have e6655 := congrArg Int32.toInt z6651
              have e6656 := congrArg Int32.toInt z4131
              have e6657 := congrArg Int32.toInt z6651
              refine r_if_eq (tgt := 82) S dX12_ferry_70 (by decide) (fun c6658 => ?_) (fun c6658 => ?_)
              ·
                have r6659 : R (0) (0) v6640 := ⟨by omega, by omega⟩
                have p6660 := (QM_0 q6648) (by omega)
                obtain ⟨q6661, e6662, h6663, h6664⟩ := p6660
                refine r_iconst S dX12_ferry_82 (by decide) (fun v6665 z6666 => ?_)
                have r6667 := R_eq z6666
                refine r_aload_n S dX12_ferry_83 rfl (lv_at hl 0 rfl) ?_
                refine r_getn (K := 38) S X6638 (Nat.le_of_ble_eq_true rfl) rfl lk12_177_10 (fun _ => ⟨_, rfl, rfl⟩) dX12_ferry_84 (fun v6668 z6669 => ?_)
                have r6671 := R_any v6668
                refine r_isub S dX12_ferry_87 (fun v6672 z6673 => ?_)
                obtain ⟨e6674, r6675⟩ := i_sub (lo := -2147483648) (hi := 2147483647) z6673 r6667 r6671 rfl
                exact r_ret S hr hlk X6638 ⟨q6641, F6649, (by rw [((q6642 131 2 (by decide)).trans z4123)]; exact R_of q20 rfl), (PF_eq x4136 (fun j _ => ((q6642 133 j (by simp [fz])).trans rfl))), (QF_l (by rw [← he4144, show 940 - f4126.toInt.toNat = (939 - f4126.toInt.toNat) + 1 by omega]; exact sRd_l1 (fun h => by have q := MT_k hR4143.1; rw [z4134] at q; omega) e6662) (by have q1 := h6664; have q2 := congrArg Int32.toInt z6669; omega) (fun j => (((q6642 133 j (by simp [fz])).trans rfl) : t6639 133 j = t4118 133 j).trans (x4138 j)))⟩ rfl dX12_ferry_88
              ·
                have r6676 : R (1) (1) v6640 := ⟨by omega, by omega⟩
                have p6677 := (QM_1 q6648) (by omega)
                obtain ⟨g6678, e6679, hP6680⟩ := p6677
                have e6681 : f4132.toInt = 1 := by have q := MT_k hR4143.1; rw [z4134] at q; have q2 := sSeats_w e6679; omega
                refine r_aload_n S dX12_ferry_73 rfl (lv_at hl 0 rfl) ?_
                refine r_bipush S dX12_ferry_74 (by decide) (fun v6682 z6683 => ?_)
                have r6684 := R_eq z6683
                refine r_ki (q_V (As := [.int v6682]) (rest := []) (K := 38) (ci := 10) S X6638 (c_X12_sign_q l G t6639 q6641 v6682 r6684 bb nb g6678 hP6680 ) ck12_246 (Nat.le_of_ble_eq_true rfl) rfl (fun _ => ⟨_, rfl⟩) ⟨_, _, rfl⟩ ⟨Nat.le_of_ble_eq_true rfl, Nat.le_of_ble_eq_true rfl⟩ rfl hl.1 rfl (Nat.le_of_ble_eq_true rfl) dX12_ferry_76 ⟨Nat.le_refl 0, Nat.le_refl 0⟩) X6638 (fun v6688 t6687 H lc q6685 X6686 => ?_)
                unfold po_X12_sign_q at q6685
                obtain ⟨q6689, q6690, q6691, q6692, q6693, q6694, q6695, q6696⟩ := q6685
                have F6697 : Fr [(131, 0), (131, 15), (131, 16), (131, 4), (131, 11), (131, 12), (131, 13), (131, 14), (131, 2), (131, 3), (131, 5), (131, 18), (131, 19), (131, 20), (131, 21), (131, 24)] [134, 133, 331, 336] τ t6687 := Fr_call F6649 q6690 (by decide)
                obtain ⟨v6698, z6699⟩ : ∃ x, t6687 131 4 = x := ⟨_, rfl⟩
                rw [z6699] at q6692
                obtain ⟨v6700, z6701⟩ : ∃ x, t6687 131 11 = x := ⟨_, rfl⟩
                rw [z6701] at q6693
                have e6702 := congrArg Int32.toInt z6651
                have e6703 := congrArg Int32.toInt z6699
                have e6704 := congrArg Int32.toInt z6653
                have e6705 := congrArg Int32.toInt z6701
                refine r_if_ne (tgt := 89) S dX12_ferry_79 (by decide) (fun c6706 => ?_) (fun c6706 => ?_)
                ·
                  have r6707 : R (1) (1) v6688 := ⟨by omega, by omega⟩
                  have p6708 := (QM_1 q6696) (by omega)
                  obtain ⟨g6709, e6710, hP6711⟩ := p6708
                  refine r_aload_n S dX12_ferry_89 rfl (lv_at hl 0 rfl) ?_
                  refine r_dup S dX12_ferry_90 rfl ?_
                  refine r_geti (K := 38) S X6686 (Nat.le_of_ble_eq_true rfl) rfl lk12_240_10 (fun _ => ⟨_, rfl, rfl⟩) ((q6690 131 19 (by decide)).trans ((q6642 131 19 (by decide)).trans z4128)) dX12_ferry_91 ?_
                  refine r_iconst S dX12_ferry_94 (by decide) (fun v6712 z6713 => ?_)
                  have r6714 := R_eq z6713
                  refine r_iadd S dX12_ferry_95 (fun v6715 z6716 => ?_)
                  obtain ⟨e6717, r6718⟩ := i_add (lo := 1) (hi := 940) z6716 r4145 r6714 rfl
                  refine r_put (K := 38) (ty := .int) S X6686 (Nat.le_of_ble_eq_true rfl) rfl lk12_240_10 (fun _ => ⟨_, rfl, Nat.le_of_ble_eq_true rfl, rfl⟩) (fun _ _ _ h => by cases h; exact ⟨rfl, rfl⟩) rfl rfl dX12_ferry_96 (fun t6719 H lc M6720 X6721 => ?_)
                  have I6722 := Inv_mu q6689 M6720 (R_any v6715)
                  have F6723 : Fr [(131, 0), (131, 15), (131, 16), (131, 4), (131, 11), (131, 12), (131, 13), (131, 14), (131, 2), (131, 3), (131, 5), (131, 18), (131, 19), (131, 20), (131, 21), (131, 24)] [134, 133, 331, 336] τ t6719 := Fr_mu F6697 M6720 (by decide)
                  refine r_goto (tgt := 59) S dX12_ferry_99 (by decide) ?_
                  exact ih4141 t6719 _ _ _ v6715 v6698 v6700 X6721 I6722 F6723 ((M6720.2 131 0 (Or.inr (by decide))).trans ((q6690 131 0 (by decide)).trans ((q6642 131 0 (by decide)).trans z4122))) ((M6720.2 131 2 (Or.inr (by decide))).trans ((q6690 131 2 (by decide)).trans ((q6642 131 2 (by decide)).trans z4123))) ((M6720.2 131 3 (Or.inr (by decide))).trans ((q6690 131 3 (by decide)).trans ((q6642 131 3 (by decide)).trans z4124))) ((M6720.2 131 5 (Or.inr (by decide))).trans ((q6690 131 5 (by decide)).trans ((q6642 131 5 (by decide)).trans z4125))) M6720.1 ⟨by omega, by omega⟩ ((M6720.2 131 4 (Or.inr (by decide))).trans z6699) ⟨by omega, by omega⟩ ((M6720.2 131 11 (Or.inr (by decide))).trans z6701) ⟨by omega, by omega⟩ (PF_eq x4136 (fun j _ => ((M6720.2 133 j (Or.inl (by decide))).trans ((q6690 133 j (by simp [fz])).trans ((q6642 133 j (by simp [fz])).trans rfl))))) ⟨g6709, (RM_fr hP6711 ((M6720.2 131 3 (Or.inr (by decide))).trans rfl) ((M6720.2 131 4 (Or.inr (by decide))).trans rfl) ((M6720.2 131 5 (Or.inr (by decide))).trans rfl) ((M6720.2 131 11 (Or.inr (by decide))).trans rfl) ((M6720.2 131 12 (Or.inr (by decide))).trans rfl) ((M6720.2 131 14 (Or.inr (by decide))).trans rfl) (fun j => ((M6720.2 132 j (Or.inl (by decide))).trans rfl)) (fun j => ((M6720.2 331 j (Or.inl (by decide))).trans rfl)) ((M6720.2 131 20 (Or.inr (by decide))).trans rfl) (fun j => ((M6720.2 134 j (Or.inl (by decide))).trans rfl)) (fun j => ((M6720.2 336 j (Or.inl (by decide))).trans rfl)) (fun j => ((M6720.2 337 j (Or.inl (by decide))).trans rfl))), (by rw [← he4144, show 940 - f4126.toInt.toNat = (940 - v6715.toInt.toNat) + 1 by omega, show v6715.toInt.toNat = f4126.toInt.toNat + 1 by omega]; exact (sRd_r (fun h => by have q := MT_k hR4143.1; rw [z4134] at q; omega) e6679 e6710).symm)⟩ (fun j => (((M6720.2 133 j (Or.inl (by decide))).trans ((q6690 133 j (by simp [fz])).trans ((q6642 133 j (by simp [fz])).trans rfl))) : t6719 133 j = t4118 133 j).trans (x4138 j)) ⟨by omega, by omega⟩ (fun h => by omega) (lv_sub hl [0] rfl) (by omega)
                ·
                  have r6724 : R (0) (0) v6688 := ⟨by omega, by omega⟩
                  have p6725 := (QM_0 q6696) (by omega)
                  obtain ⟨q6726, e6727, h6728, h6729⟩ := p6725
                  refine r_iconst S dX12_ferry_82 (by decide) (fun v6730 z6731 => ?_)
                  have r6732 := R_eq z6731
                  refine r_aload_n S dX12_ferry_83 rfl (lv_at hl 0 rfl) ?_
                  refine r_getn (K := 38) S X6686 (Nat.le_of_ble_eq_true rfl) rfl lk12_177_10 (fun _ => ⟨_, rfl, rfl⟩) dX12_ferry_84 (fun v6733 z6734 => ?_)
                  have r6736 := R_any v6733
                  refine r_isub S dX12_ferry_87 (fun v6737 z6738 => ?_)
                  obtain ⟨e6739, r6740⟩ := i_sub (lo := -2147483648) (hi := 2147483647) z6738 r6732 r6736 rfl
                  exact r_ret S hr hlk X6686 ⟨q6689, F6697, (by rw [((q6690 131 2 (by decide)).trans ((q6642 131 2 (by decide)).trans z4123))]; exact R_of q20 rfl), (PF_eq x4136 (fun j _ => ((q6690 133 j (by simp [fz])).trans ((q6642 133 j (by simp [fz])).trans rfl)))), (QF_l (by rw [← he4144, show 940 - f4126.toInt.toNat = (939 - f4126.toInt.toNat) + 1 by omega]; exact sRd_l2 (fun h => by have q := MT_k hR4143.1; rw [z4134] at q; omega) e6679 e6727) (by have q1 := h6729; have q2 := congrArg Int32.toInt z6734; omega) (fun j => (((q6690 133 j (by simp [fz])).trans ((q6642 133 j (by simp [fz])).trans rfl)) : t6687 133 j = t4118 133 j).trans (x4138 j)))⟩ rfl dX12_ferry_88
        exact L4135 _ t726 _ _ _ v37 v735 v737 X725 q727 F734 ((q728 131 0 (by decide)).trans ((M718.2 131 0 (Or.inl (by decide))).trans z693)) ((q728 131 2 (by decide)).trans ((M718.2 131 2 (Or.inl (by decide))).trans z694)) ((q728 131 3 (by decide)).trans ((M718.2 131 3 (Or.inl (by decide))).trans z695)) ((q728 131 5 (by decide)).trans ((M718.2 131 5 (Or.inl (by decide))).trans z697)) ((q728 131 19 (by decide)).trans ((M718.2 131 19 (Or.inl (by decide))).trans z699)) ⟨by omega, by omega⟩ z736 ⟨by omega, by omega⟩ z738 ⟨by omega, by omega⟩ (PF_eq x702 (fun j _ => ((q728 133 j (by simp [fz])).trans ((M718.2 133 j (Or.inl (by decide))).trans rfl)))) ⟨stp bb nb ((0, 0, 0), ps0), hR744, (by rw [show v37.toInt.toNat = 0 by omega]; rfl)⟩ (fun j => (((q728 133 j (by simp [fz])).trans ((M718.2 133 j (Or.inl (by decide))).trans rfl)) : t726 133 j = t689 133 j).trans (x704 j)) ⟨by omega, by omega⟩ (fun h => by omega) (lv_sub hl [0] rfl) (Nat.lt_succ_self _)
      ·
        have r6741 : R (0) (124) i687 := ⟨by omega, by omega⟩
        refine r_aload_n S dX12_ferry_35 rfl (lv_at hl 0 rfl) ?_
        refine r_get (K := 38) (v := .ref (G.2.2.2.1 134)) S X692 (Nat.le_of_ble_eq_true rfl) rfl lk12_37_10 (fun _ => ⟨_, rfl, rfl⟩) dX12_ferry_36 ?_
        refine r_iload_n S dX12_ferry_39 rfl (lv_at hl 1 rfl) ?_
        refine r_iconst S dX12_ferry_40 (by decide) (fun v6742 z6743 => ?_)
        have r6744 := R_eq z6743
        refine r_ast (n := 125) (K := 41) S X692 (Nat.le_of_ble_eq_true rfl) rfl (fun _ _ => rfl) (ix_of r6741 rfl) dX12_ferry_41 (fun t6745 H lc M6746 X6747 => ?_)
        have I6748 := Inv_mu I690 M6746 (show Rg (kd 134) _ v6742 from wrs (K := 41) (a := 0) (n := 125) (R_of r6741 rfl) (R_of (lo := 0) (hi := 8) r6744 rfl) (by decide +kernel))
        have F6749 : Fr [(131, 0), (131, 15), (131, 16), (131, 4), (131, 11), (131, 12), (131, 13), (131, 14), (131, 2), (131, 3), (131, 5), (131, 18), (131, 19), (131, 20), (131, 21), (131, 24)] [134, 133, 331, 336] τ t6745 := Fr_cell F691 M6746 (by decide)
        refine r_iinc (k := 1) S dX12_ferry_42 hl rfl (by decide) (by decide) (fun v6750 d6751 ls z6752 z6753 hl => ?_)
        obtain ⟨e6754, r6755⟩ := i_add (lo := 1) (hi := 125) z6752 r6741 (R_eq z6753) rfl
        have hl : lv_has ls 2 [(1, .int v6750), (0, .ref (G.2.2.2.1 131))] := hl
        refine r_goto (tgt := 29) S dX12_ferry_45 (by decide) ?_
        exact ih705 t6745 _ _ _ v6750 X6747 I6748 F6749 (R_of r6755 rfl) ((M6746.2 131 0 (Or.inl (by decide))).trans z693) ((M6746.2 131 2 (Or.inl (by decide))).trans z694) ((M6746.2 131 3 (Or.inl (by decide))).trans z695) ((M6746.2 131 4 (Or.inl (by decide))).trans z696) ((M6746.2 131 5 (Or.inl (by decide))).trans z697) ((M6746.2 131 15 (Or.inl (by decide))).trans z698) ((M6746.2 131 19 (Or.inl (by decide))).trans z699) ((M6746.2 131 20 (Or.inl (by decide))).trans z700) (PF_eq x702 (fun j _ => ((M6746.2 133 j (Or.inl (by decide))).trans rfl))) (zero_up x703 M6746 (by omega) (by omega) (by omega)) (fun j => (((M6746.2 133 j (Or.inl (by decide))).trans rfl) : t6745 133 j = t689 133 j).trans (x704 j)) (lv_sub hl [1, 0] rfl) (by omega)
  exact L701 _ t48 _ _ _ v53 X50 I51 F52 (R_of r55 rfl) ((M49.2 131 0 (Or.inr (by decide))).trans ((M41.2 131 0 (Or.inr (by decide))).trans ((M33.2 131 0 (Or.inr (by decide))).trans ((q19 131 0 (by decide)).trans M8.1)))) ((M49.2 131 2 (Or.inr (by decide))).trans ((M41.2 131 2 (Or.inr (by decide))).trans ((M33.2 131 2 (Or.inr (by decide))).trans z26))) ((M49.2 131 3 (Or.inr (by decide))).trans ((M41.2 131 3 (Or.inr (by decide))).trans ((M33.2 131 3 (Or.inr (by decide))).trans (q21.trans ((M8.2 131 2 (Or.inr (by decide))).trans z2))))) ((M49.2 131 4 (Or.inr (by decide))).trans ((M41.2 131 4 (Or.inr (by decide))).trans ((M33.2 131 4 (Or.inr (by decide))).trans z28))) ((M49.2 131 5 (Or.inr (by decide))).trans ((M41.2 131 5 (Or.inr (by decide))).trans ((M33.2 131 5 (Or.inr (by decide))).trans q23))) ((M49.2 131 15 (Or.inr (by decide))).trans ((M41.2 131 15 (Or.inr (by decide))).trans M33.1)) ((M49.2 131 19 (Or.inr (by decide))).trans M41.1) M49.1 (PF_eq hp_0 (fun j _ => ((M49.2 133 j (Or.inl (by decide))).trans ((M41.2 133 j (Or.inl (by decide))).trans ((M33.2 133 j (Or.inl (by decide))).trans ((q19 133 j (by simp [fz])).trans ((M8.2 133 j (Or.inl (by decide))).trans rfl))))))) (fun j hj => by exfalso; omega) (fun j => ((M49.2 133 j (Or.inl (by decide))).trans ((M41.2 133 j (Or.inl (by decide))).trans ((M33.2 133 j (Or.inl (by decide))).trans ((q19 133 j (by simp [fz])).trans ((M8.2 133 j (Or.inl (by decide))).trans rfl)))))) (lv_sub hl [1, 0] rfl) (Nat.lt_succ_self _)
