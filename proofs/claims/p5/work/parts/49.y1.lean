def po_X12_readSet_t (τ : Tau)  (a0 : Int32)  (bb : Nat → Int) (nb : Nat) (an mn : List (List Int)) (t : Tk) (r : Int32) (u : Tau) : Prop := Inv u ∧ Fr [(131, 15), (131, 16), (131, 4), (131, 11), (131, 12), (131, 13), (131, 14), (131, 18)] [135, 331] τ u ∧ R (0) (1) r ∧ (r.toInt = 1 → R (0) (0) (u 131 15)) ∧ R (0) (940) (u 131 4) ∧ R (0) (4) (u 131 11) ∧ (τ 131 4).toInt ≤ (u 131 4).toInt ∧ (∀ j : Nat, j ≠ a0.toNatClampNeg → u 135 j = τ 135 j) ∧ (r.toInt = 1 → R 0 1023 (u 135 a0.toNatClampNeg)) ∧ (r.toInt = 1 ∧ 1 ≤ (u 131 11).toInt ∧ (u 131 11).toInt ≤ 3 → (τ 131 4).toInt < (u 131 4).toInt) ∧ QM (lCr bb nb 400 mn 11 (fun _ => false) t) r u (fun g => MG bb nb 400 an mn u g)
set_option maxHeartbeats 4000000 in
set_option maxRecDepth 100000 in
theorem c_X12_readSet_t (l : Launch) (G : Gx) (τ : Tau) (hI : Inv τ) (a0 : Int32) (h_a0 : R (1) (157) a0) (hf_0 : R (0) (0) (τ 131 15)) (bb : Nat → Int) (nb : Nat) (an mn : List (List Int)) (t : Tk) (hR : MG bb nb 400 an mn τ t) : Ci l G yX12_readSet cX12_readSet 2 (some .boolean) 2 45 [.ref (G.2.2.2.1 131), .int a0] τ (po_X12_readSet_t τ  a0  bb nb an mn t) := by
  unfold Ci
  refine C_of (own := RX12) (by decide) rfl (Nat.le_of_ble_eq_true rfl) ?_
  intro p e s m below meth c ls S hr hlk X hl
  have hl : lv_has ls 2 [(0, .ref (G.2.2.2.1 131)), (1, .int a0)] := hl
  obtain ⟨v1, z2⟩ : ∃ x, τ 131 15 = x := ⟨_, rfl⟩
  rw [z2] at hf_0
  obtain ⟨v3, z4⟩ : ∃ x, τ 131 4 = x := ⟨_, rfl⟩
  have r5 : R (0) (940) v3 := rd hI rfl z4
  obtain ⟨v6, z7⟩ : ∃ x, τ 131 11 = x := ⟨_, rfl⟩
  have r8 : R (0) (4) v6 := rd hI rfl z7
  refine r_aload_n S dX12_readSet_0 rfl (lv_at hl 0 rfl) ?_
  refine r_get (K := 38) (v := .ref (G.2.2.2.1 135)) S X (Nat.le_of_ble_eq_true rfl) rfl lk12_40_10 (fun _ => ⟨_, rfl, rfl⟩) dX12_readSet_1 ?_
  refine r_iload_n S dX12_readSet_4 rfl (lv_at hl 1 rfl) ?_
  refine r_iconst S dX12_readSet_5 (by decide) (fun v9 z10 => ?_)
  have r11 := R_eq z10
  refine r_ast (n := 160) (K := 42) S X (Nat.le_of_ble_eq_true rfl) rfl (fun _ _ => rfl) (ix_of h_a0 rfl) dX12_readSet_6 (fun t12 H lc M13 X14 => ?_)
  have I15 := Inv_mu hI M13 (R_any v9)
  have F16 : Fr [(131, 15), (131, 16), (131, 4), (131, 11), (131, 12), (131, 13), (131, 14), (131, 18)] [135, 331] τ t12 := Fr_cell Fr_rfl M13 (by decide)
  have L744 : ∀ (n : Nat) (t731 : Tau) (H : Heap) (lc : List Loc) (ls : Array Slot) (f735 : Int32) (f738 : Int32) (f741 : Int32), Xd G s H lc t731 → Inv t731 → Fr [(131, 15), (131, 16), (131, 4), (131, 11), (131, 12), (131, 13), (131, 14), (131, 18)] [135, 331] τ t731 → t731 131 15 = f735 → R (0) (0) f735 → t731 131 4 = f738 → R (0) (940) f738 → t731 131 11 = f741 → R (0) (4) f741 → (∀ j : Nat, j ≠ a0.toNatClampNeg → t731 135 j = τ 135 j) → R 0 1023 (t731 135 a0.toNatClampNeg) → ((t731 135 a0.toNatClampNeg).toInt ≠ 0 → 1 ≤ f741.toInt → f741.toInt ≤ 3 → v3.toInt < f738.toInt) → v3.toInt ≤ f738.toInt → (∃ (tc : Tk) (op : Nat → Bool), MG bb nb 400 an mn t731 tc ∧ BS (t731 135 a0.toNatClampNeg) op ∧ ((t731 135 a0.toNatClampNeg).toInt ≠ 0 → 0 < cnt10 op) ∧ lCr bb nb 400 mn (11 - cnt10 op) op tc = lCr bb nb 400 mn 11 (fun _ => false) t) → lv_has ls 2 [(0, .ref (G.2.2.2.1 131)), (1, .int a0)] → (2 * (940 - f738.toInt) + (if 1 ≤ f741.toInt ∧ f741.toInt ≤ 3 then 1 else 0)).toNat < n → W p l e (Rm 2 45) s m ([.ref (G.2.2.2.1 131), .int a0] : List Value).toArray below meth c H lc 0 0 (MQ below (va_Qi (po_X12_readSet_t τ  a0  bb nb an mn t) (Bs G) G.2.2.2.2) ([.ref (G.2.2.2.1 131), .int a0] : List Value).toArray s 0 0 G.2.2.2.2) (F0 m 7 ls []) := by
    intro n
    induction n with
    | zero => intros; omega
    | succ n ih750 =>
      intro t731 H lc ls f735 f738 f741 X734 I732 F733 z737 r736 z740 r739 z743 r742 x745 x746 x747 x748 x749 hl hm
      obtain ⟨tc751, op752, hR753, hB754, hz755, he756⟩ := x749
      refine r_aload_n S dX12_readSet_7 rfl (lv_at hl 0 rfl) ?_
      refine r_get (K := 38) (v := .ref (G.2.2.2.1 135)) S X734 (Nat.le_of_ble_eq_true rfl) rfl lk12_40_10 (fun _ => ⟨_, rfl, rfl⟩) dX12_readSet_8 ?_
      refine r_iload_n S dX12_readSet_11 rfl (lv_at hl 1 rfl) ?_
      refine r_aldn (n := 160) (K := 42) S X734 (Nat.le_of_ble_eq_true rfl) rfl (fun _ => rfl) (ix_of h_a0 rfl) dX12_readSet_12 (fun v757 z758 => ?_)
      have r760 := R_any v757
      have r761 : R 0 1023 v757 := by rw [← z758]; exact x746
      refine r_if_eq (tgt := 25) S dX12_readSet_13 (by decide) (fun c762 => ?_) (fun c762 => ?_)
      ·
        have r763 : R (0) (0) v757 := ⟨by omega, by omega⟩
        refine r_aload_n S dX12_readSet_25 rfl (lv_at hl 0 rfl) ?_
        refine r_bipush S dX12_readSet_26 (by decide) (fun v764 z765 => ?_)
        have r766 := R_eq z765
        refine r_aload_n S dX12_readSet_28 rfl (lv_at hl 0 rfl) ?_
        refine r_get (K := 38) (v := .ref (G.2.2.2.1 133)) S X734 (Nat.le_of_ble_eq_true rfl) rfl lk12_33_10 (fun _ => ⟨_, rfl, rfl⟩) dX12_readSet_29 ?_
        refine r_iconst S dX12_readSet_32 (by decide) (fun v767 z768 => ?_)
        have r769 := R_eq z768
        refine r_aldn (n := 513) (K := 40) S X734 (Nat.le_of_ble_eq_true rfl) rfl (fun _ => rfl) (ix_of r769 rfl) dX12_readSet_33 (fun v770 z771 => ?_)
        have r772 : R (0) (10) v770 := rds (K := 40) (a := 1) (n := 1) I732 rfl z771 (R_of r769 rfl) (by decide +kernel)
        refine r_ki (q_V (As := [.int v764, .int v770]) (rest := []) (K := 38) (ci := 10) S X734 (c_X12_looksAt_tm l G t731 I732 v764 v770 r766 r772 (by rw [z737]; exact R_of r736 rfl) bb nb an mn tc751 hR753 (by have q := hR753.2.2.1.1; rw [(zc (n := 1) (by omega) z771)] at q; exact q)) ck12_204 (Nat.le_of_ble_eq_true rfl) rfl (fun _ => ⟨_, rfl⟩) ⟨_, _, rfl⟩ ⟨Nat.le_of_ble_eq_true rfl, Nat.le_of_ble_eq_true rfl⟩ rfl hl.1 rfl (Nat.le_of_ble_eq_true rfl) dX12_readSet_34 ⟨Nat.le_refl 0, Nat.le_refl 0⟩) X734 (fun v776 t775 H lc q773 X774 => ?_)
        unfold po_X12_looksAt_tm at q773
        obtain ⟨q777, q778, q779, q780, q781, q782⟩ := q773
        have F783 : Fr [(131, 15), (131, 16), (131, 4), (131, 11), (131, 12), (131, 13), (131, 14), (131, 18)] [135, 331] τ t775 := Fr_call F733 q778 (by decide)
        have e784 := congrArg Int32.toInt z743
        have e785 := congrArg Int32.toInt ((q778 131 11 (by decide)).trans z743)
        refine r_if_ne (tgt := 42) S dX12_readSet_37 (by decide) (fun c786 => ?_) (fun c786 => ?_)
        ·
          have r787 : R (1) (1) v776 := ⟨by omega, by omega⟩
          obtain ⟨p788, p789⟩ := q780 (by omega)
          obtain ⟨v790, z791⟩ : ∃ x, t775 131 18 = x := ⟨_, rfl⟩
          rw [z791] at p788
          obtain ⟨v792, z793⟩ : ∃ x, t775 131 15 = x := ⟨_, rfl⟩
          rw [z793] at p789
          have p794 := (QM_1 q782) (by omega)
          obtain ⟨g795, e796, hP797⟩ := p794
          refine r_aload_n S dX12_readSet_42 rfl (lv_at hl 0 rfl) ?_
          refine r_get (K := 38) (v := .ref (G.2.2.2.1 135)) S X774 (Nat.le_of_ble_eq_true rfl) rfl lk12_40_10 (fun _ => ⟨_, rfl, rfl⟩) dX12_readSet_43 ?_
          refine r_iload_n S dX12_readSet_46 rfl (lv_at hl 1 rfl) ?_
          refine r_aldn (n := 160) (K := 42) S X774 (Nat.le_of_ble_eq_true rfl) rfl (fun _ => rfl) (ix_of h_a0 rfl) dX12_readSet_47 (fun v798 z799 => ?_)
          have r801 := R_any v798
          have r802 : R 0 1023 v798 := by rw [← z799, ((q778 135 a0.toNatClampNeg (by simp [fz])).trans rfl)]; exact x746
          refine r_aload_n S dX12_readSet_48 rfl (lv_at hl 0 rfl) ?_
          refine r_geti (K := 38) S X774 (Nat.le_of_ble_eq_true rfl) rfl lk12_193_10 (fun _ => ⟨_, rfl, rfl⟩) z791 dX12_readSet_49 ?_
          have e803 : v790.toInt = g795 := by rw [← z791]; exact hP797.1
          refine r_ki (q_S (As := [.int v798, .int v790]) (rest := []) S X774 (c_X12_bitOf_q l G t775 q777 v798 v790 (R_of (lo := -2147483648) (hi := 2147483647) r802 rfl) p788) ck12_221 ⟨Nat.le_of_ble_eq_true rfl, Nat.le_of_ble_eq_true rfl⟩ rfl hl.1 rfl (Nat.le_of_ble_eq_true rfl) dX12_readSet_52 ⟨Nat.le_refl 0, Nat.le_refl 0⟩) X774 (fun v807 t806 H lc q804 X805 => ?_)
          unfold po_X12_bitOf_q at q804
          obtain ⟨q808, q809, q810⟩ := q804
          rw [q808] at X805
          refine r_if_eq (tgt := 64) S dX12_readSet_55 (by decide) (fun c811 => ?_) (fun c811 => ?_)
          ·
            have r812 : R (0) (0) v807 := ⟨by omega, by omega⟩
            have p813 := (iff_n q810) (by omega)
            refine r_aload_n S dX12_readSet_64 rfl (lv_at hl 0 rfl) ?_
            refine r_get (K := 38) (v := .ref (G.2.2.2.1 135)) S X805 (Nat.le_of_ble_eq_true rfl) rfl lk12_40_10 (fun _ => ⟨_, rfl, rfl⟩) dX12_readSet_65 ?_
            refine r_iload_n S dX12_readSet_68 rfl (lv_at hl 1 rfl) ?_
            refine r_dup2 S dX12_readSet_69 rfl rfl ?_
            refine r_aldn (n := 160) (K := 42) S X805 (Nat.le_of_ble_eq_true rfl) rfl (fun _ => rfl) (ix_of h_a0 rfl) dX12_readSet_70 (fun v814 z815 => ?_)
            have r817 := R_any v814
            have r818 : R 0 1023 v814 := by rw [← z815, ((q778 135 a0.toNatClampNeg (by simp [fz])).trans rfl)]; exact x746
            refine r_iconst S dX12_readSet_71 (by decide) (fun v819 z820 => ?_)
            have r821 := R_eq z820
            refine r_aload_n S dX12_readSet_72 rfl (lv_at hl 0 rfl) ?_
            refine r_geti (K := 38) S X805 (Nat.le_of_ble_eq_true rfl) rfl lk12_193_10 (fun _ => ⟨_, rfl, rfl⟩) z791 dX12_readSet_73 ?_
            refine r_ishl S dX12_readSet_76 (fun v822 z823 => ?_)
            have r825 : R (1) (512) v822 := i_shl z823 r821 p788 rfl
            refine r_ior S dX12_readSet_77 (fun v826 z827 => ?_)
            have r829 : R (0) (1023) v826 := i_or 10 z827 r818 r825 rfl
            refine r_ast (n := 160) (K := 42) S X805 (Nat.le_of_ble_eq_true rfl) rfl (fun _ _ => rfl) (ix_of h_a0 rfl) dX12_readSet_78 (fun t830 H lc M831 X832 => ?_)
            have I833 := Inv_mu q777 M831 (R_any v826)
            have F834 : Fr [(131, 15), (131, 16), (131, 4), (131, 11), (131, 12), (131, 13), (131, 14), (131, 18)] [135, 331] τ t830 := Fr_cell F783 M831 (by decide)
            refine r_aload_n S dX12_readSet_79 rfl (lv_at hl 0 rfl) ?_
            refine r_kv (q_V (As := []) (rest := []) (K := 38) (ci := 10) S X832 (c_X12_skip_q l G t830 I833 bb nb 400 tc751.2.2 (MT_st (MG_fr hP797.2 ((M831.2 131 3 (Or.inl (by decide))).trans rfl) ((M831.2 131 4 (Or.inl (by decide))).trans rfl) ((M831.2 131 5 (Or.inl (by decide))).trans rfl) ((M831.2 131 11 (Or.inl (by decide))).trans rfl) ((M831.2 131 12 (Or.inl (by decide))).trans rfl) ((M831.2 131 14 (Or.inl (by decide))).trans rfl) (fun j => ((M831.2 132 j (Or.inl (by decide))).trans rfl)) (fun j => ((M831.2 331 j (Or.inl (by decide))).trans rfl)) ((M831.2 133 0 (Or.inl (by decide))).trans rfl) ((M831.2 133 1 (Or.inl (by decide))).trans rfl) (fun j => ((M831.2 336 j (Or.inl (by decide))).trans rfl)) (fun j => ((M831.2 337 j (Or.inl (by decide))).trans rfl))).1 (Or.inl (sLook_n e796).1)).1 (MT_st (MG_fr hP797.2 ((M831.2 131 3 (Or.inl (by decide))).trans rfl) ((M831.2 131 4 (Or.inl (by decide))).trans rfl) ((M831.2 131 5 (Or.inl (by decide))).trans rfl) ((M831.2 131 11 (Or.inl (by decide))).trans rfl) ((M831.2 131 12 (Or.inl (by decide))).trans rfl) ((M831.2 131 14 (Or.inl (by decide))).trans rfl) (fun j => ((M831.2 132 j (Or.inl (by decide))).trans rfl)) (fun j => ((M831.2 331 j (Or.inl (by decide))).trans rfl)) ((M831.2 133 0 (Or.inl (by decide))).trans rfl) ((M831.2 133 1 (Or.inl (by decide))).trans rfl) (fun j => ((M831.2 336 j (Or.inl (by decide))).trans rfl)) (fun j => ((M831.2 337 j (Or.inl (by decide))).trans rfl))).1 (Or.inl (sLook_n e796).1)).2.1 (MT_st (MG_fr hP797.2 ((M831.2 131 3 (Or.inl (by decide))).trans rfl) ((M831.2 131 4 (Or.inl (by decide))).trans rfl) ((M831.2 131 5 (Or.inl (by decide))).trans rfl) ((M831.2 131 11 (Or.inl (by decide))).trans rfl) ((M831.2 131 12 (Or.inl (by decide))).trans rfl) ((M831.2 131 14 (Or.inl (by decide))).trans rfl) (fun j => ((M831.2 132 j (Or.inl (by decide))).trans rfl)) (fun j => ((M831.2 331 j (Or.inl (by decide))).trans rfl)) ((M831.2 133 0 (Or.inl (by decide))).trans rfl) ((M831.2 133 1 (Or.inl (by decide))).trans rfl) (fun j => ((M831.2 336 j (Or.inl (by decide))).trans rfl)) (fun j => ((M831.2 337 j (Or.inl (by decide))).trans rfl))).1 (Or.inl (sLook_n e796).1)).2.2) ck12_186 (Nat.le_of_ble_eq_true rfl) rfl (fun _ => ⟨_, rfl⟩) ⟨_, _, rfl⟩ ⟨Nat.le_of_ble_eq_true rfl, Nat.le_of_ble_eq_true rfl⟩ rfl hl.1 rfl (Nat.le_of_ble_eq_true rfl) dX12_readSet_80 ⟨Nat.le_refl 0, Nat.le_refl 0⟩) X832 (fun t837 H lc q835 X836 => ?_)
            unfold po_X12_skip_q at q835
            obtain ⟨q838, q839, q840, q841, q842, q843, q844⟩ := q835
            have F845 : Fr [(131, 15), (131, 16), (131, 4), (131, 11), (131, 12), (131, 13), (131, 14), (131, 18)] [135, 331] τ t837 := Fr_call F834 q839 (by decide)
            obtain ⟨v846, z847⟩ : ∃ x, t837 131 4 = x := ⟨_, rfl⟩
            rw [z847] at q840
            obtain ⟨v848, z849⟩ : ∃ x, t837 131 11 = x := ⟨_, rfl⟩
            rw [z849] at q841
            have e850 := congrArg Int32.toInt ((M831.2 131 4 (Or.inl (by decide))).trans ((q778 131 4 (by decide)).trans z740))
            have e851 := congrArg Int32.toInt z847
            have e852 := congrArg Int32.toInt ((M831.2 131 4 (Or.inl (by decide))).trans ((q778 131 4 (by decide)).trans z740))
            have e853 := congrArg Int32.toInt z847
            have e854 := congrArg Int32.toInt ((M831.2 131 11 (Or.inl (by decide))).trans ((q778 131 11 (by decide)).trans z743))
            have e855 := congrArg Int32.toInt z849
            have hR856 : MG bb nb 400 an mn t837 (nx bb nb 400 tc751) := ⟨q844, NR_fr hP797.2.2 ((q839 133 0 (by decide)).trans ((M831.2 133 0 (Or.inl (by decide))).trans rfl)) ((q839 133 1 (by decide)).trans ((M831.2 133 1 (Or.inl (by decide))).trans rfl)) (fun j => ((q839 336 j (by simp [fz])).trans ((M831.2 336 j (Or.inl (by decide))).trans rfl))) (fun j => ((q839 337 j (by simp [fz])).trans ((M831.2 337 j (Or.inl (by decide))).trans rfl)))⟩
            refine r_goto (tgt := 7) S dX12_readSet_83 (by decide) ?_
            exact ih750 t837 _ _ _ v792 v846 v848 X836 q838 F845 ((q839 131 15 (by decide)).trans ((M831.2 131 15 (Or.inl (by decide))).trans z793)) ⟨by omega, by omega⟩ z847 ⟨by omega, by omega⟩ z849 ⟨by omega, by omega⟩ (fun j hj => ((q839 135 j (by simp [fz])).trans ((M831.2 135 j (Or.inr hj)).trans ((q778 135 j (by simp [fz])).trans rfl))).trans (x745 j hj)) (show R 0 1023 (t837 135 a0.toNatClampNeg) by rw [show t837 135 a0.toNatClampNeg = _ from ((q839 135 a0.toNatClampNeg (by simp [fz])).trans rfl).trans M831.1]; exact ⟨by omega, by omega⟩) (fun _ _ _ => by omega) (by omega) ⟨(nx bb nb 400 tc751), (fun j => op752 j || j == g795), hR856, (by rw [(show t837 135 a0.toNatClampNeg = v826 from (((q839 135 a0.toNatClampNeg (by simp [fz])).trans rfl)).trans M831.1)]; exact BS_or (by rw [(show t731 135 a0.toNatClampNeg = v814 from (((q778 135 a0.toNatClampNeg (by simp [fz])).trans rfl)).symm.trans z815)] at hB754; exact hB754 : BS v814 op752) (by rw [z827, z823, show v819 = 1 from Int32.toInt_inj.mp (by show v819.toInt = 1; omega)]) ⟨by omega, by omega⟩ (by omega)), (fun _ => by rw [cnt10_up (by omega) (fun h => p813 (by have q := (by have q := hB754 g795 (by omega); rw [(show t731 135 a0.toNatClampNeg = v798 from (((q778 135 a0.toNatClampNeg (by simp [fz])).trans rfl)).symm.trans z799)] at q; exact q : kb v798 g795 ↔ op752 g795 = true).mpr h; rw [show v790.toInt.toNat = g795 by omega]; exact q))]; omega), (by rw [cnt10_up (by omega) (fun h => p813 (by have q := (by have q := hB754 g795 (by omega); rw [(show t731 135 a0.toNatClampNeg = v798 from (((q778 135 a0.toNatClampNeg (by simp [fz])).trans rfl)).symm.trans z799)] at q; exact q : kb v798 g795 ↔ op752 g795 = true).mpr h; rw [show v790.toInt.toNat = g795 by omega]; exact q)), ← he756, show 11 - cnt10 op752 = (11 - (cnt10 op752 + 1)) + 1 by (have q := cnt10_le op752; omega)]; exact (lCr_r (fun h => absurd h.1 (by rw [BS_z hB754 (by rw [(show t731 135 a0.toNatClampNeg = v757 from z758)]; omega)]; decide)) e796 (fun h => p813 (by have q := (by have q := hB754 g795 (by omega); rw [(show t731 135 a0.toNatClampNeg = v798 from (((q778 135 a0.toNatClampNeg (by simp [fz])).trans rfl)).symm.trans z799)] at q; exact q : kb v798 g795 ↔ op752 g795 = true).mpr h; rw [show v790.toInt.toNat = g795 by omega]; exact q))).symm)⟩ (lv_sub hl [0, 1] rfl) (by omega)
          ·
            have r857 : R (1) (1) v807 := ⟨by omega, by omega⟩
            have p858 := (q810).mp (by omega)
            refine r_aload_n S dX12_readSet_58 rfl (lv_at hl 0 rfl) ?_
            refine r_iconst S dX12_readSet_59 (by decide) (fun v859 z860 => ?_)
            have r861 := R_eq z860
            refine r_ki (q_V (As := [.int v859]) (rest := []) (K := 38) (ci := 10) S X805 (c_X12_bad_q l G t775 q777 v859 (R_of (lo := -2147483648) (hi := 2147483647) r861 rfl)) ck12_183 (Nat.le_of_ble_eq_true rfl) rfl (fun _ => ⟨_, rfl⟩) ⟨_, _, rfl⟩ ⟨Nat.le_of_ble_eq_true rfl, Nat.le_of_ble_eq_true rfl⟩ rfl hl.1 rfl (Nat.le_of_ble_eq_true rfl) dX12_readSet_60 ⟨Nat.le_refl 0, Nat.le_refl 0⟩) X805 (fun v865 t864 H lc q862 X863 => ?_)
            unfold po_X12_bad_q at q862
            obtain ⟨q866, q867, q868, q869⟩ := q862
            have F870 : Fr [(131, 15), (131, 16), (131, 4), (131, 11), (131, 12), (131, 13), (131, 14), (131, 18)] [135, 331] τ t864 := Fr_call F783 q867 (by decide)
            exact r_ret S hr hlk X863 ⟨q866, F870, (R_of q868 rfl), (fun h => by exfalso; omega), (by rw [((q867 131 4 (by decide)).trans ((q778 131 4 (by decide)).trans z740))]; exact R_of r739 rfl), (by rw [((q867 131 11 (by decide)).trans ((q778 131 11 (by decide)).trans z743))]; exact R_of r742 rfl), (by have h1_0 := congrArg Int32.toInt ((q867 131 4 (by decide)).trans ((q778 131 4 (by decide)).trans z740)); have h2_0 := congrArg Int32.toInt z4; omega), (fun j hj => ((q867 135 j (by simp [fz])).trans ((q778 135 j (by simp [fz])).trans rfl)).trans (x745 j hj)), (fun h => by exfalso; omega), (fun h => by exfalso; omega), (QM_b (by rw [← he756, show 11 - cnt10 op752 = (10 - cnt10 op752) + 1 by (have q := cnt10_le op752; omega)]; exact lCr_b (fun h => absurd h.1 (by rw [BS_z hB754 (by rw [(show t731 135 a0.toNatClampNeg = v757 from z758)]; omega)]; decide)) e796 ((by have q := hB754 g795 (by omega); rw [(show t731 135 a0.toNatClampNeg = v798 from (((q778 135 a0.toNatClampNeg (by simp [fz])).trans rfl)).symm.trans z799)] at q; exact q : kb v798 g795 ↔ op752 g795 = true).mp (by have q := p858; rw [show v790.toInt.toNat = g795 by omega] at q; exact q))) (by omega) (by rw [q869.1]; omega) (by rw [q869.2]; exact MG_at hP797.2))⟩ (nr_bool (R_of (lo := 0) (hi := 1) q868 rfl)) dX12_readSet_63
        ·
          have r871 : R (0) (0) v776 := ⟨by omega, by omega⟩
          have p872 := (QM_0 q782) (by omega)
          obtain ⟨q873, e874, h875, h876⟩ := p872
          refine r_iconst S dX12_readSet_40 (by decide) (fun v877 z878 => ?_)
          have r879 := R_eq z878
          exact r_ret S hr hlk X774 ⟨q777, F783, (R_of r879 rfl), (fun h => by exfalso; omega), (by rw [((q778 131 4 (by decide)).trans z740)]; exact R_of r739 rfl), (by rw [((q778 131 11 (by decide)).trans z743)]; exact R_of r742 rfl), (by have h1_0 := congrArg Int32.toInt ((q778 131 4 (by decide)).trans z740); have h2_0 := congrArg Int32.toInt z4; omega), (fun j hj => ((q778 135 j (by simp [fz])).trans rfl).trans (x745 j hj)), (fun h => by exfalso; omega), (fun h => by exfalso; omega), (QM_l (by rw [← he756, show 11 - cnt10 op752 = (10 - cnt10 op752) + 1 by (have q := cnt10_le op752; omega)]; exact lCr_l (fun h => absurd h.1 (by rw [BS_z hB754 (by rw [(show t731 135 a0.toNatClampNeg = v757 from z758)]; omega)]; decide)) e874) (by omega) h875 h876)⟩ (nr_bool (R_of (lo := 0) (hi := 1) r879 rfl)) dX12_readSet_41
      ·
        have r880 : R (1) (1023) v757 := ⟨by omega, by omega⟩
        refine r_aload_n S dX12_readSet_16 rfl (lv_at hl 0 rfl) ?_
        refine r_bipush S dX12_readSet_17 (by decide) (fun v881 z882 => ?_)
        have r883 := R_eq z882
        refine r_ki (q_V (As := [.int v881]) (rest := []) (K := 38) (ci := 10) S X734 (c_X12_isSign_q l G t731 I732 v881 (R_of (lo := -2147483648) (hi := 2147483647) r883 rfl) bb nb 400 tc751 hR753.1) ck12_180 (Nat.le_of_ble_eq_true rfl) rfl (fun _ => ⟨_, rfl⟩) ⟨_, _, rfl⟩ ⟨Nat.le_of_ble_eq_true rfl, Nat.le_of_ble_eq_true rfl⟩ rfl hl.1 rfl (Nat.le_of_ble_eq_true rfl) dX12_readSet_19 ⟨Nat.le_refl 0, Nat.le_refl 0⟩) X734 (fun v887 t886 H lc q884 X885 => ?_)
        unfold po_X12_isSign_q at q884
        obtain ⟨q888, q889, q890⟩ := q884
        rw [q888] at X885
        refine r_if_ne (tgt := 86) S dX12_readSet_22 (by decide) (fun c891 => ?_) (fun c891 => ?_)
        ·
          have r892 : R (1) (1) v887 := ⟨by omega, by omega⟩
          have p893 := (q890).mp (by omega)
          refine r_iconst S dX12_readSet_86 (by decide) (fun v894 z895 => ?_)
          have r896 := R_eq z895
          exact r_ret S hr hlk X885 ⟨I732, F733, (R_of r896 rfl), (fun h => (by rw [z737]; exact R_of r736 rfl)), (by rw [z740]; exact R_of r739 rfl), (by rw [z743]; exact R_of r742 rfl), (by have h1_0 := congrArg Int32.toInt z740; have h2_0 := congrArg Int32.toInt z4; omega), (fun j hj => rfl.trans (x745 j hj)), (fun _ => x746), (fun h => by have a := congrArg Int32.toInt z743; have b := congrArg Int32.toInt z740; have c := congrArg Int32.toInt z4; have d := x747 (by rw [z758]; omega) (by omega) (by omega); omega), (QM_r (by rw [← he756]; exact lCr_e (hz755 (by rw [(show t731 135 a0.toNatClampNeg = v757 from z758)]; omega)) ⟨p893.1, by have q := p893.2; omega⟩) (by omega) hR753)⟩ (nr_bool (R_of (lo := 0) (hi := 1) r896 rfl)) dX12_readSet_87
        ·
          have r897 : R (0) (0) v887 := ⟨by omega, by omega⟩
          have p898 := (iff_n q890) (by omega)
          refine r_aload_n S dX12_readSet_25 rfl (lv_at hl 0 rfl) ?_
          refine r_bipush S dX12_readSet_26 (by decide) (fun v899 z900 => ?_)
          have r901 := R_eq z900
          refine r_aload_n S dX12_readSet_28 rfl (lv_at hl 0 rfl) ?_
          refine r_get (K := 38) (v := .ref (G.2.2.2.1 133)) S X885 (Nat.le_of_ble_eq_true rfl) rfl lk12_33_10 (fun _ => ⟨_, rfl, rfl⟩) dX12_readSet_29 ?_
          refine r_iconst S dX12_readSet_32 (by decide) (fun v902 z903 => ?_)
          have r904 := R_eq z903
          refine r_aldn (n := 513) (K := 40) S X885 (Nat.le_of_ble_eq_true rfl) rfl (fun _ => rfl) (ix_of r904 rfl) dX12_readSet_33 (fun v905 z906 => ?_)
          have r907 : R (0) (10) v905 := rds (K := 40) (a := 1) (n := 1) I732 rfl z906 (R_of r904 rfl) (by decide +kernel)
          refine r_ki (q_V (As := [.int v899, .int v905]) (rest := []) (K := 38) (ci := 10) S X885 (c_X12_looksAt_tm l G t731 I732 v899 v905 r901 r907 (by rw [z737]; exact R_of r736 rfl) bb nb an mn tc751 hR753 (by have q := hR753.2.2.1.1; rw [(zc (n := 1) (by omega) z906)] at q; exact q)) ck12_204 (Nat.le_of_ble_eq_true rfl) rfl (fun _ => ⟨_, rfl⟩) ⟨_, _, rfl⟩ ⟨Nat.le_of_ble_eq_true rfl, Nat.le_of_ble_eq_true rfl⟩ rfl hl.1 rfl (Nat.le_of_ble_eq_true rfl) dX12_readSet_34 ⟨Nat.le_refl 0, Nat.le_refl 0⟩) X885 (fun v911 t910 H lc q908 X909 => ?_)
          unfold po_X12_looksAt_tm at q908
          obtain ⟨q912, q913, q914, q915, q916, q917⟩ := q908
          have F918 : Fr [(131, 15), (131, 16), (131, 4), (131, 11), (131, 12), (131, 13), (131, 14), (131, 18)] [135, 331] τ t910 := Fr_call F733 q913 (by decide)
          have e919 := congrArg Int32.toInt z743
          have e920 := congrArg Int32.toInt ((q913 131 11 (by decide)).trans z743)
          refine r_if_ne (tgt := 42) S dX12_readSet_37 (by decide) (fun c921 => ?_) (fun c921 => ?_)
          ·
            have r922 : R (1) (1) v911 := ⟨by omega, by omega⟩
            obtain ⟨p923, p924⟩ := q915 (by omega)
            obtain ⟨v925, z926⟩ : ∃ x, t910 131 18 = x := ⟨_, rfl⟩
            rw [z926] at p923
            obtain ⟨v927, z928⟩ : ∃ x, t910 131 15 = x := ⟨_, rfl⟩
            rw [z928] at p924
            have p929 := (QM_1 q917) (by omega)
            obtain ⟨g930, e931, hP932⟩ := p929
            refine r_aload_n S dX12_readSet_42 rfl (lv_at hl 0 rfl) ?_
            refine r_get (K := 38) (v := .ref (G.2.2.2.1 135)) S X909 (Nat.le_of_ble_eq_true rfl) rfl lk12_40_10 (fun _ => ⟨_, rfl, rfl⟩) dX12_readSet_43 ?_
            refine r_iload_n S dX12_readSet_46 rfl (lv_at hl 1 rfl) ?_
            refine r_aldn (n := 160) (K := 42) S X909 (Nat.le_of_ble_eq_true rfl) rfl (fun _ => rfl) (ix_of h_a0 rfl) dX12_readSet_47 (fun v933 z934 => ?_)
            have r936 := R_any v933
            have r937 : R 0 1023 v933 := by rw [← z934, ((q913 135 a0.toNatClampNeg (by simp [fz])).trans rfl)]; exact x746
            refine r_aload_n S dX12_readSet_48 rfl (lv_at hl 0 rfl) ?_
            refine r_geti (K := 38) S X909 (Nat.le_of_ble_eq_true rfl) rfl lk12_193_10 (fun _ => ⟨_, rfl, rfl⟩) z926 dX12_readSet_49 ?_
            have e938 : v925.toInt = g930 := by rw [← z926]; exact hP932.1
            refine r_ki (q_S (As := [.int v933, .int v925]) (rest := []) S X909 (c_X12_bitOf_q l G t910 q912 v933 v925 (R_of (lo := -2147483648) (hi := 2147483647) r937 rfl) p923) ck12_221 ⟨Nat.le_of_ble_eq_true rfl, Nat.le_of_ble_eq_true rfl⟩ rfl hl.1 rfl (Nat.le_of_ble_eq_true rfl) dX12_readSet_52 ⟨Nat.le_refl 0, Nat.le_refl 0⟩) X909 (fun v942 t941 H lc q939 X940 => ?_)
            unfold po_X12_bitOf_q at q939
            obtain ⟨q943, q944, q945⟩ := q939
            rw [q943] at X940
            refine r_if_eq (tgt := 64) S dX12_readSet_55 (by decide) (fun c946 => ?_) (fun c946 => ?_)
            ·
              have r947 : R (0) (0) v942 := ⟨by omega, by omega⟩
              have p948 := (iff_n q945) (by omega)
              refine r_aload_n S dX12_readSet_64 rfl (lv_at hl 0 rfl) ?_
              refine r_get (K := 38) (v := .ref (G.2.2.2.1 135)) S X940 (Nat.le_of_ble_eq_true rfl) rfl lk12_40_10 (fun _ => ⟨_, rfl, rfl⟩) dX12_readSet_65 ?_
              refine r_iload_n S dX12_readSet_68 rfl (lv_at hl 1 rfl) ?_
              refine r_dup2 S dX12_readSet_69 rfl rfl ?_
              refine r_aldn (n := 160) (K := 42) S X940 (Nat.le_of_ble_eq_true rfl) rfl (fun _ => rfl) (ix_of h_a0 rfl) dX12_readSet_70 (fun v949 z950 => ?_)
              have r952 := R_any v949
              have r953 : R 0 1023 v949 := by rw [← z950, ((q913 135 a0.toNatClampNeg (by simp [fz])).trans rfl)]; exact x746
              refine r_iconst S dX12_readSet_71 (by decide) (fun v954 z955 => ?_)
              have r956 := R_eq z955
              refine r_aload_n S dX12_readSet_72 rfl (lv_at hl 0 rfl) ?_
              refine r_geti (K := 38) S X940 (Nat.le_of_ble_eq_true rfl) rfl lk12_193_10 (fun _ => ⟨_, rfl, rfl⟩) z926 dX12_readSet_73 ?_
              refine r_ishl S dX12_readSet_76 (fun v957 z958 => ?_)
              have r960 : R (1) (512) v957 := i_shl z958 r956 p923 rfl
              refine r_ior S dX12_readSet_77 (fun v961 z962 => ?_)
              have r964 : R (0) (1023) v961 := i_or 10 z962 r953 r960 rfl
              refine r_ast (n := 160) (K := 42) S X940 (Nat.le_of_ble_eq_true rfl) rfl (fun _ _ => rfl) (ix_of h_a0 rfl) dX12_readSet_78 (fun t965 H lc M966 X967 => ?_)
              have I968 := Inv_mu q912 M966 (R_any v961)
              have F969 : Fr [(131, 15), (131, 16), (131, 4), (131, 11), (131, 12), (131, 13), (131, 14), (131, 18)] [135, 331] τ t965 := Fr_cell F918 M966 (by decide)
              refine r_aload_n S dX12_readSet_79 rfl (lv_at hl 0 rfl) ?_
              refine r_kv (q_V (As := []) (rest := []) (K := 38) (ci := 10) S X967 (c_X12_skip_q l G t965 I968 bb nb 400 tc751.2.2 (MT_st (MG_fr hP932.2 ((M966.2 131 3 (Or.inl (by decide))).trans rfl) ((M966.2 131 4 (Or.inl (by decide))).trans rfl) ((M966.2 131 5 (Or.inl (by decide))).trans rfl) ((M966.2 131 11 (Or.inl (by decide))).trans rfl) ((M966.2 131 12 (Or.inl (by decide))).trans rfl) ((M966.2 131 14 (Or.inl (by decide))).trans rfl) (fun j => ((M966.2 132 j (Or.inl (by decide))).trans rfl)) (fun j => ((M966.2 331 j (Or.inl (by decide))).trans rfl)) ((M966.2 133 0 (Or.inl (by decide))).trans rfl) ((M966.2 133 1 (Or.inl (by decide))).trans rfl) (fun j => ((M966.2 336 j (Or.inl (by decide))).trans rfl)) (fun j => ((M966.2 337 j (Or.inl (by decide))).trans rfl))).1 (Or.inl (sLook_n e931).1)).1 (MT_st (MG_fr hP932.2 ((M966.2 131 3 (Or.inl (by decide))).trans rfl) ((M966.2 131 4 (Or.inl (by decide))).trans rfl) ((M966.2 131 5 (Or.inl (by decide))).trans rfl) ((M966.2 131 11 (Or.inl (by decide))).trans rfl) ((M966.2 131 12 (Or.inl (by decide))).trans rfl) ((M966.2 131 14 (Or.inl (by decide))).trans rfl) (fun j => ((M966.2 132 j (Or.inl (by decide))).trans rfl)) (fun j => ((M966.2 331 j (Or.inl (by decide))).trans rfl)) ((M966.2 133 0 (Or.inl (by decide))).trans rfl) ((M966.2 133 1 (Or.inl (by decide))).trans rfl) (fun j => ((M966.2 336 j (Or.inl (by decide))).trans rfl)) (fun j => ((M966.2 337 j (Or.inl (by decide))).trans rfl))).1 (Or.inl (sLook_n e931).1)).2.1 (MT_st (MG_fr hP932.2 ((M966.2 131 3 (Or.inl (by decide))).trans rfl) ((M966.2 131 4 (Or.inl (by decide))).trans rfl) ((M966.2 131 5 (Or.inl (by decide))).trans rfl) ((M966.2 131 11 (Or.inl (by decide))).trans rfl) ((M966.2 131 12 (Or.inl (by decide))).trans rfl) ((M966.2 131 14 (Or.inl (by decide))).trans rfl) (fun j => ((M966.2 132 j (Or.inl (by decide))).trans rfl)) (fun j => ((M966.2 331 j (Or.inl (by decide))).trans rfl)) ((M966.2 133 0 (Or.inl (by decide))).trans rfl) ((M966.2 133 1 (Or.inl (by decide))).trans rfl) (fun j => ((M966.2 336 j (Or.inl (by decide))).trans rfl)) (fun j => ((M966.2 337 j (Or.inl (by decide))).trans rfl))).1 (Or.inl (sLook_n e931).1)).2.2) ck12_186 (Nat.le_of_ble_eq_true rfl) rfl (fun _ => ⟨_, rfl⟩) ⟨_, _, rfl⟩ ⟨Nat.le_of_ble_eq_true rfl, Nat.le_of_ble_eq_true rfl⟩ rfl hl.1 rfl (Nat.le_of_ble_eq_true rfl) dX12_readSet_80 ⟨Nat.le_refl 0, Nat.le_refl 0⟩) X967 (fun t972 H lc q970 X971 => ?_)
              unfold po_X12_skip_q at q970
              obtain ⟨q973, q974, q975, q976, q977, q978, q979⟩ := q970
              have F980 : Fr [(131, 15), (131, 16), (131, 4), (131, 11), (131, 12), (131, 13), (131, 14), (131, 18)] [135, 331] τ t972 := Fr_call F969 q974 (by decide)
              obtain ⟨v981, z982⟩ : ∃ x, t972 131 4 = x := ⟨_, rfl⟩
              rw [z982] at q975
              obtain ⟨v983, z984⟩ : ∃ x, t972 131 11 = x := ⟨_, rfl⟩
              rw [z984] at q976
              have e985 := congrArg Int32.toInt ((M966.2 131 4 (Or.inl (by decide))).trans ((q913 131 4 (by decide)).trans z740))
              have e986 := congrArg Int32.toInt z982
              have e987 := congrArg Int32.toInt ((M966.2 131 4 (Or.inl (by decide))).trans ((q913 131 4 (by decide)).trans z740))
              have e988 := congrArg Int32.toInt z982
              have e989 := congrArg Int32.toInt ((M966.2 131 11 (Or.inl (by decide))).trans ((q913 131 11 (by decide)).trans z743))
              have e990 := congrArg Int32.toInt z984
              have hR991 : MG bb nb 400 an mn t972 (nx bb nb 400 tc751) := ⟨q979, NR_fr hP932.2.2 ((q974 133 0 (by decide)).trans ((M966.2 133 0 (Or.inl (by decide))).trans rfl)) ((q974 133 1 (by decide)).trans ((M966.2 133 1 (Or.inl (by decide))).trans rfl)) (fun j => ((q974 336 j (by simp [fz])).trans ((M966.2 336 j (Or.inl (by decide))).trans rfl))) (fun j => ((q974 337 j (by simp [fz])).trans ((M966.2 337 j (Or.inl (by decide))).trans rfl)))⟩
              refine r_goto (tgt := 7) S dX12_readSet_83 (by decide) ?_
              exact ih750 t972 _ _ _ v927 v981 v983 X971 q973 F980 ((q974 131 15 (by decide)).trans ((M966.2 131 15 (Or.inl (by decide))).trans z928)) ⟨by omega, by omega⟩ z982 ⟨by omega, by omega⟩ z984 ⟨by omega, by omega⟩ (fun j hj => ((q974 135 j (by simp [fz])).trans ((M966.2 135 j (Or.inr hj)).trans ((q913 135 j (by simp [fz])).trans rfl))).trans (x745 j hj)) (show R 0 1023 (t972 135 a0.toNatClampNeg) by rw [show t972 135 a0.toNatClampNeg = _ from ((q974 135 a0.toNatClampNeg (by simp [fz])).trans rfl).trans M966.1]; exact ⟨by omega, by omega⟩) (fun _ _ _ => by omega) (by omega) ⟨(nx bb nb 400 tc751), (fun j => op752 j || j == g930), hR991, (by rw [(show t972 135 a0.toNatClampNeg = v961 from (((q974 135 a0.toNatClampNeg (by simp [fz])).trans rfl)).trans M966.1)]; exact BS_or (by rw [(show t731 135 a0.toNatClampNeg = v949 from (((q913 135 a0.toNatClampNeg (by simp [fz])).trans rfl)).symm.trans z950)] at hB754; exact hB754 : BS v949 op752) (by rw [z962, z958, show v954 = 1 from Int32.toInt_inj.mp (by show v954.toInt = 1; omega)]) ⟨by omega, by omega⟩ (by omega)), (fun _ => by rw [cnt10_up (by omega) (fun h => p948 (by have q := (by have q := hB754 g930 (by omega); rw [(show t731 135 a0.toNatClampNeg = v933 from (((q913 135 a0.toNatClampNeg (by simp [fz])).trans rfl)).symm.trans z934)] at q; exact q : kb v933 g930 ↔ op752 g930 = true).mpr h; rw [show v925.toInt.toNat = g930 by omega]; exact q))]; omega), (by rw [cnt10_up (by omega) (fun h => p948 (by have q := (by have q := hB754 g930 (by omega); rw [(show t731 135 a0.toNatClampNeg = v933 from (((q913 135 a0.toNatClampNeg (by simp [fz])).trans rfl)).symm.trans z934)] at q; exact q : kb v933 g930 ↔ op752 g930 = true).mpr h; rw [show v925.toInt.toNat = g930 by omega]; exact q)), ← he756, show 11 - cnt10 op752 = (11 - (cnt10 op752 + 1)) + 1 by (have q := cnt10_le op752; omega)]; exact (lCr_r (fun h => p898 ⟨h.2.1, by have q := h.2.2; omega⟩) e931 (fun h => p948 (by have q := (by have q := hB754 g930 (by omega); rw [(show t731 135 a0.toNatClampNeg = v933 from (((q913 135 a0.toNatClampNeg (by simp [fz])).trans rfl)).symm.trans z934)] at q; exact q : kb v933 g930 ↔ op752 g930 = true).mpr h; rw [show v925.toInt.toNat = g930 by omega]; exact q))).symm)⟩ (lv_sub hl [0, 1] rfl) (by omega)
            ·
              have r992 : R (1) (1) v942 := ⟨by omega, by omega⟩
              have p993 := (q945).mp (by omega)
              refine r_aload_n S dX12_readSet_58 rfl (lv_at hl 0 rfl) ?_
              refine r_iconst S dX12_readSet_59 (by decide) (fun v994 z995 => ?_)
              have r996 := R_eq z995
              refine r_ki (q_V (As := [.int v994]) (rest := []) (K := 38) (ci := 10) S X940 (c_X12_bad_q l G t910 q912 v994 (R_of (lo := -2147483648) (hi := 2147483647) r996 rfl)) ck12_183 (Nat.le_of_ble_eq_true rfl) rfl (fun _ => ⟨_, rfl⟩) ⟨_, _, rfl⟩ ⟨Nat.le_of_ble_eq_true rfl, Nat.le_of_ble_eq_true rfl⟩ rfl hl.1 rfl (Nat.le_of_ble_eq_true rfl) dX12_readSet_60 ⟨Nat.le_refl 0, Nat.le_refl 0⟩) X940 (fun v1000 t999 H lc q997 X998 => ?_)
              unfold po_X12_bad_q at q997
              obtain ⟨q1001, q1002, q1003, q1004⟩ := q997
              have F1005 : Fr [(131, 15), (131, 16), (131, 4), (131, 11), (131, 12), (131, 13), (131, 14), (131, 18)] [135, 331] τ t999 := Fr_call F918 q1002 (by decide)
              exact r_ret S hr hlk X998 ⟨q1001, F1005, (R_of q1003 rfl), (fun h => by exfalso; omega), (by rw [((q1002 131 4 (by decide)).trans ((q913 131 4 (by decide)).trans z740))]; exact R_of r739 rfl), (by rw [((q1002 131 11 (by decide)).trans ((q913 131 11 (by decide)).trans z743))]; exact R_of r742 rfl), (by have h1_0 := congrArg Int32.toInt ((q1002 131 4 (by decide)).trans ((q913 131 4 (by decide)).trans z740)); have h2_0 := congrArg Int32.toInt z4; omega), (fun j hj => ((q1002 135 j (by simp [fz])).trans ((q913 135 j (by simp [fz])).trans rfl)).trans (x745 j hj)), (fun h => by exfalso; omega), (fun h => by exfalso; omega), (QM_b (by rw [← he756, show 11 - cnt10 op752 = (10 - cnt10 op752) + 1 by (have q := cnt10_le op752; omega)]; exact lCr_b (fun h => p898 ⟨h.2.1, by have q := h.2.2; omega⟩) e931 ((by have q := hB754 g930 (by omega); rw [(show t731 135 a0.toNatClampNeg = v933 from (((q913 135 a0.toNatClampNeg (by simp [fz])).trans rfl)).symm.trans z934)] at q; exact q : kb v933 g930 ↔ op752 g930 = true).mp (by have q := p993; rw [show v925.toInt.toNat = g930 by omega] at q; exact q))) (by omega) (by rw [q1004.1]; omega) (by rw [q1004.2]; exact MG_at hP932.2))⟩ (nr_bool (R_of (lo := 0) (hi := 1) q1003 rfl)) dX12_readSet_63
          ·
            have r1006 : R (0) (0) v911 := ⟨by omega, by omega⟩
            have p1007 := (QM_0 q917) (by omega)
            obtain ⟨q1008, e1009, h1010, h1011⟩ := p1007
            refine r_iconst S dX12_readSet_40 (by decide) (fun v1012 z1013 => ?_)
            have r1014 := R_eq z1013
            exact r_ret S hr hlk X909 ⟨q912, F918, (R_of r1014 rfl), (fun h => by exfalso; omega), (by rw [((q913 131 4 (by decide)).trans z740)]; exact R_of r739 rfl), (by rw [((q913 131 11 (by decide)).trans z743)]; exact R_of r742 rfl), (by have h1_0 := congrArg Int32.toInt ((q913 131 4 (by decide)).trans z740); have h2_0 := congrArg Int32.toInt z4; omega), (fun j hj => ((q913 135 j (by simp [fz])).trans rfl).trans (x745 j hj)), (fun h => by exfalso; omega), (fun h => by exfalso; omega), (QM_l (by rw [← he756, show 11 - cnt10 op752 = (10 - cnt10 op752) + 1 by (have q := cnt10_le op752; omega)]; exact lCr_l (fun h => p898 ⟨h.2.1, by have q := h.2.2; omega⟩) e1009) (by omega) h1010 h1011)⟩ (nr_bool (R_of (lo := 0) (hi := 1) r1014 rfl)) dX12_readSet_41
  exact L744 _ t12 _ _ _ v1 v3 v6 X14 I15 F16 ((M13.2 131 15 (Or.inl (by decide))).trans z2) ⟨by omega, by omega⟩ ((M13.2 131 4 (Or.inl (by decide))).trans z4) ⟨by omega, by omega⟩ ((M13.2 131 11 (Or.inl (by decide))).trans z7) ⟨by omega, by omega⟩ (fun j hj => ((M13.2 135 j (Or.inr hj)).trans rfl)) (show R 0 1023 (t12 135 a0.toNatClampNeg) by rw [show t12 135 a0.toNatClampNeg = _ from rfl.trans M13.1]; exact ⟨by omega, by omega⟩) (fun h => by exfalso; apply h; rw [M13.1]; omega) (by omega) ⟨t, (fun _ => false), (MG_fr hR ((M13.2 131 3 (Or.inl (by decide))).trans rfl) ((M13.2 131 4 (Or.inl (by decide))).trans rfl) ((M13.2 131 5 (Or.inl (by decide))).trans rfl) ((M13.2 131 11 (Or.inl (by decide))).trans rfl) ((M13.2 131 12 (Or.inl (by decide))).trans rfl) ((M13.2 131 14 (Or.inl (by decide))).trans rfl) (fun j => ((M13.2 132 j (Or.inl (by decide))).trans rfl)) (fun j => ((M13.2 331 j (Or.inl (by decide))).trans rfl)) ((M13.2 133 0 (Or.inl (by decide))).trans rfl) ((M13.2 133 1 (Or.inl (by decide))).trans rfl) (fun j => ((M13.2 336 j (Or.inl (by decide))).trans rfl)) (fun j => ((M13.2 337 j (Or.inl (by decide))).trans rfl))), BS_0 (by rw [M13.1]; omega), (fun h => by exfalso; apply h; rw [M13.1]; omega), (by rw [cnt10_0])⟩ (lv_sub hl [0, 1] rfl) (Nat.lt_succ_self _)
