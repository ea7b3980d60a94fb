def po_X12_sentence_s (τ : Tau)    (bb : Nat → Int) (nb : Nat) (an mn : List (List Int)) (r : Int32) (u : Tau) : Prop := Inv u ∧ Fr [(131, 0), (131, 15), (131, 16), (131, 4), (131, 11), (131, 12), (131, 13), (131, 14), (131, 2), (131, 3), (131, 5), (131, 41), (131, 42), (131, 43), (131, 44), (131, 45)] [135, 148, 133, 331] τ u ∧ R (0) (0) (u 131 2) ∧ PF u ∧ (∀ j : Nat, j < 5 → u 133 j = τ 133 j) ∧ QT bb nb an mn r (u 131 15).toInt
set_option maxHeartbeats 4000000 in
set_option maxRecDepth 100000 in
theorem c_X12_sentence_s (l : Launch) (G : Gx) (τ : Tau) (hI : Inv τ) (hp_0 : PF τ) (bb : Nat → Int) (nb : Nat) (an mn : List (List Int)) (hB0 : MB0 bb nb τ) (hNR : NMM τ 133 0 136 0 an ∧ NMM τ 133 1 136 9 mn ∧ RS τ) : Ci l G yX12_sentence cX12_sentence 3 (some .int) 3 67 [.ref (G.2.2.2.1 131)] τ (po_X12_sentence_s τ    bb nb an mn) := by
  unfold Ci
  refine C_of (own := RX12) (by decide) rfl (Nat.le_of_ble_eq_true rfl) ?_
  intro p e s m below meth c ls S hr hlk X hl
  have hl : lv_has ls 3 [(0, .ref (G.2.2.2.1 131))] := hl
  obtain ⟨v1, z2⟩ : ∃ x, τ 131 2 = x := ⟨_, rfl⟩
  have r3 : R (0) (940) v1 := rd hI rfl z2
  refine r_aload_n S dX12_sentence_0 rfl (lv_at hl 0 rfl) ?_
  refine r_iconst S dX12_sentence_1 (by decide) (fun v4 z5 => ?_)
  have r6 := R_eq z5
  refine r_put (K := 38) (ty := .int) S X (Nat.le_of_ble_eq_true rfl) rfl lk12_1_10 (fun _ => ⟨_, rfl, Nat.le_of_ble_eq_true rfl, rfl⟩) (fun _ _ _ h => by cases h; exact ⟨rfl, rfl⟩) rfl rfl dX12_sentence_2 (fun t7 H lc M8 X9 => ?_)
  have I10 := Inv_mu hI M8 (R_any v4)
  have F11 : Fr [(131, 0), (131, 15), (131, 16), (131, 4), (131, 11), (131, 12), (131, 13), (131, 14), (131, 2), (131, 3), (131, 5), (131, 41), (131, 42), (131, 43), (131, 44), (131, 45)] [135, 148, 133, 331] τ t7 := Fr_mu Fr_rfl M8 (by decide)
  refine r_aload_n S dX12_sentence_5 rfl (lv_at hl 0 rfl) ?_
  refine r_sipush S dX12_sentence_6 (by decide) (fun v12 z13 => ?_)
  have r14 := R_eq z13
  refine r_kv (q_V (As := [.int v12]) (rest := []) (K := 38) (ci := 10) S X9 (c_X12_taken_q l G t7 I10 v12 (R_of (lo := 0) (hi := 940) r14 rfl)) ck12_237 (Nat.le_of_ble_eq_true rfl) rfl (fun _ => ⟨_, rfl⟩) ⟨_, _, rfl⟩ ⟨Nat.le_of_ble_eq_true rfl, Nat.le_of_ble_eq_true rfl⟩ rfl hl.1 rfl (Nat.le_of_ble_eq_true rfl) dX12_sentence_9 ⟨Nat.le_refl 0, Nat.le_refl 0⟩) X9 (fun t17 H lc q15 X16 => ?_)
  unfold po_X12_taken_q at q15
  obtain ⟨q18, q19, q20, q21, q22, q23⟩ := q15
  have F24 : Fr [(131, 0), (131, 15), (131, 16), (131, 4), (131, 11), (131, 12), (131, 13), (131, 14), (131, 2), (131, 3), (131, 5), (131, 41), (131, 42), (131, 43), (131, 44), (131, 45)] [135, 148, 133, 331] τ t17 := Fr_call F11 q19 (by decide)
  obtain ⟨v25, z26⟩ : ∃ x, t17 131 2 = x := ⟨_, rfl⟩
  rw [z26] at q20
  obtain ⟨v27, z28⟩ : ∃ x, t17 131 4 = x := ⟨_, rfl⟩
  rw [z28] at q22
  refine r_aload_n S dX12_sentence_12 rfl (lv_at hl 0 rfl) ?_
  refine r_iconst S dX12_sentence_13 (by decide) (fun v29 z30 => ?_)
  have r31 := R_eq z30
  refine r_put (K := 38) (ty := .int) S X16 (Nat.le_of_ble_eq_true rfl) rfl lk12_174_10 (fun _ => ⟨_, rfl, Nat.le_of_ble_eq_true rfl, rfl⟩) (fun _ _ _ h => by cases h; exact ⟨rfl, rfl⟩) rfl rfl dX12_sentence_14 (fun t32 H lc M33 X34 => ?_)
  have I35 := Inv_mu q18 M33 (R_any v29)
  have F36 : Fr [(131, 0), (131, 15), (131, 16), (131, 4), (131, 11), (131, 12), (131, 13), (131, 14), (131, 2), (131, 3), (131, 5), (131, 41), (131, 42), (131, 43), (131, 44), (131, 45)] [135, 148, 133, 331] τ t32 := Fr_mu F24 M33 (by decide)
  refine r_aload_n S dX12_sentence_17 rfl (lv_at hl 0 rfl) ?_
  refine r_iconst S dX12_sentence_18 (by decide) (fun v37 z38 => ?_)
  have r39 := R_eq z38
  refine r_put (K := 38) (ty := .int) S X34 (Nat.le_of_ble_eq_true rfl) rfl lk12_404_10 (fun _ => ⟨_, rfl, Nat.le_of_ble_eq_true rfl, rfl⟩) (fun _ _ _ h => by cases h; exact ⟨rfl, rfl⟩) rfl rfl dX12_sentence_19 (fun t40 H lc M41 X42 => ?_)
  have I43 := Inv_mu I35 M41 (show Rg (kd 131) 41 v37 from (R_of (lo := 0) (hi := 53) r39 rfl))
  have F44 : Fr [(131, 0), (131, 15), (131, 16), (131, 4), (131, 11), (131, 12), (131, 13), (131, 14), (131, 2), (131, 3), (131, 5), (131, 41), (131, 42), (131, 43), (131, 44), (131, 45)] [135, 148, 133, 331] τ t40 := Fr_mu F36 M41 (by decide)
  refine r_aload_n S dX12_sentence_22 rfl (lv_at hl 0 rfl) ?_
  refine r_iconst S dX12_sentence_23 (by decide) (fun v45 z46 => ?_)
  have r47 := R_eq z46
  refine r_put (K := 38) (ty := .int) S X42 (Nat.le_of_ble_eq_true rfl) rfl lk12_419_10 (fun _ => ⟨_, rfl, Nat.le_of_ble_eq_true rfl, rfl⟩) (fun _ _ _ h => by cases h; exact ⟨rfl, rfl⟩) rfl rfl dX12_sentence_24 (fun t48 H lc M49 X50 => ?_)
  have I51 := Inv_mu I43 M49 (show Rg (kd 131) 42 v45 from (R_of (lo := 0) (hi := 20) r47 rfl))
  have F52 : Fr [(131, 0), (131, 15), (131, 16), (131, 4), (131, 11), (131, 12), (131, 13), (131, 14), (131, 2), (131, 3), (131, 5), (131, 41), (131, 42), (131, 43), (131, 44), (131, 45)] [135, 148, 133, 331] τ t48 := Fr_mu F44 M49 (by decide)
  refine r_aload_n S dX12_sentence_27 rfl (lv_at hl 0 rfl) ?_
  refine r_iconst S dX12_sentence_28 (by decide) (fun v53 z54 => ?_)
  have r55 := R_eq z54
  refine r_put (K := 38) (ty := .int) S X50 (Nat.le_of_ble_eq_true rfl) rfl lk12_407_10 (fun _ => ⟨_, rfl, Nat.le_of_ble_eq_true rfl, rfl⟩) (fun _ _ _ h => by cases h; exact ⟨rfl, rfl⟩) rfl rfl dX12_sentence_29 (fun t56 H lc M57 X58 => ?_)
  have I59 := Inv_mu I51 M57 (show Rg (kd 131) 43 v53 from (R_of (lo := 0) (hi := 45) r55 rfl))
  have F60 : Fr [(131, 0), (131, 15), (131, 16), (131, 4), (131, 11), (131, 12), (131, 13), (131, 14), (131, 2), (131, 3), (131, 5), (131, 41), (131, 42), (131, 43), (131, 44), (131, 45)] [135, 148, 133, 331] τ t56 := Fr_mu F52 M57 (by decide)
  refine r_aload_n S dX12_sentence_32 rfl (lv_at hl 0 rfl) ?_
  refine r_iconst S dX12_sentence_33 (by decide) (fun v61 z62 => ?_)
  have r63 := R_eq z62
  refine r_put (K := 38) (ty := .int) S X58 (Nat.le_of_ble_eq_true rfl) rfl lk12_413_10 (fun _ => ⟨_, rfl, Nat.le_of_ble_eq_true rfl, rfl⟩) (fun _ _ _ h => by cases h; exact ⟨rfl, rfl⟩) rfl rfl dX12_sentence_34 (fun t64 H lc M65 X66 => ?_)
  have I67 := Inv_mu I59 M65 (R_any v61)
  have F68 : Fr [(131, 0), (131, 15), (131, 16), (131, 4), (131, 11), (131, 12), (131, 13), (131, 14), (131, 2), (131, 3), (131, 5), (131, 41), (131, 42), (131, 43), (131, 44), (131, 45)] [135, 148, 133, 331] τ t64 := Fr_mu F60 M65 (by decide)
  refine r_aload_n S dX12_sentence_37 rfl (lv_at hl 0 rfl) ?_
  refine r_iconst S dX12_sentence_38 (by decide) (fun v69 z70 => ?_)
  have r71 := R_eq z70
  refine r_put (K := 38) (ty := .boolean) S X66 (Nat.le_of_ble_eq_true rfl) rfl lk12_422_10 (fun _ => ⟨_, rfl, Nat.le_of_ble_eq_true rfl, rfl⟩) (fun _ _ _ h => by cases h; exact ⟨rfl, rfl⟩) (nr_bool (R_of (lo := 0) (hi := 1) r71 rfl)) (ft_bool (R_of (lo := 0) (hi := 1) r71 rfl)) dX12_sentence_39 (fun t72 H lc M73 X74 => ?_)
  have I75 := Inv_mu I67 M73 (show Rg (kd 131) 45 v69 from (R_of (lo := 0) (hi := 1) r71 rfl))
  have F76 : Fr [(131, 0), (131, 15), (131, 16), (131, 4), (131, 11), (131, 12), (131, 13), (131, 14), (131, 2), (131, 3), (131, 5), (131, 41), (131, 42), (131, 43), (131, 44), (131, 45)] [135, 148, 133, 331] τ t72 := Fr_mu F68 M73 (by decide)
  refine r_aload_n S dX12_sentence_42 rfl (lv_at hl 0 rfl) ?_
  refine r_kv (q_V (As := []) (rest := []) (K := 38) (ci := 10) S X74 (c_X12_skip_q l G t72 I75 bb nb 200 0 ⟨by have q := congrArg Int32.toInt ((M73.2 131 3 (Or.inr (by decide))).trans ((M65.2 131 3 (Or.inr (by decide))).trans ((M57.2 131 3 (Or.inr (by decide))).trans ((M49.2 131 3 (Or.inr (by decide))).trans ((M41.2 131 3 (Or.inr (by decide))).trans ((M33.2 131 3 (Or.inr (by decide))).trans (q21.trans ((M8.2 131 2 (Or.inr (by decide))).trans z2)))))))); have q2 := congrArg Int32.toInt z2; have q3 := hB0.1; omega, hB0.2.1, by rw [((M73.2 131 5 (Or.inr (by decide))).trans ((M65.2 131 5 (Or.inr (by decide))).trans ((M57.2 131 5 (Or.inr (by decide))).trans ((M49.2 131 5 (Or.inr (by decide))).trans ((M41.2 131 5 (Or.inr (by decide))).trans ((M33.2 131 5 (Or.inr (by decide))).trans q23))))))]; omega, fun j hj => by rw [(fun j => F76 132 j (by simp [fz])) j]; exact hB0.2.2 j hj⟩ (by rw [((M73.2 131 4 (Or.inr (by decide))).trans ((M65.2 131 4 (Or.inr (by decide))).trans ((M57.2 131 4 (Or.inr (by decide))).trans ((M49.2 131 4 (Or.inr (by decide))).trans ((M41.2 131 4 (Or.inr (by decide))).trans ((M33.2 131 4 (Or.inr (by decide))).trans z28))))))]; omega) (Nat.zero_le _)) ck12_186 (Nat.le_of_ble_eq_true rfl) rfl (fun _ => ⟨_, rfl⟩) ⟨_, _, rfl⟩ ⟨Nat.le_of_ble_eq_true rfl, Nat.le_of_ble_eq_true rfl⟩ rfl hl.1 rfl (Nat.le_of_ble_eq_true rfl) dX12_sentence_43 ⟨Nat.le_refl 0, Nat.le_refl 0⟩) X74 (fun t79 H lc q77 X78 => ?_)
  unfold po_X12_skip_q at q77
  obtain ⟨q80, q81, q82, q83, q84, q85, q86⟩ := q77
  have F87 : Fr [(131, 0), (131, 15), (131, 16), (131, 4), (131, 11), (131, 12), (131, 13), (131, 14), (131, 2), (131, 3), (131, 5), (131, 41), (131, 42), (131, 43), (131, 44), (131, 45)] [135, 148, 133, 331] τ t79 := Fr_call F76 q81 (by decide)
  obtain ⟨v88, z89⟩ : ∃ x, t79 131 4 = x := ⟨_, rfl⟩
  rw [z89] at q82
  obtain ⟨v90, z91⟩ : ∃ x, t79 131 11 = x := ⟨_, rfl⟩
  rw [z91] at q83
  have e92 := congrArg Int32.toInt ((M73.2 131 4 (Or.inr (by decide))).trans ((M65.2 131 4 (Or.inr (by decide))).trans ((M57.2 131 4 (Or.inr (by decide))).trans ((M49.2 131 4 (Or.inr (by decide))).trans ((M41.2 131 4 (Or.inr (by decide))).trans ((M33.2 131 4 (Or.inr (by decide))).trans z28))))))
  have e93 := congrArg Int32.toInt z89
  have e94 := congrArg Int32.toInt ((M73.2 131 4 (Or.inr (by decide))).trans ((M65.2 131 4 (Or.inr (by decide))).trans ((M57.2 131 4 (Or.inr (by decide))).trans ((M49.2 131 4 (Or.inr (by decide))).trans ((M41.2 131 4 (Or.inr (by decide))).trans ((M33.2 131 4 (Or.inr (by decide))).trans z28))))))
  have e95 := congrArg Int32.toInt z89
  have e96 := congrArg Int32.toInt z91
  have hR97 : MG bb nb 200 an mn t79 (lex bb nb 200 0) := ⟨q86, NR_fr hNR ((q81 133 0 (by decide)).trans ((M73.2 133 0 (Or.inl (by decide))).trans ((M65.2 133 0 (Or.inl (by decide))).trans ((M57.2 133 0 (Or.inl (by decide))).trans ((M49.2 133 0 (Or.inl (by decide))).trans ((M41.2 133 0 (Or.inl (by decide))).trans ((M33.2 133 0 (Or.inl (by decide))).trans ((q19 133 0 (by decide)).trans ((M8.2 133 0 (Or.inl (by decide))).trans rfl))))))))) ((q81 133 1 (by decide)).trans ((M73.2 133 1 (Or.inl (by decide))).trans ((M65.2 133 1 (Or.inl (by decide))).trans ((M57.2 133 1 (Or.inl (by decide))).trans ((M49.2 133 1 (Or.inl (by decide))).trans ((M41.2 133 1 (Or.inl (by decide))).trans ((M33.2 133 1 (Or.inl (by decide))).trans ((q19 133 1 (by decide)).trans ((M8.2 133 1 (Or.inl (by decide))).trans rfl))))))))) (fun j => ((q81 336 j (by simp [fz])).trans ((M73.2 336 j (Or.inl (by decide))).trans ((M65.2 336 j (Or.inl (by decide))).trans ((M57.2 336 j (Or.inl (by decide))).trans ((M49.2 336 j (Or.inl (by decide))).trans ((M41.2 336 j (Or.inl (by decide))).trans ((M33.2 336 j (Or.inl (by decide))).trans ((q19 336 j (by simp [fz])).trans ((M8.2 336 j (Or.inl (by decide))).trans rfl)))))))))) (fun j => ((q81 337 j (by simp [fz])).trans ((M73.2 337 j (Or.inl (by decide))).trans ((M65.2 337 j (Or.inl (by decide))).trans ((M57.2 337 j (Or.inl (by decide))).trans ((M49.2 337 j (Or.inl (by decide))).trans ((M41.2 337 j (Or.inl (by decide))).trans ((M33.2 337 j (Or.inl (by decide))).trans ((q19 337 j (by simp [fz])).trans ((M8.2 337 j (Or.inl (by decide))).trans rfl))))))))))⟩
  refine r_iconst S dX12_sentence_46 (by decide) (fun v98 z99 => ?_)
  have r100 := R_eq z99
  refine r_istore_n (lv' := [(1, .int v98), (0, .ref (G.2.2.2.1 131))]) S dX12_sentence_47 rfl hl (by decide) rfl (fun ls hl => ?_)
  have L772 : ∀ (n : Nat) (t740 : Tau) (H : Heap) (lc : List Loc) (ls : Array Slot) (i738 : Int32) (f748 : Int32) (f751 : Int32) (f754 : Int32) (f757 : Int32) (f760 : Int32) (f763 : Int32) (f766 : Int32) (f769 : Int32), Xd G s H lc t740 → Inv t740 → Fr [(131, 0), (131, 15), (131, 16), (131, 4), (131, 11), (131, 12), (131, 13), (131, 14), (131, 2), (131, 3), (131, 5), (131, 41), (131, 42), (131, 43), (131, 44), (131, 45)] [135, 148, 133, 331] τ t740 → R (0) (1) i738 → t740 131 0 = v4 → t740 131 2 = v25 → t740 131 3 = v1 → t740 131 5 = v12 → t740 131 15 = f748 → R (0) (0) f748 → t740 131 41 = f751 → R (0) (53) f751 → t740 131 42 = f754 → R (0) (20) f754 → t740 131 43 = f757 → R (0) (45) f757 → t740 131 44 = f760 → R (-50) (50) f760 → t740 131 45 = f763 → R (0) (1) f763 → t740 131 4 = f766 → R (0) (940) f766 → t740 131 11 = f769 → R (0) (4) f769 → SI t740 → PF t740 → (∀ j : Nat, j < 5 → t740 133 j = τ 133 j) → ((i738).toInt = 1 → ∃ s : SS, Rch bb nb 200 an mn (false, lex bb nb 200 0, 0, []) s ∧ MSS bb nb an mn t740 s) ∧ ((i738).toInt = 0 → ∃ k : Nat, Hlt bb nb 200 an mn (false, lex bb nb 200 0, 0, []) (.inr k) ∧ (t740 131 42).toInt = k) → lv_has ls 3 [(0, .ref (G.2.2.2.1 131)), (1, .int i738)] → (2 * (940 - f766.toInt) + (if 1 ≤ f769.toInt ∧ f769.toInt ≤ 3 then 1 else 0) + i738.toInt).toNat < n → W p l e (Rm 3 67) s m ([.ref (G.2.2.2.1 131)] : List Value).toArray below meth c H lc 0 0 (MQ below (va_Qi (po_X12_sentence_s τ    bb nb an mn) (Bs G) G.2.2.2.2) ([.ref (G.2.2.2.1 131)] : List Value).toArray s 0 0 G.2.2.2.2) (F0 m 48 ls []) := by
    intro n
    induction n with
    | zero => intros; omega
    | succ n ih777 =>
      intro t740 H lc ls i738 f748 f751 f754 f757 f760 f763 f766 f769 X743 I741 F742 r739 z744 z745 z746 z747 z750 r749 z753 r752 z756 r755 z759 r758 z762 r761 z765 r764 z768 r767 z771 r770 x773 x774 x775 x776 hl hm
      refine r_iload_n S dX12_sentence_48 rfl (lv_at hl 1 rfl) ?_
      refine r_if_eq (tgt := 132) S dX12_sentence_49 (by decide) (fun c778 => ?_) (fun c778 => ?_)
      ·
        have r779 : R (0) (0) i738 := ⟨by omega, by omega⟩
        obtain ⟨k780, e781, h782⟩ := x776.2 (by omega)
        have e783 : f754.toInt = (k780 : Int) := by rw [← z756]; exact h782
        refine r_aload_n S dX12_sentence_132 rfl (lv_at hl 0 rfl) ?_
        refine r_get (K := 38) (v := .ref (G.2.2.2.1 133)) S X743 (Nat.le_of_ble_eq_true rfl) rfl lk12_33_10 (fun _ => ⟨_, rfl, rfl⟩) dX12_sentence_133 ?_
        refine r_sipush S dX12_sentence_136 (by decide) (fun v784 z785 => ?_)
        have r786 := R_eq z785
        refine r_aload_n S dX12_sentence_139 rfl (lv_at hl 0 rfl) ?_
        refine r_geti (K := 38) S X743 (Nat.le_of_ble_eq_true rfl) rfl lk12_404_10 (fun _ => ⟨_, rfl, rfl⟩) z753 dX12_sentence_140 ?_
        refine r_ast (n := 513) (K := 40) S X743 (Nat.le_of_ble_eq_true rfl) rfl (fun _ _ => rfl) (ix_of r786 rfl) dX12_sentence_143 (fun t787 H lc M788 X789 => ?_)
        have I790 := Inv_mu I741 M788 (show Rg (kd 133) _ f751 from wrs (K := 40) (a := 332) (n := 1) (R_of r786 rfl) (R_of (lo := 0) (hi := 53) r752 rfl) (by decide +kernel))
        have F791 : Fr [(131, 0), (131, 15), (131, 16), (131, 4), (131, 11), (131, 12), (131, 13), (131, 14), (131, 2), (131, 3), (131, 5), (131, 41), (131, 42), (131, 43), (131, 44), (131, 45)] [135, 148, 133, 331] τ t787 := Fr_cell F742 M788 (by decide)
        refine r_iconst S dX12_sentence_144 (by decide) (fun v792 z793 => ?_)
        have r794 := R_eq z793
        refine r_istore_n (lv' := [(2, .int v792), (0, .ref (G.2.2.2.1 131)), (1, .int i738)]) S dX12_sentence_145 rfl hl (by decide) rfl (fun ls hl => ?_)
        have L1931 : ∀ (n : Nat) (t1914 : Tau) (H : Heap) (lc : List Loc) (ls : Array Slot) (i1912 : Int32), Xd G s H lc t1914 → Inv t1914 → Fr [(131, 0), (131, 15), (131, 16), (131, 4), (131, 11), (131, 12), (131, 13), (131, 14), (131, 2), (131, 3), (131, 5), (131, 41), (131, 42), (131, 43), (131, 44), (131, 45)] [135, 148, 133, 331] τ t1914 → R (0) (160) i1912 → t1914 131 0 = v4 → t1914 131 2 = v25 → t1914 131 3 = v1 → t1914 131 5 = v12 → t1914 131 15 = f748 → t1914 131 41 = f751 → t1914 131 42 = f754 → t1914 131 43 = f757 → t1914 131 44 = f760 → t1914 131 45 = f763 → t1914 131 4 = f766 → t1914 131 11 = f769 → t1914 133 332 = f751 → (∀ j : Nat, (j : Int) < i1912.toInt → t1914 133 (333 + j) = t1914 135 j) → SI t1914 → (∀ j : Nat, j < 5 → t1914 133 j = τ 133 j) → lv_has ls 3 [(0, .ref (G.2.2.2.1 131)), (2, .int i1912)] → (160 - i1912.toInt).toNat < n → W p l e (Rm 3 67) s m ([.ref (G.2.2.2.1 131)] : List Value).toArray below meth c H lc 0 0 (MQ below (va_Qi (po_X12_sentence_s τ    bb nb an mn) (Bs G) G.2.2.2.2) ([.ref (G.2.2.2.1 131)] : List Value).toArray s 0 0 G.2.2.2.2) (F0 m 146 ls []) := by
          intro n
          induction n with
          | zero => intros; omega
          | succ n ih1935 =>
            intro t1914 H lc ls i1912 X1917 I1915 F1916 r1913 z1918 z1919 z1920 z1921 z1922 z1923 z1924 z1925 z1926 z1927 z1928 z1929 z1930 x1932 x1933 x1934 hl hm
            refine r_iload_n S dX12_sentence_146 rfl (lv_at hl 1 rfl) ?_
            refine r_iconst S dX12_sentence_147 (by decide) (fun v1936 z1937 => ?_)
            have r1938 := R_eq z1937
            refine r_aload_n S dX12_sentence_148 rfl (lv_at hl 0 rfl) ?_
            refine r_geti (K := 38) S X1917 (Nat.le_of_ble_eq_true rfl) rfl lk12_404_10 (fun _ => ⟨_, rfl, rfl⟩) z1923 dX12_sentence_149 ?_
            refine r_imul S dX12_sentence_152 (fun v1939 z1940 => ?_)
            obtain ⟨e1941, r1942⟩ := i_mul (lo := 0) (hi := 159) z1940 r1938 r752 rfl rfl
            have e1943 : v1939.toInt = 3 * f751.toInt := by rw [e1941, show v1936.toInt = 3 by omega]
            refine r_icmp_ge (tgt := 178) S dX12_sentence_153 (by decide) (fun c1944 => ?_) (fun c1944 => ?_)
            ·
              refine r_aload_n S dX12_sentence_178 rfl (lv_at hl 0 rfl) ?_
              refine r_geti (K := 38) S X1917 (Nat.le_of_ble_eq_true rfl) rfl lk12_419_10 (fun _ => ⟨_, rfl, rfl⟩) z1924 dX12_sentence_179 ?_
              exact r_ret S hr hlk X1917 ⟨I1915, F1916, (by rw [z1919]; exact R_of q20 rfl), (PF_mk x1933 z1923 z1924 z1925 z1927 (by omega) (by omega) z1930 x1932 (by omega)), (fun j hj => (rfl : t1914 133 j = t1914 133 j).trans (x1934 j hj)), (Or.inr ⟨k780, e781, (by omega), (by have q := congrArg Int32.toInt z1922; omega)⟩)⟩ rfl dX12_sentence_182
            ·
              have r1945 : R (0) (158) i1912 := ⟨by omega, by omega⟩
              have r1946 : R (1) (159) v1939 := ⟨by omega, by omega⟩
              have r1947 : R (1) (53) f751 := ⟨by omega, by omega⟩
              refine r_aload_n S dX12_sentence_156 rfl (lv_at hl 0 rfl) ?_
              refine r_get (K := 38) (v := .ref (G.2.2.2.1 133)) S X1917 (Nat.le_of_ble_eq_true rfl) rfl lk12_33_10 (fun _ => ⟨_, rfl, rfl⟩) dX12_sentence_157 ?_
              refine r_sipush S dX12_sentence_160 (by decide) (fun v1948 z1949 => ?_)
              have r1950 := R_eq z1949
              refine r_iload_n S dX12_sentence_163 rfl (lv_at hl 1 rfl) ?_
              refine r_iadd S dX12_sentence_164 (fun v1951 z1952 => ?_)
              obtain ⟨e1953, r1954⟩ := i_add (lo := 333) (hi := 491) z1952 r1950 r1945 rfl
              refine r_aload_n S dX12_sentence_165 rfl (lv_at hl 0 rfl) ?_
              refine r_get (K := 38) (v := .ref (G.2.2.2.1 135)) S X1917 (Nat.le_of_ble_eq_true rfl) rfl lk12_40_10 (fun _ => ⟨_, rfl, rfl⟩) dX12_sentence_166 ?_
              refine r_iload_n S dX12_sentence_169 rfl (lv_at hl 1 rfl) ?_
              refine r_aldn (n := 160) (K := 42) S X1917 (Nat.le_of_ble_eq_true rfl) rfl (fun _ => rfl) (ix_of r1945 rfl) dX12_sentence_170 (fun v1955 z1956 => ?_)
              have r1958 := R_any v1955
              refine r_ast (n := 513) (K := 40) S X1917 (Nat.le_of_ble_eq_true rfl) rfl (fun _ _ => rfl) (ix_of r1954 rfl) dX12_sentence_171 (fun t1959 H lc M1960 X1961 => ?_)
              have I1962 := Inv_mu I1915 M1960 (show Rg (kd 133) _ v1955 from wrs (K := 40) (a := 333) (n := 159) (R_of r1954 rfl) (R_of (lo := -2147483648) (hi := 2147483647) r1958 rfl) (by decide +kernel))
              have F1963 : Fr [(131, 0), (131, 15), (131, 16), (131, 4), (131, 11), (131, 12), (131, 13), (131, 14), (131, 2), (131, 3), (131, 5), (131, 41), (131, 42), (131, 43), (131, 44), (131, 45)] [135, 148, 133, 331] τ t1959 := Fr_cell F1916 M1960 (by decide)
              refine r_iinc (k := 1) S dX12_sentence_172 hl rfl (by decide) (by decide) (fun v1964 d1965 ls z1966 z1967 hl => ?_)
              obtain ⟨e1968, r1969⟩ := i_add (lo := 1) (hi := 159) z1966 r1945 (R_eq z1967) rfl
              have hl : lv_has ls 3 [(2, .int v1964), (0, .ref (G.2.2.2.1 131))] := hl
              refine r_goto (tgt := 146) S dX12_sentence_175 (by decide) ?_
              exact ih1935 t1959 _ _ _ v1964 X1961 I1962 F1963 (R_of r1969 rfl) ((M1960.2 131 0 (Or.inl (by decide))).trans z1918) ((M1960.2 131 2 (Or.inl (by decide))).trans z1919) ((M1960.2 131 3 (Or.inl (by decide))).trans z1920) ((M1960.2 131 5 (Or.inl (by decide))).trans z1921) ((M1960.2 131 15 (Or.inl (by decide))).trans z1922) ((M1960.2 131 41 (Or.inl (by decide))).trans z1923) ((M1960.2 131 42 (Or.inl (by decide))).trans z1924) ((M1960.2 131 43 (Or.inl (by decide))).trans z1925) ((M1960.2 131 44 (Or.inl (by decide))).trans z1926) ((M1960.2 131 45 (Or.inl (by decide))).trans z1927) ((M1960.2 131 4 (Or.inl (by decide))).trans z1928) ((M1960.2 131 11 (Or.inl (by decide))).trans z1929) ((M1960.2 133 332 (Or.inr (ixne r1954 rfl))).trans z1930) (cp_step x1932 M1960 (by decide) (by omega) (by omega) z1956 (by omega)) (SI_eq x1933 (fun j => ((M1960.2 135 j (Or.inl (by decide))).trans rfl)) (fun j => ((M1960.2 148 j (Or.inl (by decide))).trans rfl)) ((M1960.2 131 41 (Or.inl (by decide))).trans rfl) ((M1960.2 131 42 (Or.inl (by decide))).trans rfl) ((M1960.2 131 43 (Or.inl (by decide))).trans rfl) ((M1960.2 131 45 (Or.inl (by decide))).trans rfl)) (fun j hj => (M1960.2 133 j (Or.inr (by have c : v1951.toNatClampNeg = v1951.toInt.toNat := rfl; omega))).trans ((rfl : t1914 133 j = t1914 133 j).trans (x1934 j hj))) (lv_sub hl [1, 0] rfl) (by omega)
        exact L1931 _ t787 _ _ _ v792 X789 I790 F791 (R_of r794 rfl) ((M788.2 131 0 (Or.inl (by decide))).trans z744) ((M788.2 131 2 (Or.inl (by decide))).trans z745) ((M788.2 131 3 (Or.inl (by decide))).trans z746) ((M788.2 131 5 (Or.inl (by decide))).trans z747) ((M788.2 131 15 (Or.inl (by decide))).trans z750) ((M788.2 131 41 (Or.inl (by decide))).trans z753) ((M788.2 131 42 (Or.inl (by decide))).trans z756) ((M788.2 131 43 (Or.inl (by decide))).trans z759) ((M788.2 131 44 (Or.inl (by decide))).trans z762) ((M788.2 131 45 (Or.inl (by decide))).trans z765) ((M788.2 131 4 (Or.inl (by decide))).trans z768) ((M788.2 131 11 (Or.inl (by decide))).trans z771) (zc (by omega) M788.1) (fun j hj => by exfalso; omega) (SI_eq x773 (fun j => ((M788.2 135 j (Or.inl (by decide))).trans rfl)) (fun j => ((M788.2 148 j (Or.inl (by decide))).trans rfl)) ((M788.2 131 41 (Or.inl (by decide))).trans rfl) ((M788.2 131 42 (Or.inl (by decide))).trans rfl) ((M788.2 131 43 (Or.inl (by decide))).trans rfl) ((M788.2 131 45 (Or.inl (by decide))).trans rfl)) (fun j hj => (M788.2 133 j (Or.inr (by have c : v784.toNatClampNeg = v784.toInt.toNat := rfl; omega))).trans ((rfl : t740 133 j = t740 133 j).trans (x775 j hj))) (lv_sub hl [1, 0] rfl) (Nat.lt_succ_self _)
      ·
        have r1970 : R (1) (1) i738 := ⟨by omega, by omega⟩
        obtain ⟨⟨wc1971, tc1972, kc1973, dc1974⟩, hr1975, hM1976⟩ := x776.1 (by omega)
        obtain ⟨hR1977, h421978, h451979, sg1980, hK1981, hd1982⟩ := hM1976
        have hR1983 : MG bb nb 200 an mn t740 tc1972 := hR1977
        have h421984 : (t740 131 42).toInt = (kc1973 : Int) := h421978
        have h451985 : (t740 131 45).toInt = bI wc1971 := h451979
        clear hR1977 h421978 h451979
        have e1986 := SK_b hK1981 z759 z762 (by omega)
        have r1987 : R (1) (46) f760 := ⟨by omega, by omega⟩
        refine r_aload_n S dX12_sentence_52 rfl (lv_at hl 0 rfl) ?_
        refine r_geti (K := 38) S X743 (Nat.le_of_ble_eq_true rfl) rfl lk12_422_10 (fun _ => ⟨_, rfl, rfl⟩) z765 dX12_sentence_53 ?_
        refine r_if_eq (tgt := 101) S dX12_sentence_56 (by decide) (fun c1988 => ?_) (fun c1988 => ?_)
        ·
          have r1989 : R (0) (0) f763 := ⟨by omega, by omega⟩
          refine r_aload_n S dX12_sentence_101 rfl (lv_at hl 0 rfl) ?_
          refine r_geti (K := 38) S X743 (Nat.le_of_ble_eq_true rfl) rfl lk12_422_10 (fun _ => ⟨_, rfl, rfl⟩) z765 dX12_sentence_102 ?_
          refine r_if_eq (tgt := 118) S dX12_sentence_105 (by decide) (fun c1990 => ?_) (fun c1990 => ?_)
          ·
            have hw1991 : wc1971 = false := bI_z h451985 (by rw [z765]; omega)
            subst hw1991
            have hd1992 : sg1980 = dc1974 := Eq.symm hd1982
            subst hd1992
            refine r_aload_n S dX12_sentence_118 rfl (lv_at hl 0 rfl) ?_
            refine r_ki (q_V (As := []) (rest := []) (K := 38) (ci := 10) S X743 (c_X12_operand_q l G t740 I741 (by rw [z765]; exact R_of r1989 rfl) (by rw [z750]; exact R_of r749 rfl) (by rw [z762]; exact R_of r1987 rfl) x773 bb nb an mn tc1972 kc1973 sg1980 hR1983 (by rw [show t740 131 42 = t740 131 42 from rfl]; exact h421984) hK1981) ck12_434 (Nat.le_of_ble_eq_true rfl) rfl (fun _ => ⟨_, rfl⟩) ⟨_, _, rfl⟩ ⟨Nat.le_of_ble_eq_true rfl, Nat.le_of_ble_eq_true rfl⟩ rfl hl.1 rfl (Nat.le_of_ble_eq_true rfl) dX12_sentence_119 ⟨Nat.le_refl 0, Nat.le_refl 0⟩) X743 (fun v1996 t1995 H lc q1993 X1994 => ?_)
            unfold po_X12_operand_q at q1993
            obtain ⟨q1997, q1998, q1999, q2000, q2001, q2002, q2003, q2004, q2005, q2006, q2007, q2008, q2009, q2010, q2011, q2012⟩ := q1993
            have F2013 : Fr [(131, 0), (131, 15), (131, 16), (131, 4), (131, 11), (131, 12), (131, 13), (131, 14), (131, 2), (131, 3), (131, 5), (131, 41), (131, 42), (131, 43), (131, 44), (131, 45)] [135, 148, 133, 331] τ t1995 := Fr_call F742 q1998 (by decide)
            obtain ⟨v2014, z2015⟩ : ∃ x, t1995 131 4 = x := ⟨_, rfl⟩
            rw [z2015] at q2001
            obtain ⟨v2016, z2017⟩ : ∃ x, t1995 131 11 = x := ⟨_, rfl⟩
            rw [z2017] at q2002
            have e2018 := congrArg Int32.toInt z768
            have e2019 := congrArg Int32.toInt z2015
            have e2020 := congrArg Int32.toInt z768
            have e2021 := congrArg Int32.toInt z2015
            have e2022 := congrArg Int32.toInt z771
            have e2023 := congrArg Int32.toInt z2017
            have e2024 := congrArg Int32.toInt z771
            have e2025 := congrArg Int32.toInt z2017
            obtain ⟨v2026, z2027⟩ : ∃ x, t1995 131 41 = x := ⟨_, rfl⟩
            rw [z2027] at q2006
            obtain ⟨v2028, z2029⟩ : ∃ x, t1995 131 42 = x := ⟨_, rfl⟩
            rw [z2029] at q2007
            obtain ⟨v2030, z2031⟩ : ∃ x, t1995 131 43 = x := ⟨_, rfl⟩
            rw [z2031] at q2008
            obtain ⟨v2032, z2033⟩ : ∃ x, t1995 131 45 = x := ⟨_, rfl⟩
            rw [z2033] at q2009
            obtain ⟨v2034, z2035⟩ : ∃ x, t1995 131 44 = x := ⟨_, rfl⟩
            rw [z2035] at q2011
            refine r_if_ne (tgt := 48) S dX12_sentence_122 (by decide) (fun c2036 => ?_) (fun c2036 => ?_)
            ·
              have r2037 : R (1) (1) v1996 := ⟨by omega, by omega⟩
              have p2038 := q2000 (by omega)
              obtain ⟨v2039, z2040⟩ : ∃ x, t1995 131 15 = x := ⟨_, rfl⟩
              rw [z2040] at p2038
              have p2041 := q2012.2 (by omega)
              obtain ⟨s2042, e2043, hM2044⟩ := p2041
              exact ih777 t1995 _ _ _ i738 v2039 v2026 v2028 v2030 v2034 v2032 v2014 v2016 X1994 q1997 F2013 (R_of r1970 rfl) ((q1998 131 0 (by decide)).trans z744) ((q1998 131 2 (by decide)).trans z745) ((q1998 131 3 (by decide)).trans z746) ((q1998 131 5 (by decide)).trans z747) z2040 ⟨by omega, by omega⟩ z2027 ⟨by omega, by omega⟩ z2029 ⟨by omega, by omega⟩ z2031 ⟨by omega, by omega⟩ z2035 ⟨by omega, by omega⟩ z2033 ⟨by omega, by omega⟩ z2015 ⟨by omega, by omega⟩ z2017 ⟨by omega, by omega⟩ (q2010 (by omega)) (PF_eq x774 (fun j _ => ((q1998 133 j (by simp [fz])).trans rfl))) (fun j hj => (((q1998 133 j (by simp [fz])).trans rfl) : t1995 133 j = t740 133 j).trans (x775 j hj)) ⟨fun _ => ⟨s2042, Rch_1 hr1975 e2043, hM2044⟩, fun h => by exfalso; omega⟩ (lv_sub hl [0, 1] rfl) (by omega)
            ·
              have r2045 : R (0) (0) v1996 := ⟨by omega, by omega⟩
              have p2046 := q2012.1 (by omega)
              obtain ⟨q2047, e2048, h2049, h2050⟩ := p2046
              refine r_iconst S dX12_sentence_125 (by decide) (fun v2051 z2052 => ?_)
              have r2053 := R_eq z2052
              refine r_aload_n S dX12_sentence_126 rfl (lv_at hl 0 rfl) ?_
              refine r_getn (K := 38) S X1994 (Nat.le_of_ble_eq_true rfl) rfl lk12_177_10 (fun _ => ⟨_, rfl, rfl⟩) dX12_sentence_127 (fun v2054 z2055 => ?_)
              have r2057 := R_any v2054
              refine r_isub S dX12_sentence_130 (fun v2058 z2059 => ?_)
              obtain ⟨e2060, r2061⟩ := i_sub (lo := -2147483648) (hi := 2147483647) z2059 r2053 r2057 rfl
              exact r_ret S hr hlk X1994 ⟨q1997, F2013, (by rw [((q1998 131 2 (by decide)).trans z745)]; exact R_of q20 rfl), (PF_eq x774 (fun j _ => ((q1998 133 j (by simp [fz])).trans rfl))), (fun j hj => (((q1998 133 j (by simp [fz])).trans rfl) : t1995 133 j = t740 133 j).trans (x775 j hj)), (Or.inl ⟨q2047, Hlt_1 hr1975 e2048, (by have q1 := h2050; have q2 := congrArg Int32.toInt z2055; omega), h2049⟩)⟩ rfl dX12_sentence_131
          ·
            exfalso; omega
        ·
          have r2062 : R (1) (1) f763 := ⟨by omega, by omega⟩
          refine r_aload_n S dX12_sentence_59 rfl (lv_at hl 0 rfl) ?_
          refine r_geti (K := 38) S X743 (Nat.le_of_ble_eq_true rfl) rfl lk12_157_10 (fun _ => ⟨_, rfl, rfl⟩) z771 dX12_sentence_60 ?_
          refine r_if_ne (tgt := 101) S dX12_sentence_63 (by decide) (fun c2063 => ?_) (fun c2063 => ?_)
          ·
            have r2064 : R (1) (4) f769 := ⟨by omega, by omega⟩
            refine r_aload_n S dX12_sentence_101 rfl (lv_at hl 0 rfl) ?_
            refine r_geti (K := 38) S X743 (Nat.le_of_ble_eq_true rfl) rfl lk12_422_10 (fun _ => ⟨_, rfl, rfl⟩) z765 dX12_sentence_102 ?_
            refine r_if_eq (tgt := 118) S dX12_sentence_105 (by decide) (fun c2065 => ?_) (fun c2065 => ?_)
            ·
              exfalso; omega
            ·
              have hw2066 : wc1971 = true := bI_t h451985 (by rw [z765]; omega)
              subst hw2066
              have hd2067 : dc1974 = dropN sg1980 := hd1982
              subst hd2067
              refine r_aload_n S dX12_sentence_108 rfl (lv_at hl 0 rfl) ?_
              refine r_ki (q_V (As := []) (rest := []) (K := 38) (ci := 10) S X743 (c_X12_behind_q l G t740 I741 (by rw [z765]; exact R_of r2062 rfl) (by rw [z750]; exact R_of r749 rfl) (by rw [z762]; exact R_of r1987 rfl) x773 bb nb an mn tc1972 kc1973 sg1980 hR1983 (by rw [show t740 131 42 = t740 131 42 from rfl]; exact h421984) hK1981 (fun h => by have q := MT_k hR1983.1; rw [z771] at q; omega)) ck12_431 (Nat.le_of_ble_eq_true rfl) rfl (fun _ => ⟨_, rfl⟩) ⟨_, _, rfl⟩ ⟨Nat.le_of_ble_eq_true rfl, Nat.le_of_ble_eq_true rfl⟩ rfl hl.1 rfl (Nat.le_of_ble_eq_true rfl) dX12_sentence_109 ⟨Nat.le_refl 0, Nat.le_refl 0⟩) X743 (fun v2071 t2070 H lc q2068 X2069 => ?_)
              unfold po_X12_behind_q at q2068
              obtain ⟨q2072, q2073, q2074, q2075, q2076, q2077, q2078, q2079, q2080, q2081, q2082, q2083, q2084, q2085, q2086, q2087⟩ := q2068
              have F2088 : Fr [(131, 0), (131, 15), (131, 16), (131, 4), (131, 11), (131, 12), (131, 13), (131, 14), (131, 2), (131, 3), (131, 5), (131, 41), (131, 42), (131, 43), (131, 44), (131, 45)] [135, 148, 133, 331] τ t2070 := Fr_call F742 q2073 (by decide)
              obtain ⟨v2089, z2090⟩ : ∃ x, t2070 131 4 = x := ⟨_, rfl⟩
              rw [z2090] at q2076
              obtain ⟨v2091, z2092⟩ : ∃ x, t2070 131 11 = x := ⟨_, rfl⟩
              rw [z2092] at q2077
              have e2093 := congrArg Int32.toInt z768
              have e2094 := congrArg Int32.toInt z2090
              have e2095 := congrArg Int32.toInt z768
              have e2096 := congrArg Int32.toInt z2090
              have e2097 := congrArg Int32.toInt z771
              have e2098 := congrArg Int32.toInt z2092
              have e2099 := congrArg Int32.toInt z771
              have e2100 := congrArg Int32.toInt z2092
              obtain ⟨v2101, z2102⟩ : ∃ x, t2070 131 41 = x := ⟨_, rfl⟩
              rw [z2102] at q2081
              obtain ⟨v2103, z2104⟩ : ∃ x, t2070 131 42 = x := ⟨_, rfl⟩
              rw [z2104] at q2082
              obtain ⟨v2105, z2106⟩ : ∃ x, t2070 131 43 = x := ⟨_, rfl⟩
              rw [z2106] at q2083
              obtain ⟨v2107, z2108⟩ : ∃ x, t2070 131 45 = x := ⟨_, rfl⟩
              rw [z2108] at q2084
              obtain ⟨v2109, z2110⟩ : ∃ x, t2070 131 44 = x := ⟨_, rfl⟩
              rw [z2110] at q2086
              refine r_if_ne (tgt := 48) S dX12_sentence_112 (by decide) (fun c2111 => ?_) (fun c2111 => ?_)
              ·
                have r2112 : R (1) (1) v2071 := ⟨by omega, by omega⟩
                have p2113 := q2075 (by omega)
                obtain ⟨v2114, z2115⟩ : ∃ x, t2070 131 15 = x := ⟨_, rfl⟩
                rw [z2115] at p2113
                have p2116 := q2087.2 (by omega)
                obtain ⟨s2117, e2118, hM2119⟩ := p2116
                exact ih777 t2070 _ _ _ i738 v2114 v2101 v2103 v2105 v2109 v2107 v2089 v2091 X2069 q2072 F2088 (R_of r1970 rfl) ((q2073 131 0 (by decide)).trans z744) ((q2073 131 2 (by decide)).trans z745) ((q2073 131 3 (by decide)).trans z746) ((q2073 131 5 (by decide)).trans z747) z2115 ⟨by omega, by omega⟩ z2102 ⟨by omega, by omega⟩ z2104 ⟨by omega, by omega⟩ z2106 ⟨by omega, by omega⟩ z2110 ⟨by omega, by omega⟩ z2108 ⟨by omega, by omega⟩ z2090 ⟨by omega, by omega⟩ z2092 ⟨by omega, by omega⟩ (q2085 (by omega)) (PF_eq x774 (fun j _ => ((q2073 133 j (by simp [fz])).trans rfl))) (fun j hj => (((q2073 133 j (by simp [fz])).trans rfl) : t2070 133 j = t740 133 j).trans (x775 j hj)) ⟨fun _ => ⟨s2117, Rch_1 hr1975 e2118, hM2119⟩, fun h => by exfalso; omega⟩ (lv_sub hl [0, 1] rfl) (by omega)
              ·
                have r2120 : R (0) (0) v2071 := ⟨by omega, by omega⟩
                have p2121 := q2087.1 (by omega)
                obtain ⟨q2122, e2123, h2124, h2125⟩ := p2121
                refine r_goto (tgt := 125) S dX12_sentence_115 (by decide) ?_
                refine r_iconst S dX12_sentence_125 (by decide) (fun v2126 z2127 => ?_)
                have r2128 := R_eq z2127
                refine r_aload_n S dX12_sentence_126 rfl (lv_at hl 0 rfl) ?_
                refine r_getn (K := 38) S X2069 (Nat.le_of_ble_eq_true rfl) rfl lk12_177_10 (fun _ => ⟨_, rfl, rfl⟩) dX12_sentence_127 (fun v2129 z2130 => ?_)
                have r2132 := R_any v2129
                refine r_isub S dX12_sentence_130 (fun v2133 z2134 => ?_)
                obtain ⟨e2135, r2136⟩ := i_sub (lo := -2147483648) (hi := 2147483647) z2134 r2128 r2132 rfl
                exact r_ret S hr hlk X2069 ⟨q2072, F2088, (by rw [((q2073 131 2 (by decide)).trans z745)]; exact R_of q20 rfl), (PF_eq x774 (fun j _ => ((q2073 133 j (by simp [fz])).trans rfl))), (fun j hj => (((q2073 133 j (by simp [fz])).trans rfl) : t2070 133 j = t740 133 j).trans (x775 j hj)), (Or.inl ⟨q2122, Hlt_1 hr1975 e2123, (by have q1 := h2125; have q2 := congrArg Int32.toInt z2130; omega), h2124⟩)⟩ rfl dX12_sentence_131
          ·
            have r2137 : R (0) (0) f769 := ⟨by omega, by omega⟩
            have hw2138 : wc1971 = true := bI_t h451985 (by rw [z765]; omega)
            subst hw2138
            have hd2139 : dc1974 = dropN sg1980 := hd1982
            subst hd2139
            refine r_aload_n S dX12_sentence_66 rfl (lv_at hl 0 rfl) ?_
            refine r_kv (q_V (As := []) (rest := []) (K := 38) (ci := 10) S X743 (c_X12_nots_q l G t740 I741 (by rw [z765]; exact R_of r2062 rfl) (by rw [z762]; exact R_of r1987 rfl) x773) ck12_425 (Nat.le_of_ble_eq_true rfl) rfl (fun _ => ⟨_, rfl⟩) ⟨_, _, rfl⟩ ⟨Nat.le_of_ble_eq_true rfl, Nat.le_of_ble_eq_true rfl⟩ rfl hl.1 rfl (Nat.le_of_ble_eq_true rfl) dX12_sentence_67 ⟨Nat.le_refl 0, Nat.le_refl 0⟩) X743 (fun t2142 H lc q2140 X2141 => ?_)
            unfold po_X12_nots_q at q2140
            obtain ⟨q2143, q2144, q2145, q2146, q2147, q2148, q2149, q2150⟩ := q2140
            have F2151 : Fr [(131, 0), (131, 15), (131, 16), (131, 4), (131, 11), (131, 12), (131, 13), (131, 14), (131, 2), (131, 3), (131, 5), (131, 41), (131, 42), (131, 43), (131, 44), (131, 45)] [135, 148, 133, 331] τ t2142 := Fr_call F742 q2144 (by decide)
            obtain ⟨v2152, z2153⟩ : ∃ x, t2142 131 41 = x := ⟨_, rfl⟩
            rw [z2153] at q2145
            obtain ⟨v2154, z2155⟩ : ∃ x, t2142 131 43 = x := ⟨_, rfl⟩
            rw [z2155] at q2146
            obtain ⟨v2156, z2157⟩ : ∃ x, t2142 131 44 = x := ⟨_, rfl⟩
            rw [z2157] at q2148
            have hN2158 : SN t2142 (dropN sg1980) := SN_of hK1981 (fun j => ((q2144 148 j (by simp [fz])).trans rfl)) q2150 (by have q := congrArg Int32.toInt z2155; omega) (by have q := congrArg Int32.toInt z759; omega) q2149
            refine r_aload_n S dX12_sentence_70 rfl (lv_at hl 0 rfl) ?_
            refine r_bipush S dX12_sentence_71 (by decide) (fun v2159 z2160 => ?_)
            have r2161 := R_eq z2160
            refine r_kv (q_V (As := [.int v2159]) (rest := []) (K := 38) (ci := 10) S X2141 (c_X12_joins_q22 l G t2142 q2143 v2159 r2161 (by rw [((q2144 131 45 (by decide)).trans z765)]; exact R_of r2062 rfl) q2147) ck12_428 (Nat.le_of_ble_eq_true rfl) rfl (fun _ => ⟨_, rfl⟩) ⟨_, _, rfl⟩ ⟨Nat.le_of_ble_eq_true rfl, Nat.le_of_ble_eq_true rfl⟩ rfl hl.1 rfl (Nat.le_of_ble_eq_true rfl) dX12_sentence_73 ⟨Nat.le_refl 0, Nat.le_refl 0⟩) X2141 (fun t2164 H lc q2162 X2163 => ?_)
            unfold po_X12_joins_q22 at q2162
            obtain ⟨q2165, q2166, q2167, q2168, q2169, q2170, q2171⟩ := q2162
            have F2172 : Fr [(131, 0), (131, 15), (131, 16), (131, 4), (131, 11), (131, 12), (131, 13), (131, 14), (131, 2), (131, 3), (131, 5), (131, 41), (131, 42), (131, 43), (131, 44), (131, 45)] [135, 148, 133, 331] τ t2164 := Fr_call F2151 q2166 (by decide)
            obtain ⟨v2173, z2174⟩ : ∃ x, t2164 131 41 = x := ⟨_, rfl⟩
            rw [z2174] at q2167
            obtain ⟨v2175, z2176⟩ : ∃ x, t2164 131 43 = x := ⟨_, rfl⟩
            rw [z2176] at q2168
            obtain ⟨hN2177, hj2178⟩ := SN_j (q := 22) (u := t2164) (τ := t2142) (sg := (dropN sg1980)) hN2158 (fun j => ((q2166 148 j (by simp [fz])).trans rfl)) q2171 ((q2166 131 44 (by decide)).trans rfl)
            refine r_aload_n S dX12_sentence_76 rfl (lv_at hl 0 rfl) ?_
            refine r_geti (K := 38) S X2163 (Nat.le_of_ble_eq_true rfl) rfl lk12_407_10 (fun _ => ⟨_, rfl, rfl⟩) z2176 dX12_sentence_77 ?_
            refine r_if_le (tgt := 96) S dX12_sentence_80 (by decide) (fun c2179 => ?_) (fun c2179 => ?_)
            ·
              have r2180 : R (0) (0) v2175 := ⟨by omega, by omega⟩
              refine r_iconst S dX12_sentence_96 (by decide) (fun v2181 z2182 => ?_)
              have r2183 := R_eq z2182
              refine r_istore_n (lv' := [(1, .int v2181), (0, .ref (G.2.2.2.1 131))]) S dX12_sentence_97 rfl hl (by decide) rfl (fun ls hl => ?_)
              refine r_goto (tgt := 48) S dX12_sentence_98 (by decide) ?_
              exact ih777 t2164 _ _ _ v2181 f748 v2173 f754 v2175 v2156 f763 f766 f769 X2163 q2165 F2172 (R_of r2183 rfl) ((q2166 131 0 (by decide)).trans ((q2144 131 0 (by decide)).trans z744)) ((q2166 131 2 (by decide)).trans ((q2144 131 2 (by decide)).trans z745)) ((q2166 131 3 (by decide)).trans ((q2144 131 3 (by decide)).trans z746)) ((q2166 131 5 (by decide)).trans ((q2144 131 5 (by decide)).trans z747)) ((q2166 131 15 (by decide)).trans ((q2144 131 15 (by decide)).trans z750)) ⟨by omega, by omega⟩ z2174 ⟨by omega, by omega⟩ ((q2166 131 42 (by decide)).trans ((q2144 131 42 (by decide)).trans z756)) ⟨by omega, by omega⟩ z2176 ⟨by omega, by omega⟩ ((q2166 131 44 (by decide)).trans z2157) ⟨by omega, by omega⟩ ((q2166 131 45 (by decide)).trans ((q2144 131 45 (by decide)).trans z765)) ⟨by omega, by omega⟩ ((q2166 131 4 (by decide)).trans ((q2144 131 4 (by decide)).trans z768)) ⟨by omega, by omega⟩ ((q2166 131 11 (by decide)).trans ((q2144 131 11 (by decide)).trans z771)) ⟨by omega, by omega⟩ q2169 (PF_eq x774 (fun j _ => ((q2166 133 j (by simp [fz])).trans ((q2144 133 j (by simp [fz])).trans rfl)))) (fun j hj => (((q2166 133 j (by simp [fz])).trans ((q2144 133 j (by simp [fz])).trans rfl)) : t2164 133 j = t740 133 j).trans (x775 j hj)) ⟨fun h => by exfalso; omega, fun _ => ⟨kc1973, Hlt_1 hr1975 (stS_W (stW_e' (by have q := MT_k hR1983.1; rw [z771] at q; omega) (SN_0 hN2177 (by have q := congrArg Int32.toInt z2176; omega)))), (by rw [show t2164 131 42 = t740 131 42 from ((q2166 131 42 (by decide)).trans ((q2144 131 42 (by decide)).trans rfl))]; exact h421984)⟩⟩ (lv_sub hl [1, 0] rfl) (by omega)
            ·
              have r2184 : R (1) (45) v2175 := ⟨by omega, by omega⟩
              refine r_aload_n S dX12_sentence_83 rfl (lv_at hl 0 rfl) ?_
              refine r_iconst S dX12_sentence_84 (by decide) (fun v2185 z2186 => ?_)
              have r2187 := R_eq z2186
              refine r_ki (q_V (As := [.int v2185]) (rest := []) (K := 38) (ci := 10) S X2163 (c_X12_bad_q l G t2164 q2165 v2185 (R_of (lo := -2147483648) (hi := 2147483647) r2187 rfl)) ck12_183 (Nat.le_of_ble_eq_true rfl) rfl (fun _ => ⟨_, rfl⟩) ⟨_, _, rfl⟩ ⟨Nat.le_of_ble_eq_true rfl, Nat.le_of_ble_eq_true rfl⟩ rfl hl.1 rfl (Nat.le_of_ble_eq_true rfl) dX12_sentence_85 ⟨Nat.le_refl 0, Nat.le_refl 0⟩) X2163 (fun v2191 t2190 H lc q2188 X2189 => ?_)
              unfold po_X12_bad_q at q2188
              obtain ⟨q2192, q2193, q2194, q2195⟩ := q2188
              have F2196 : Fr [(131, 0), (131, 15), (131, 16), (131, 4), (131, 11), (131, 12), (131, 13), (131, 14), (131, 2), (131, 3), (131, 5), (131, 41), (131, 42), (131, 43), (131, 44), (131, 45)] [135, 148, 133, 331] τ t2190 := Fr_call F2172 q2193 (by decide)
              refine r_pop S dX12_sentence_88 rfl ?_
              refine r_iconst S dX12_sentence_89 (by decide) (fun v2197 z2198 => ?_)
              have r2199 := R_eq z2198
              refine r_aload_n S dX12_sentence_90 rfl (lv_at hl 0 rfl) ?_
              refine r_getn (K := 38) S X2189 (Nat.le_of_ble_eq_true rfl) rfl lk12_177_10 (fun _ => ⟨_, rfl, rfl⟩) dX12_sentence_91 (fun v2200 z2201 => ?_)
              have r2203 := R_any v2200
              refine r_isub S dX12_sentence_94 (fun v2204 z2205 => ?_)
              obtain ⟨e2206, r2207⟩ := i_sub (lo := -2147483648) (hi := 2147483647) z2205 r2199 r2203 rfl
              exact r_ret S hr hlk X2189 ⟨q2192, F2196, (by rw [((q2193 131 2 (by decide)).trans ((q2166 131 2 (by decide)).trans ((q2144 131 2 (by decide)).trans z745)))]; exact R_of q20 rfl), (PF_eq x774 (fun j _ => ((q2193 133 j (by simp [fz])).trans ((q2166 133 j (by simp [fz])).trans ((q2144 133 j (by simp [fz])).trans rfl))))), (fun j hj => (((q2193 133 j (by simp [fz])).trans ((q2166 133 j (by simp [fz])).trans ((q2144 133 j (by simp [fz])).trans rfl))) : t2190 133 j = t740 133 j).trans (x775 j hj)), (Or.inl ⟨(1, tc1972.2.1), Hlt_1 hr1975 (stS_W (stW_n (by have q := MT_k hR1983.1; rw [z771] at q; omega) (SN_1 hN2177 (by have q := congrArg Int32.toInt z2176; omega) (hj2178 rfl)))), (by have q1 := congrArg Int32.toInt z2201; have q2 : (t2190 131 16).toInt = _ := congrArg Int32.toInt q2195.2; have q3 := MG_at (MG_fr hR1983 ((q2166 131 3 (by decide)).trans ((q2144 131 3 (by decide)).trans rfl)) ((q2166 131 4 (by decide)).trans ((q2144 131 4 (by decide)).trans rfl)) ((q2166 131 5 (by decide)).trans ((q2144 131 5 (by decide)).trans rfl)) ((q2166 131 11 (by decide)).trans ((q2144 131 11 (by decide)).trans rfl)) ((q2166 131 12 (by decide)).trans ((q2144 131 12 (by decide)).trans rfl)) ((q2166 131 14 (by decide)).trans ((q2144 131 14 (by decide)).trans rfl)) (fun j => ((q2166 132 j (by simp [fz])).trans ((q2144 132 j (by simp [fz])).trans rfl))) (fun j => ((q2166 331 j (by simp [fz])).trans ((q2144 331 j (by simp [fz])).trans rfl))) ((q2166 133 0 (by decide)).trans ((q2144 133 0 (by decide)).trans rfl)) ((q2166 133 1 (by decide)).trans ((q2144 133 1 (by decide)).trans rfl)) (fun j => ((q2166 336 j (by simp [fz])).trans ((q2144 336 j (by simp [fz])).trans rfl))) (fun j => ((q2166 337 j (by simp [fz])).trans ((q2144 337 j (by simp [fz])).trans rfl)))); omega), (by rw [q2195.1]; show _ = ((1 : Nat) : Int); omega)⟩)⟩ rfl dX12_sentence_95
  exact L772 _ t79 _ _ _ v98 v29 v37 v45 v53 v61 v69 v88 v90 X78 q80 F87 (R_of r100 rfl) ((q81 131 0 (by decide)).trans ((M73.2 131 0 (Or.inr (by decide))).trans ((M65.2 131 0 (Or.inr (by decide))).trans ((M57.2 131 0 (Or.inr (by decide))).trans ((M49.2 131 0 (Or.inr (by decide))).trans ((M41.2 131 0 (Or.inr (by decide))).trans ((M33.2 131 0 (Or.inr (by decide))).trans ((q19 131 0 (by decide)).trans M8.1)))))))) ((q81 131 2 (by decide)).trans ((M73.2 131 2 (Or.inr (by decide))).trans ((M65.2 131 2 (Or.inr (by decide))).trans ((M57.2 131 2 (Or.inr (by decide))).trans ((M49.2 131 2 (Or.inr (by decide))).trans ((M41.2 131 2 (Or.inr (by decide))).trans ((M33.2 131 2 (Or.inr (by decide))).trans z26))))))) ((q81 131 3 (by decide)).trans ((M73.2 131 3 (Or.inr (by decide))).trans ((M65.2 131 3 (Or.inr (by decide))).trans ((M57.2 131 3 (Or.inr (by decide))).trans ((M49.2 131 3 (Or.inr (by decide))).trans ((M41.2 131 3 (Or.inr (by decide))).trans ((M33.2 131 3 (Or.inr (by decide))).trans (q21.trans ((M8.2 131 2 (Or.inr (by decide))).trans z2))))))))) ((q81 131 5 (by decide)).trans ((M73.2 131 5 (Or.inr (by decide))).trans ((M65.2 131 5 (Or.inr (by decide))).trans ((M57.2 131 5 (Or.inr (by decide))).trans ((M49.2 131 5 (Or.inr (by decide))).trans ((M41.2 131 5 (Or.inr (by decide))).trans ((M33.2 131 5 (Or.inr (by decide))).trans q23))))))) ((q81 131 15 (by decide)).trans ((M73.2 131 15 (Or.inr (by decide))).trans ((M65.2 131 15 (Or.inr (by decide))).trans ((M57.2 131 15 (Or.inr (by decide))).trans ((M49.2 131 15 (Or.inr (by decide))).trans ((M41.2 131 15 (Or.inr (by decide))).trans M33.1)))))) ⟨by omega, by omega⟩ ((q81 131 41 (by decide)).trans ((M73.2 131 41 (Or.inr (by decide))).trans ((M65.2 131 41 (Or.inr (by decide))).trans ((M57.2 131 41 (Or.inr (by decide))).trans ((M49.2 131 41 (Or.inr (by decide))).trans M41.1))))) ⟨by omega, by omega⟩ ((q81 131 42 (by decide)).trans ((M73.2 131 42 (Or.inr (by decide))).trans ((M65.2 131 42 (Or.inr (by decide))).trans ((M57.2 131 42 (Or.inr (by decide))).trans M49.1)))) ⟨by omega, by omega⟩ ((q81 131 43 (by decide)).trans ((M73.2 131 43 (Or.inr (by decide))).trans ((M65.2 131 43 (Or.inr (by decide))).trans M57.1))) ⟨by omega, by omega⟩ ((q81 131 44 (by decide)).trans ((M73.2 131 44 (Or.inr (by decide))).trans M65.1)) ⟨by omega, by omega⟩ ((q81 131 45 (by decide)).trans M73.1) ⟨by omega, by omega⟩ z89 ⟨by omega, by omega⟩ z91 ⟨by omega, by omega⟩ (SI_0 ((q81 131 41 (by decide)).trans ((M73.2 131 41 (Or.inr (by decide))).trans ((M65.2 131 41 (Or.inr (by decide))).trans ((M57.2 131 41 (Or.inr (by decide))).trans ((M49.2 131 41 (Or.inr (by decide))).trans M41.1))))) ((q81 131 42 (by decide)).trans ((M73.2 131 42 (Or.inr (by decide))).trans ((M65.2 131 42 (Or.inr (by decide))).trans ((M57.2 131 42 (Or.inr (by decide))).trans M49.1)))) ((q81 131 43 (by decide)).trans ((M73.2 131 43 (Or.inr (by decide))).trans ((M65.2 131 43 (Or.inr (by decide))).trans M57.1))) ((q81 131 45 (by decide)).trans M73.1) (by omega) (by omega) (by omega) (by omega)) (PF_eq hp_0 (fun j _ => ((q81 133 j (by simp [fz])).trans ((M73.2 133 j (Or.inl (by decide))).trans ((M65.2 133 j (Or.inl (by decide))).trans ((M57.2 133 j (Or.inl (by decide))).trans ((M49.2 133 j (Or.inl (by decide))).trans ((M41.2 133 j (Or.inl (by decide))).trans ((M33.2 133 j (Or.inl (by decide))).trans ((q19 133 j (by simp [fz])).trans ((M8.2 133 j (Or.inl (by decide))).trans rfl))))))))))) (fun j _ => ((q81 133 j (by simp [fz])).trans ((M73.2 133 j (Or.inl (by decide))).trans ((M65.2 133 j (Or.inl (by decide))).trans ((M57.2 133 j (Or.inl (by decide))).trans ((M49.2 133 j (Or.inl (by decide))).trans ((M41.2 133 j (Or.inl (by decide))).trans ((M33.2 133 j (Or.inl (by decide))).trans ((q19 133 j (by simp [fz])).trans ((M8.2 133 j (Or.inl (by decide))).trans rfl)))))))))) ⟨fun _ => ⟨(false, lex bb nb 200 0, 0, []), Rch_0, ⟨hR97, (by have q := congrArg Int32.toInt ((q81 131 42 (by decide)).trans ((M73.2 131 42 (Or.inr (by decide))).trans ((M65.2 131 42 (Or.inr (by decide))).trans ((M57.2 131 42 (Or.inr (by decide))).trans M49.1)))); show _ = ((0 : Nat) : Int); omega), (by have q := congrArg Int32.toInt ((q81 131 45 (by decide)).trans M73.1); show _ = (0 : Int); omega), [], SK_0 (by have q := congrArg Int32.toInt ((q81 131 43 (by decide)).trans ((M73.2 131 43 (Or.inr (by decide))).trans ((M65.2 131 43 (Or.inr (by decide))).trans M57.1))); omega) (by have q := congrArg Int32.toInt ((q81 131 44 (by decide)).trans ((M73.2 131 44 (Or.inr (by decide))).trans M65.1)); omega), rfl⟩⟩, fun h => by exfalso; omega⟩ (lv_sub hl [1, 0] rfl) (Nat.lt_succ_self _)
