set_option maxHeartbeats 8000000 in
set_option maxRecDepth 100000 in
theorem lc_foes {p : Program} {l : Launch} {e : Env} {s : State} {m : MethodId} {below : List Frame} {meth : Method} {c : Code} {b L : Nat} {xs : Nat → Int32} {G : Gx} {Q : State → Prop} (hst : l.stackTraces = false) (S : Sx G p m c code 7 s #[Value.ref b] RL) (hZ : Zs G s) (hX : va_X b L xs s s.heap) (hbl : b < s.heap.size) (hbA : ¬ G.2.2.2.2 b) (hL : L ≤ 3072) {H : Heap} {lc : List Loc} {ls : Array Slot} {τ : Tau} {cells slots : Nat} {i : Int32} (hi : 0 ≤ i.toInt ∧ i.toInt + 6 ≤ L) (hR : cells + 1 ≤ 601024 ∧ slots + 6 ≤ 7293034) (hJ : JJ τ) (hlen : ((τ 1 1).toInt = (τ 131 2).toInt ∧ (τ 0 11).toInt = (τ 152 0).toInt + 2 * (τ 152 1).toInt) ∧ ZZ τ) (X : Xd G s H lc τ) (hl : lv_has ls 7 [(0, .ref b), (1, .ref (G.2.2.2.1 0)), (2, .ref (G.2.2.2.1 131)), (3, .ref (G.2.2.2.1 153)), (4, .int i)]) (kk : ∀ (H : Heap) (lc : List Loc) (ls : Array Slot) (τ : Tau), JJ τ → (((τ 1 1).toInt = (τ 131 2).toInt ∧ (τ 0 11).toInt = (τ 152 0).toInt + 2 * (τ 152 1).toInt) ∧ ZZ τ) → Xd G s H lc τ → lv_has ls 7 [(0, .ref b), (1, .ref (G.2.2.2.1 0)), (2, .ref (G.2.2.2.1 131)), (3, .ref (G.2.2.2.1 153)), (4, .int i)] → W p l e room_1 s m #[Value.ref b] below meth c H lc (cells + 1) (slots + 6) Q (F0 m 1291 ls [])) : W p l e room_1 s m #[Value.ref b] below meth c H lc cells slots Q (F0 m 1017 ls []) := by
  obtain ⟨hA1, hA2⟩ := hlen.1
  have hZZ := hlen.2
  have rl : R 0 940 (τ 1 1) := rd (K := 1) hJ.1 rfl rfl
  have ri : R 0 3072 i := ⟨by omega, by omega⟩
  refine r_aload_n S dL_law_1017 rfl (lv_at hl 1 rfl) ?_
  refine r_aload_n S dL_law_1018 rfl (lv_at hl 0 rfl) ?_
  refine r_iload S dL_law_1019 (lv_at hl 4 rfl) ?_
  refine r_iconst S dL_law_1021 (by decide) (fun v1 z2 => ?_)
  refine r_iadd S dL_law_1022 (fun v3 z4 => ?_)
  obtain ⟨e5, r6⟩ := i_add (lo := 1) (hi := 3073) z4 ri (R_eq z2) rfl
  refine va_sld S.1.1 S.1.2.1 hX hbl hbA X.2 (vp_in_iff.mpr ⟨by omega, by omega⟩) dL_law_1023 ?_
  refine lv_topi (fun y7 z8 => ?_)
  refine r_ki (q_V (As := [.int y7]) (rest := []) (K := 0) (ci := 9) S X (c_X11_foes l G τ hJ.1 y7 (R_any _)  ) ckL_155 (Nat.le_of_ble_eq_true rfl) rfl (fun _ => ⟨_, rfl⟩) ⟨_, _, rfl⟩ ⟨Nat.le_of_ble_eq_true rfl, Nat.le_of_ble_eq_true rfl⟩ rfl hl.1 rfl (Nat.le_of_ble_eq_true rfl) dL_law_1024 ⟨by show _ ≤ 601024; omega, by show _ ≤ 7293034; omega⟩) X (fun r9 t10 H lc q11 X => ?_)
  obtain ⟨k14, k15, k16⟩ := k_X11_foes q11
  obtain ⟨hJ, e13, n12⟩ := j_X11_foes hJ q11
  have h17 := congrArg Int32.toInt e13
  have h18 := congrArg Int32.toInt n12
  refine r_pop S dL_law_1027 rfl ?_
  refine r_aload_n S dL_law_1028 rfl (lv_at hl 2 rfl) ?_
  refine r_aload_n S dL_law_1029 rfl (lv_at hl 0 rfl) ?_
  refine r_iload S dL_law_1030 (lv_at hl 4 rfl) ?_
  refine r_iconst S dL_law_1032 (by decide) (fun v19 z20 => ?_)
  refine r_iadd S dL_law_1033 (fun v21 z22 => ?_)
  obtain ⟨e23, r24⟩ := i_add (lo := 1) (hi := 3073) z22 ri (R_eq z20) rfl
  refine va_sld S.1.1 S.1.2.1 hX hbl hbA X.2 (vp_in_iff.mpr ⟨by omega, by omega⟩) dL_law_1034 ?_
  refine lv_topi (fun y25 z26 => ?_)
  have h27 : y7 = y25 := (show y25 = y7 by rw [z26, z8, show v21 = v3 from Int32.toInt_inj.mp (by omega)]).symm
  subst h27
  refine r_ki (q_V (As := [.int y7]) (rest := []) (K := 38) (ci := 10) S X (c_X12_foes l G t10 hJ.1 y7 (R_any _)  ) ckL_158 (Nat.le_of_ble_eq_true rfl) rfl (fun _ => ⟨_, rfl⟩) ⟨_, _, rfl⟩ ⟨Nat.le_of_ble_eq_true rfl, Nat.le_of_ble_eq_true rfl⟩ rfl hl.1 rfl (Nat.le_of_ble_eq_true rfl) dL_law_1035 ⟨by show _ ≤ 601024; omega, by show _ ≤ 7293034; omega⟩) X (fun r28 t29 H lc q30 X => ?_)
  obtain ⟨k33, k34, k35⟩ := k_X12_foes q30
  obtain ⟨hJ, e32, n31⟩ := j_X12_foes hJ q30
  have h36 := congrArg Int32.toInt e32
  have h37 := congrArg Int32.toInt n31
  refine r_pop S dL_law_1038 rfl ?_
  refine r_goto (tgt := 1291) S dL_law_1039 (by decide) ?_
  refine w_widen (k := cells + 1) (n := slots + 6) (by omega) (by omega) ?_
  exact kk H lc ls t29 hJ ⟨⟨by omega, by omega⟩, ZZ_kp hZZ (zk_X11_foes q11) (zk_X12_foes q30) (by decide) (by omega)⟩ X (lv_sub hl [0, 1, 2, 3, 4] rfl)
set_option maxHeartbeats 8000000 in
set_option maxRecDepth 100000 in
theorem lc_drawn {p : Program} {l : Launch} {e : Env} {s : State} {m : MethodId} {below : List Frame} {meth : Method} {c : Code} {b L : Nat} {xs : Nat → Int32} {G : Gx} {Q : State → Prop} (hst : l.stackTraces = false) (S : Sx G p m c code 7 s #[Value.ref b] RL) (hZ : Zs G s) (hX : va_X b L xs s s.heap) (hbl : b < s.heap.size) (hbA : ¬ G.2.2.2.2 b) (hL : L ≤ 3072) {H : Heap} {lc : List Loc} {ls : Array Slot} {τ : Tau} {cells slots : Nat} {i : Int32} (hi : 0 ≤ i.toInt ∧ i.toInt + 6 ≤ L) (hR : cells + 1 ≤ 601024 ∧ slots + 6 ≤ 7293034) (hJ : JJ τ) (hlen : ((τ 1 1).toInt = (τ 131 2).toInt ∧ (τ 0 11).toInt = (τ 152 0).toInt + 2 * (τ 152 1).toInt) ∧ ZZ τ) (X : Xd G s H lc τ) (hl : lv_has ls 7 [(0, .ref b), (1, .ref (G.2.2.2.1 0)), (2, .ref (G.2.2.2.1 131)), (3, .ref (G.2.2.2.1 153)), (4, .int i)]) (kk : ∀ (H : Heap) (lc : List Loc) (ls : Array Slot) (τ : Tau), JJ τ → (((τ 1 1).toInt = (τ 131 2).toInt ∧ (τ 0 11).toInt = (τ 152 0).toInt + 2 * (τ 152 1).toInt) ∧ ZZ τ) → Xd G s H lc τ → lv_has ls 7 [(0, .ref b), (1, .ref (G.2.2.2.1 0)), (2, .ref (G.2.2.2.1 131)), (3, .ref (G.2.2.2.1 153)), (4, .int i)] → W p l e room_1 s m #[Value.ref b] below meth c H lc (cells + 1) (slots + 6) Q (F0 m 1291 ls [])) : W p l e room_1 s m #[Value.ref b] below meth c H lc cells slots Q (F0 m 1042 ls []) := by
  obtain ⟨hA1, hA2⟩ := hlen.1
  have hZZ := hlen.2
  have rl : R 0 940 (τ 1 1) := rd (K := 1) hJ.1 rfl rfl
  have ri : R 0 3072 i := ⟨by omega, by omega⟩
  refine r_aload_n S dL_law_1042 rfl (lv_at hl 1 rfl) ?_
  refine r_aload_n S dL_law_1043 rfl (lv_at hl 0 rfl) ?_
  refine r_iload S dL_law_1044 (lv_at hl 4 rfl) ?_
  refine r_iconst S dL_law_1046 (by decide) (fun v1 z2 => ?_)
  refine r_iadd S dL_law_1047 (fun v3 z4 => ?_)
  obtain ⟨e5, r6⟩ := i_add (lo := 1) (hi := 3073) z4 ri (R_eq z2) rfl
  refine va_sld S.1.1 S.1.2.1 hX hbl hbA X.2 (vp_in_iff.mpr ⟨by omega, by omega⟩) dL_law_1048 ?_
  refine lv_topi (fun y7 z8 => ?_)
  refine r_aload_n S dL_law_1049 rfl (lv_at hl 0 rfl) ?_
  refine r_iload S dL_law_1050 (lv_at hl 4 rfl) ?_
  refine r_iconst S dL_law_1052 (by decide) (fun v9 z10 => ?_)
  refine r_iadd S dL_law_1053 (fun v11 z12 => ?_)
  obtain ⟨e13, r14⟩ := i_add (lo := 2) (hi := 3074) z12 ri (R_eq z10) rfl
  refine va_sld S.1.1 S.1.2.1 hX hbl hbA X.2 (vp_in_iff.mpr ⟨by omega, by omega⟩) dL_law_1054 ?_
  refine lv_topi (fun y15 z16 => ?_)
  refine r_ki (q_V (As := [.int y7, .int y15]) (rest := []) (K := 0) (ci := 9) S X (c_X11_drawn l G τ hJ.1 y7 y15 (R_any _) (R_any _) hJ.2.1 hJ.2.2.1 ) ckL_159 (Nat.le_of_ble_eq_true rfl) rfl (fun _ => ⟨_, rfl⟩) ⟨_, _, rfl⟩ ⟨Nat.le_of_ble_eq_true rfl, Nat.le_of_ble_eq_true rfl⟩ rfl hl.1 rfl (Nat.le_of_ble_eq_true rfl) dL_law_1055 ⟨by show _ ≤ 601024; omega, by show _ ≤ 7293034; omega⟩) X (fun r17 t18 H lc q19 X => ?_)
  obtain ⟨k22, k23, k24⟩ := k_X11_drawn q19
  obtain ⟨hJ, e21, n20⟩ := j_X11_drawn hJ q19
  have h25 := congrArg Int32.toInt e21
  have h26 := congrArg Int32.toInt n20
  refine r_pop S dL_law_1058 rfl ?_
  refine r_aload_n S dL_law_1059 rfl (lv_at hl 2 rfl) ?_
  refine r_aload_n S dL_law_1060 rfl (lv_at hl 0 rfl) ?_
  refine r_iload S dL_law_1061 (lv_at hl 4 rfl) ?_
  refine r_iconst S dL_law_1063 (by decide) (fun v27 z28 => ?_)
  refine r_iadd S dL_law_1064 (fun v29 z30 => ?_)
  obtain ⟨e31, r32⟩ := i_add (lo := 1) (hi := 3073) z30 ri (R_eq z28) rfl
  refine va_sld S.1.1 S.1.2.1 hX hbl hbA X.2 (vp_in_iff.mpr ⟨by omega, by omega⟩) dL_law_1065 ?_
  refine lv_topi (fun y33 z34 => ?_)
  have h35 : y7 = y33 := (show y33 = y7 by rw [z34, z8, show v29 = v3 from Int32.toInt_inj.mp (by omega)]).symm
  subst h35
  refine r_aload_n S dL_law_1066 rfl (lv_at hl 0 rfl) ?_
  refine r_iload S dL_law_1067 (lv_at hl 4 rfl) ?_
  refine r_iconst S dL_law_1069 (by decide) (fun v36 z37 => ?_)
  refine r_iadd S dL_law_1070 (fun v38 z39 => ?_)
  obtain ⟨e40, r41⟩ := i_add (lo := 2) (hi := 3074) z39 ri (R_eq z37) rfl
  refine va_sld S.1.1 S.1.2.1 hX hbl hbA X.2 (vp_in_iff.mpr ⟨by omega, by omega⟩) dL_law_1071 ?_
  refine lv_topi (fun y42 z43 => ?_)
  have h44 : y15 = y42 := (show y42 = y15 by rw [z43, z16, show v38 = v11 from Int32.toInt_inj.mp (by omega)]).symm
  subst h44
  refine r_ki (q_V (As := [.int y7, .int y15]) (rest := []) (K := 38) (ci := 10) S X (c_X12_drawn_x l G t18 hJ.1 y7 y15 (R_any _) (R_any _)  ) ckL_162 (Nat.le_of_ble_eq_true rfl) rfl (fun _ => ⟨_, rfl⟩) ⟨_, _, rfl⟩ ⟨Nat.le_of_ble_eq_true rfl, Nat.le_of_ble_eq_true rfl⟩ rfl hl.1 rfl (Nat.le_of_ble_eq_true rfl) dL_law_1072 ⟨by show _ ≤ 601024; omega, by show _ ≤ 7293034; omega⟩) X (fun r45 t46 H lc q47 X => ?_)
  obtain ⟨k50, k51, k52⟩ := k_X12_drawn_x q47
  obtain ⟨hJ, e49, n48⟩ := j_X12_drawn_x hJ q47
  have h53 := congrArg Int32.toInt e49
  have h54 := congrArg Int32.toInt n48
  refine r_pop S dL_law_1075 rfl ?_
  refine r_goto (tgt := 1291) S dL_law_1076 (by decide) ?_
  refine w_widen (k := cells + 1) (n := slots + 6) (by omega) (by omega) ?_
  exact kk H lc ls t46 hJ ⟨⟨by omega, by omega⟩, ZZ_kp hZZ (zk_X11_drawn q19) (zk_X12_drawn_x q47) (by decide) (by omega)⟩ X (lv_sub hl [0, 1, 2, 3, 4] rfl)
set_option maxHeartbeats 8000000 in
set_option maxRecDepth 100000 in
theorem lc_odds {p : Program} {l : Launch} {e : Env} {s : State} {m : MethodId} {below : List Frame} {meth : Method} {c : Code} {b L : Nat} {xs : Nat → Int32} {G : Gx} {Q : State → Prop} (hst : l.stackTraces = false) (S : Sx G p m c code 7 s #[Value.ref b] RL) (hZ : Zs G s) (hX : va_X b L xs s s.heap) (hbl : b < s.heap.size) (hbA : ¬ G.2.2.2.2 b) (hL : L ≤ 3072) {H : Heap} {lc : List Loc} {ls : Array Slot} {τ : Tau} {cells slots : Nat} {i : Int32} (hi : 0 ≤ i.toInt ∧ i.toInt + 6 ≤ L) (hR : cells + 1 ≤ 601024 ∧ slots + 6 ≤ 7293034) (hJ : JJ τ) (hlen : ((τ 1 1).toInt = (τ 131 2).toInt ∧ (τ 0 11).toInt = (τ 152 0).toInt + 2 * (τ 152 1).toInt) ∧ ZZ τ) (X : Xd G s H lc τ) (hl : lv_has ls 7 [(0, .ref b), (1, .ref (G.2.2.2.1 0)), (2, .ref (G.2.2.2.1 131)), (3, .ref (G.2.2.2.1 153)), (4, .int i)]) (kk : ∀ (H : Heap) (lc : List Loc) (ls : Array Slot) (τ : Tau), JJ τ → (((τ 1 1).toInt = (τ 131 2).toInt ∧ (τ 0 11).toInt = (τ 152 0).toInt + 2 * (τ 152 1).toInt) ∧ ZZ τ) → Xd G s H lc τ → lv_has ls 7 [(0, .ref b), (1, .ref (G.2.2.2.1 0)), (2, .ref (G.2.2.2.1 131)), (3, .ref (G.2.2.2.1 153)), (4, .int i)] → W p l e room_1 s m #[Value.ref b] below meth c H lc (cells + 1) (slots + 6) Q (F0 m 1291 ls [])) : W p l e room_1 s m #[Value.ref b] below meth c H lc cells slots Q (F0 m 1079 ls []) := by
  obtain ⟨hA1, hA2⟩ := hlen.1
  have hZZ := hlen.2
  have rl : R 0 940 (τ 1 1) := rd (K := 1) hJ.1 rfl rfl
  have ri : R 0 3072 i := ⟨by omega, by omega⟩
  refine r_aload_n S dL_law_1079 rfl (lv_at hl 1 rfl) ?_
  refine r_aload_n S dL_law_1080 rfl (lv_at hl 0 rfl) ?_
  refine r_iload S dL_law_1081 (lv_at hl 4 rfl) ?_
  refine r_iconst S dL_law_1083 (by decide) (fun v1 z2 => ?_)
  refine r_iadd S dL_law_1084 (fun v3 z4 => ?_)
  obtain ⟨e5, r6⟩ := i_add (lo := 1) (hi := 3073) z4 ri (R_eq z2) rfl
  refine va_sld S.1.1 S.1.2.1 hX hbl hbA X.2 (vp_in_iff.mpr ⟨by omega, by omega⟩) dL_law_1085 ?_
  refine lv_topi (fun y7 z8 => ?_)
  refine r_aload_n S dL_law_1086 rfl (lv_at hl 0 rfl) ?_
  refine r_iload S dL_law_1087 (lv_at hl 4 rfl) ?_
  refine r_iconst S dL_law_1089 (by decide) (fun v9 z10 => ?_)
  refine r_iadd S dL_law_1090 (fun v11 z12 => ?_)
  obtain ⟨e13, r14⟩ := i_add (lo := 2) (hi := 3074) z12 ri (R_eq z10) rfl
  refine va_sld S.1.1 S.1.2.1 hX hbl hbA X.2 (vp_in_iff.mpr ⟨by omega, by omega⟩) dL_law_1091 ?_
  refine lv_topi (fun y15 z16 => ?_)
  refine r_aload_n S dL_law_1092 rfl (lv_at hl 0 rfl) ?_
  refine r_iload S dL_law_1093 (lv_at hl 4 rfl) ?_
  refine r_iconst S dL_law_1095 (by decide) (fun v17 z18 => ?_)
  refine r_iadd S dL_law_1096 (fun v19 z20 => ?_)
  obtain ⟨e21, r22⟩ := i_add (lo := 3) (hi := 3075) z20 ri (R_eq z18) rfl
  refine va_sld S.1.1 S.1.2.1 hX hbl hbA X.2 (vp_in_iff.mpr ⟨by omega, by omega⟩) dL_law_1097 ?_
  refine lv_topi (fun y23 z24 => ?_)
  refine r_ki (q_V (As := [.int y7, .int y15, .int y23]) (rest := []) (K := 0) (ci := 9) S X (c_X11_odds l G τ hJ.1 y7 y15 y23 (R_any _) (R_any _) (R_any _) hJ.2.1 ) ckL_163 (Nat.le_of_ble_eq_true rfl) rfl (fun _ => ⟨_, rfl⟩) ⟨_, _, rfl⟩ ⟨Nat.le_of_ble_eq_true rfl, Nat.le_of_ble_eq_true rfl⟩ rfl hl.1 rfl (Nat.le_of_ble_eq_true rfl) dL_law_1098 ⟨by show _ ≤ 601024; omega, by show _ ≤ 7293034; omega⟩) X (fun r25 t26 H lc q27 X => ?_)
  obtain ⟨k30, k31, k32⟩ := k_X11_odds q27
  obtain ⟨hJ, e29, n28⟩ := j_X11_odds hJ q27
  have h33 := congrArg Int32.toInt e29
  have h34 := congrArg Int32.toInt n28
  refine r_pop S dL_law_1101 rfl ?_
  refine r_aload_n S dL_law_1102 rfl (lv_at hl 2 rfl) ?_
  refine r_aload_n S dL_law_1103 rfl (lv_at hl 0 rfl) ?_
  refine r_iload S dL_law_1104 (lv_at hl 4 rfl) ?_
  refine r_iconst S dL_law_1106 (by decide) (fun v35 z36 => ?_)
  refine r_iadd S dL_law_1107 (fun v37 z38 => ?_)
  obtain ⟨e39, r40⟩ := i_add (lo := 1) (hi := 3073) z38 ri (R_eq z36) rfl
  refine va_sld S.1.1 S.1.2.1 hX hbl hbA X.2 (vp_in_iff.mpr ⟨by omega, by omega⟩) dL_law_1108 ?_
  refine lv_topi (fun y41 z42 => ?_)
  have h43 : y7 = y41 := (show y41 = y7 by rw [z42, z8, show v37 = v3 from Int32.toInt_inj.mp (by omega)]).symm
  subst h43
  refine r_aload_n S dL_law_1109 rfl (lv_at hl 0 rfl) ?_
  refine r_iload S dL_law_1110 (lv_at hl 4 rfl) ?_
  refine r_iconst S dL_law_1112 (by decide) (fun v44 z45 => ?_)
  refine r_iadd S dL_law_1113 (fun v46 z47 => ?_)
  obtain ⟨e48, r49⟩ := i_add (lo := 2) (hi := 3074) z47 ri (R_eq z45) rfl
  refine va_sld S.1.1 S.1.2.1 hX hbl hbA X.2 (vp_in_iff.mpr ⟨by omega, by omega⟩) dL_law_1114 ?_
  refine lv_topi (fun y50 z51 => ?_)
  have h52 : y15 = y50 := (show y50 = y15 by rw [z51, z16, show v46 = v11 from Int32.toInt_inj.mp (by omega)]).symm
  subst h52
  refine r_aload_n S dL_law_1115 rfl (lv_at hl 0 rfl) ?_
  refine r_iload S dL_law_1116 (lv_at hl 4 rfl) ?_
  refine r_iconst S dL_law_1118 (by decide) (fun v53 z54 => ?_)
  refine r_iadd S dL_law_1119 (fun v55 z56 => ?_)
  obtain ⟨e57, r58⟩ := i_add (lo := 3) (hi := 3075) z56 ri (R_eq z54) rfl
  refine va_sld S.1.1 S.1.2.1 hX hbl hbA X.2 (vp_in_iff.mpr ⟨by omega, by omega⟩) dL_law_1120 ?_
  refine lv_topi (fun y59 z60 => ?_)
  have h61 : y23 = y59 := (show y59 = y23 by rw [z60, z24, show v55 = v19 from Int32.toInt_inj.mp (by omega)]).symm
  subst h61
  refine r_ki (q_V (As := [.int y7, .int y15, .int y23]) (rest := []) (K := 38) (ci := 10) S X (c_X12_odds l G t26 hJ.1 y7 y15 y23 (R_any _) (R_any _) (R_any _)  ) ckL_166 (Nat.le_of_ble_eq_true rfl) rfl (fun _ => ⟨_, rfl⟩) ⟨_, _, rfl⟩ ⟨Nat.le_of_ble_eq_true rfl, Nat.le_of_ble_eq_true rfl⟩ rfl hl.1 rfl (Nat.le_of_ble_eq_true rfl) dL_law_1121 ⟨by show _ ≤ 601024; omega, by show _ ≤ 7293034; omega⟩) X (fun r62 t63 H lc q64 X => ?_)
  obtain ⟨k67, k68, k69⟩ := k_X12_odds q64
  obtain ⟨hJ, e66, n65⟩ := j_X12_odds hJ q64
  have h70 := congrArg Int32.toInt e66
  have h71 := congrArg Int32.toInt n65
  refine r_pop S dL_law_1124 rfl ?_
  refine r_goto (tgt := 1291) S dL_law_1125 (by decide) ?_
  refine w_widen (k := cells + 1) (n := slots + 6) (by omega) (by omega) ?_
  exact kk H lc ls t63 hJ ⟨⟨by omega, by omega⟩, ZZ_kp hZZ (zk_X11_odds q27) (zk_X12_odds q64) (by decide) (by omega)⟩ X (lv_sub hl [0, 1, 2, 3, 4] rfl)
set_option maxHeartbeats 8000000 in
set_option maxRecDepth 100000 in
theorem lc_log {p : Program} {l : Launch} {e : Env} {s : State} {m : MethodId} {below : List Frame} {meth : Method} {c : Code} {b L : Nat} {xs : Nat → Int32} {G : Gx} {Q : State → Prop} (hst : l.stackTraces = false) (S : Sx G p m c code 7 s #[Value.ref b] RL) (hZ : Zs G s) (hX : va_X b L xs s s.heap) (hbl : b < s.heap.size) (hbA : ¬ G.2.2.2.2 b) (hL : L ≤ 3072) {H : Heap} {lc : List Loc} {ls : Array Slot} {τ : Tau} {cells slots : Nat} {i : Int32} (hi : 0 ≤ i.toInt ∧ i.toInt + 6 ≤ L) (hR : cells + 1 ≤ 601024 ∧ slots + 6 ≤ 7293034) (hJ : JJ τ) (hlen : ((τ 1 1).toInt = (τ 131 2).toInt ∧ (τ 0 11).toInt = (τ 152 0).toInt + 2 * (τ 152 1).toInt) ∧ ZZ τ) (X : Xd G s H lc τ) (hl : lv_has ls 7 [(0, .ref b), (1, .ref (G.2.2.2.1 0)), (2, .ref (G.2.2.2.1 131)), (3, .ref (G.2.2.2.1 153)), (4, .int i)]) (kk : ∀ (H : Heap) (lc : List Loc) (ls : Array Slot) (τ : Tau), JJ τ → (((τ 1 1).toInt = (τ 131 2).toInt ∧ (τ 0 11).toInt = (τ 152 0).toInt + 2 * (τ 152 1).toInt) ∧ ZZ τ) → Xd G s H lc τ → lv_has ls 7 [(0, .ref b), (1, .ref (G.2.2.2.1 0)), (2, .ref (G.2.2.2.1 131)), (3, .ref (G.2.2.2.1 153)), (4, .int i)] → W p l e room_1 s m #[Value.ref b] below meth c H lc (cells + 1) (slots + 6) Q (F0 m 1291 ls [])) : W p l e room_1 s m #[Value.ref b] below meth c H lc cells slots Q (F0 m 1128 ls []) := by
  obtain ⟨hA1, hA2⟩ := hlen.1
  have hZZ := hlen.2
  have rl : R 0 940 (τ 1 1) := rd (K := 1) hJ.1 rfl rfl
  have ri : R 0 3072 i := ⟨by omega, by omega⟩
  refine r_aload_n S dL_law_1128 rfl (lv_at hl 1 rfl) ?_
  refine r_aload_n S dL_law_1129 rfl (lv_at hl 0 rfl) ?_
  refine r_iload S dL_law_1130 (lv_at hl 4 rfl) ?_
  refine r_iconst S dL_law_1132 (by decide) (fun v1 z2 => ?_)
  refine r_iadd S dL_law_1133 (fun v3 z4 => ?_)
  obtain ⟨e5, r6⟩ := i_add (lo := 1) (hi := 3073) z4 ri (R_eq z2) rfl
  refine va_sld S.1.1 S.1.2.1 hX hbl hbA X.2 (vp_in_iff.mpr ⟨by omega, by omega⟩) dL_law_1134 ?_
  refine lv_topi (fun y7 z8 => ?_)
  refine r_ki (q_V (As := [.int y7]) (rest := []) (K := 0) (ci := 9) S X (c_X11_log l G τ hJ.1 y7 (R_any _) hJ.2.1 hJ.2.2.1 hJ.2.2.2.2.1 ) ckL_167 (Nat.le_of_ble_eq_true rfl) rfl (fun _ => ⟨_, rfl⟩) ⟨_, _, rfl⟩ ⟨Nat.le_of_ble_eq_true rfl, Nat.le_of_ble_eq_true rfl⟩ rfl hl.1 rfl (Nat.le_of_ble_eq_true rfl) dL_law_1135 ⟨by show _ ≤ 601024; omega, by show _ ≤ 7293034; omega⟩) X (fun r9 t10 H lc q11 X => ?_)
  obtain ⟨k15, k16, k17⟩ := k_X11_log q11
  obtain ⟨hJ, e14, n12, n13⟩ := j_X11_log hJ q11
  have h18 := congrArg Int32.toInt e14
  refine r_pop S dL_law_1138 rfl ?_
  refine r_aload_n S dL_law_1139 rfl (lv_at hl 2 rfl) ?_
  refine r_aload_n S dL_law_1140 rfl (lv_at hl 0 rfl) ?_
  refine r_iload S dL_law_1141 (lv_at hl 4 rfl) ?_
  refine r_iconst S dL_law_1143 (by decide) (fun v19 z20 => ?_)
  refine r_iadd S dL_law_1144 (fun v21 z22 => ?_)
  obtain ⟨e23, r24⟩ := i_add (lo := 1) (hi := 3073) z22 ri (R_eq z20) rfl
  refine va_sld S.1.1 S.1.2.1 hX hbl hbA X.2 (vp_in_iff.mpr ⟨by omega, by omega⟩) dL_law_1145 ?_
  refine lv_topi (fun y25 z26 => ?_)
  have h27 : y7 = y25 := (show y25 = y7 by rw [z26, z8, show v21 = v3 from Int32.toInt_inj.mp (by omega)]).symm
  subst h27
  refine r_ki (q_V (As := [.int y7]) (rest := []) (K := 38) (ci := 10) S X (c_X12_log l G t10 hJ.1 y7 (R_any _)  ) ckL_170 (Nat.le_of_ble_eq_true rfl) rfl (fun _ => ⟨_, rfl⟩) ⟨_, _, rfl⟩ ⟨Nat.le_of_ble_eq_true rfl, Nat.le_of_ble_eq_true rfl⟩ rfl hl.1 rfl (Nat.le_of_ble_eq_true rfl) dL_law_1146 ⟨by show _ ≤ 601024; omega, by show _ ≤ 7293034; omega⟩) X (fun r28 t29 H lc q30 X => ?_)
  obtain ⟨k34, k35, k36⟩ := k_X12_log q30
  obtain ⟨hJ, e33, n31, n32⟩ := j_X12_log hJ q30
  have h37 := congrArg Int32.toInt e33
  refine r_pop S dL_law_1149 rfl ?_
  refine r_goto (tgt := 1291) S dL_law_1150 (by decide) ?_
  refine w_widen (k := cells + 1) (n := slots + 6) (by omega) (by omega) ?_
  exact kk H lc ls t29 hJ ⟨⟨by omega, by omega⟩, ZZ_kp hZZ (zk_X11_log q11) (zk_X12_log q30) (by decide) (by omega)⟩ X (lv_sub hl [0, 1, 2, 3, 4] rfl)
set_option maxHeartbeats 8000000 in
set_option maxRecDepth 100000 in
theorem lc_logged {p : Program} {l : Launch} {e : Env} {s : State} {m : MethodId} {below : List Frame} {meth : Method} {c : Code} {b L : Nat} {xs : Nat → Int32} {G : Gx} {Q : State → Prop} (hst : l.stackTraces = false) (S : Sx G p m c code 7 s #[Value.ref b] RL) (hZ : Zs G s) (hX : va_X b L xs s s.heap) (hbl : b < s.heap.size) (hbA : ¬ G.2.2.2.2 b) (hL : L ≤ 3072) {H : Heap} {lc : List Loc} {ls : Array Slot} {τ : Tau} {cells slots : Nat} {i : Int32} (hi : 0 ≤ i.toInt ∧ i.toInt + 6 ≤ L) (hR : cells + 1 ≤ 601024 ∧ slots + 6 ≤ 7293034) (hJ : JJ τ) (hlen : ((τ 1 1).toInt = (τ 131 2).toInt ∧ (τ 0 11).toInt = (τ 152 0).toInt + 2 * (τ 152 1).toInt) ∧ ZZ τ) (X : Xd G s H lc τ) (hl : lv_has ls 7 [(0, .ref b), (1, .ref (G.2.2.2.1 0)), (2, .ref (G.2.2.2.1 131)), (3, .ref (G.2.2.2.1 153)), (4, .int i)]) (kk : ∀ (H : Heap) (lc : List Loc) (ls : Array Slot) (τ : Tau), JJ τ → (((τ 1 1).toInt = (τ 131 2).toInt ∧ (τ 0 11).toInt = (τ 152 0).toInt + 2 * (τ 152 1).toInt) ∧ ZZ τ) → Xd G s H lc τ → lv_has ls 7 [(0, .ref b), (1, .ref (G.2.2.2.1 0)), (2, .ref (G.2.2.2.1 131)), (3, .ref (G.2.2.2.1 153)), (4, .int i)] → W p l e room_1 s m #[Value.ref b] below meth c H lc (cells + 1) (slots + 6) Q (F0 m 1291 ls [])) : W p l e room_1 s m #[Value.ref b] below meth c H lc cells slots Q (F0 m 1153 ls []) := by
  obtain ⟨hA1, hA2⟩ := hlen.1
  have hZZ := hlen.2
  have rl : R 0 940 (τ 1 1) := rd (K := 1) hJ.1 rfl rfl
  have ri : R 0 3072 i := ⟨by omega, by omega⟩
  refine r_aload_n S dL_law_1153 rfl (lv_at hl 1 rfl) ?_
  refine r_aload_n S dL_law_1154 rfl (lv_at hl 0 rfl) ?_
  refine r_iload S dL_law_1155 (lv_at hl 4 rfl) ?_
  refine r_iconst S dL_law_1157 (by decide) (fun v1 z2 => ?_)
  refine r_iadd S dL_law_1158 (fun v3 z4 => ?_)
  obtain ⟨e5, r6⟩ := i_add (lo := 1) (hi := 3073) z4 ri (R_eq z2) rfl
  refine va_sld S.1.1 S.1.2.1 hX hbl hbA X.2 (vp_in_iff.mpr ⟨by omega, by omega⟩) dL_law_1159 ?_
  refine lv_topi (fun y7 z8 => ?_)
  refine r_ki (q_V (As := [.int y7]) (rest := []) (K := 0) (ci := 9) S X (c_X11_logged l G τ hJ.1 y7 (R_any _)  ) ckL_171 (Nat.le_of_ble_eq_true rfl) rfl (fun _ => ⟨_, rfl⟩) ⟨_, _, rfl⟩ ⟨Nat.le_of_ble_eq_true rfl, Nat.le_of_ble_eq_true rfl⟩ rfl hl.1 rfl (Nat.le_of_ble_eq_true rfl) dL_law_1160 ⟨by show _ ≤ 601024; omega, by show _ ≤ 7293034; omega⟩) X (fun r9 t10 H lc q11 X => ?_)
  obtain ⟨k14, k15, k16⟩ := k_X11_logged q11
  obtain ⟨hJ, e13, n12⟩ := j_X11_logged hJ q11
  have h17 := congrArg Int32.toInt e13
  have h18 := congrArg Int32.toInt n12
  refine r_pop S dL_law_1163 rfl ?_
  refine r_aload_n S dL_law_1164 rfl (lv_at hl 2 rfl) ?_
  refine r_aload_n S dL_law_1165 rfl (lv_at hl 0 rfl) ?_
  refine r_iload S dL_law_1166 (lv_at hl 4 rfl) ?_
  refine r_iconst S dL_law_1168 (by decide) (fun v19 z20 => ?_)
  refine r_iadd S dL_law_1169 (fun v21 z22 => ?_)
  obtain ⟨e23, r24⟩ := i_add (lo := 1) (hi := 3073) z22 ri (R_eq z20) rfl
  refine va_sld S.1.1 S.1.2.1 hX hbl hbA X.2 (vp_in_iff.mpr ⟨by omega, by omega⟩) dL_law_1170 ?_
  refine lv_topi (fun y25 z26 => ?_)
  have h27 : y7 = y25 := (show y25 = y7 by rw [z26, z8, show v21 = v3 from Int32.toInt_inj.mp (by omega)]).symm
  subst h27
  refine r_ki (q_V (As := [.int y7]) (rest := []) (K := 38) (ci := 10) S X (c_X12_logged l G t10 hJ.1 y7 (R_any _)  ) ckL_174 (Nat.le_of_ble_eq_true rfl) rfl (fun _ => ⟨_, rfl⟩) ⟨_, _, rfl⟩ ⟨Nat.le_of_ble_eq_true rfl, Nat.le_of_ble_eq_true rfl⟩ rfl hl.1 rfl (Nat.le_of_ble_eq_true rfl) dL_law_1171 ⟨by show _ ≤ 601024; omega, by show _ ≤ 7293034; omega⟩) X (fun r28 t29 H lc q30 X => ?_)
  obtain ⟨k33, k34, k35⟩ := k_X12_logged q30
  obtain ⟨hJ, e32, n31⟩ := j_X12_logged hJ q30
  have h36 := congrArg Int32.toInt e32
  have h37 := congrArg Int32.toInt n31
  refine r_pop S dL_law_1174 rfl ?_
  refine r_goto (tgt := 1291) S dL_law_1175 (by decide) ?_
  refine w_widen (k := cells + 1) (n := slots + 6) (by omega) (by omega) ?_
  exact kk H lc ls t29 hJ ⟨⟨by omega, by omega⟩, ZZ_kp hZZ (zk_X11_logged q11) (zk_X12_logged q30) (by decide) (by omega)⟩ X (lv_sub hl [0, 1, 2, 3, 4] rfl)
set_option maxHeartbeats 8000000 in
set_option maxRecDepth 100000 in
theorem lc_sentence {p : Program} {l : Launch} {e : Env} {s : State} {m : MethodId} {below : List Frame} {meth : Method} {c : Code} {b L : Nat} {xs : Nat → Int32} {G : Gx} {Q : State → Prop} (hst : l.stackTraces = false) (S : Sx G p m c code 7 s #[Value.ref b] RL) (hZ : Zs G s) (hX : va_X b L xs s s.heap) (hbl : b < s.heap.size) (hbA : ¬ G.2.2.2.2 b) (hL : L ≤ 3072) {H : Heap} {lc : List Loc} {ls : Array Slot} {τ : Tau} {cells slots : Nat} {i : Int32} (hi : 0 ≤ i.toInt ∧ i.toInt + 6 ≤ L) (hR : cells + 1 ≤ 601024 ∧ slots + 6 ≤ 7293034) (hJ : JJ τ) (hlen : ((τ 1 1).toInt = (τ 131 2).toInt ∧ (τ 0 11).toInt = (τ 152 0).toInt + 2 * (τ 152 1).toInt) ∧ ZZ τ) (X : Xd G s H lc τ) (hl : lv_has ls 7 [(0, .ref b), (1, .ref (G.2.2.2.1 0)), (2, .ref (G.2.2.2.1 131)), (3, .ref (G.2.2.2.1 153)), (4, .int i)]) (kk : ∀ (H : Heap) (lc : List Loc) (ls : Array Slot) (τ : Tau), JJ τ → (((τ 1 1).toInt = (τ 131 2).toInt ∧ (τ 0 11).toInt = (τ 152 0).toInt + 2 * (τ 152 1).toInt) ∧ ZZ τ) → Xd G s H lc τ → lv_has ls 7 [(0, .ref b), (1, .ref (G.2.2.2.1 0)), (2, .ref (G.2.2.2.1 131)), (3, .ref (G.2.2.2.1 153)), (4, .int i)] → W p l e room_1 s m #[Value.ref b] below meth c H lc (cells + 1) (slots + 6) Q (F0 m 1291 ls [])) : W p l e room_1 s m #[Value.ref b] below meth c H lc cells slots Q (F0 m 1178 ls []) := by
  obtain ⟨hA1, hA2⟩ := hlen.1
  have hZZ := hlen.2
  have rl : R 0 940 (τ 1 1) := rd (K := 1) hJ.1 rfl rfl
  have ri : R 0 3072 i := ⟨by omega, by omega⟩
  refine r_aload_n S dL_law_1178 rfl (lv_at hl 1 rfl) ?_
  obtain ⟨an, mn, hNc, hNm⟩ := hZZ.2.2.1
  refine r_ki (q_V (As := []) (rest := []) (K := 0) (ci := 9) S X (c_X11_sentence_q l G τ hJ.1   hJ.2.2.2.2.2.2.1 hJ.2.2.2.2.2.1  (bbT τ) (τ 1 1).toInt.toNat an mn (bbT_c rl.1 rl.2) hNc) ckL_175 (Nat.le_of_ble_eq_true rfl) rfl (fun _ => ⟨_, rfl⟩) ⟨_, _, rfl⟩ ⟨Nat.le_of_ble_eq_true rfl, Nat.le_of_ble_eq_true rfl⟩ rfl hl.1 rfl (Nat.le_of_ble_eq_true rfl) dL_law_1179 ⟨by show _ ≤ 601024; omega, by show _ ≤ 7293034; omega⟩) X (fun r1 t2 H lc q3 X => ?_)
  have hJX := hJ
  obtain ⟨hJ, e5, -⟩ := j_X11_sentence_q hJ q3
  have h6 := congrArg Int32.toInt e5
  refine r_aload_n S dL_law_1182 rfl (lv_at hl 2 rfl) ?_
  refine r_ki (q_V (As := []) (rest := [.int r1]) (K := 38) (ci := 10) S X (c_X12_sentence_s l G t2 hJ.1    hJ.2.2.2.2.2.2.2.2.2.1 (bbT τ) (τ 1 1).toInt.toNat an mn (bbT_m rl.1 rl.2 hA1 (by omega) ((zk_X11_sentence_q q3).2.1 rfl) hZZ.1) (NR_fr ⟨hNm.1, hNm.2, hZZ.2.1⟩ ((zk_X11_sentence_q q3).2.2.2.2.1 rfl).1 ((zk_X11_sentence_q q3).2.2.2.2.1 rfl).2.1 ((zk_X11_sentence_q q3).2.2.2.2.1 rfl).2.2 ((zk_X11_sentence_q q3).2.2.1 rfl))) ckL_178 (Nat.le_of_ble_eq_true rfl) rfl (fun _ => ⟨_, rfl⟩) ⟨_, _, rfl⟩ ⟨Nat.le_of_ble_eq_true rfl, Nat.le_of_ble_eq_true rfl⟩ rfl hl.1 rfl (Nat.le_of_ble_eq_true rfl) dL_law_1183 ⟨by show _ ≤ 601024; omega, by show _ ≤ 7293034; omega⟩) X (fun r7 t8 H lc q9 X => ?_)
  have hJM := hJ
  obtain ⟨hJ, e11, -⟩ := j_X12_sentence_s hJ q9
  have h12 := congrArg Int32.toInt e11
  have hEE := ee_sentence hJX hlen q3 q9
  obtain ⟨hEE, hrr⟩ := hEE
  refine r_icmp_eq (tgt := 1291) S dL_law_1186 (by decide) (fun hq => ?_) (fun hq => by exfalso; omega)
  refine w_widen (k := cells + 1) (n := slots + 6) (by omega) (by omega) ?_
  exact kk H lc ls t8 hJ hEE X (lv_sub hl [0, 1, 2, 3, 4] rfl)
set_option maxHeartbeats 8000000 in
set_option maxRecDepth 100000 in
theorem lc_said {p : Program} {l : Launch} {e : Env} {s : State} {m : MethodId} {below : List Frame} {meth : Method} {c : Code} {b L : Nat} {xs : Nat → Int32} {G : Gx} {Q : State → Prop} (hst : l.stackTraces = false) (S : Sx G p m c code 7 s #[Value.ref b] RL) (hZ : Zs G s) (hX : va_X b L xs s s.heap) (hbl : b < s.heap.size) (hbA : ¬ G.2.2.2.2 b) (hL : L ≤ 3072) {H : Heap} {lc : List Loc} {ls : Array Slot} {τ : Tau} {cells slots : Nat} {i : Int32} (hi : 0 ≤ i.toInt ∧ i.toInt + 6 ≤ L) (hR : cells + 1 ≤ 601024 ∧ slots + 6 ≤ 7293034) (hJ : JJ τ) (hlen : ((τ 1 1).toInt = (τ 131 2).toInt ∧ (τ 0 11).toInt = (τ 152 0).toInt + 2 * (τ 152 1).toInt) ∧ ZZ τ) (X : Xd G s H lc τ) (hl : lv_has ls 7 [(0, .ref b), (1, .ref (G.2.2.2.1 0)), (2, .ref (G.2.2.2.1 131)), (3, .ref (G.2.2.2.1 153)), (4, .int i)]) (kk : ∀ (H : Heap) (lc : List Loc) (ls : Array Slot) (τ : Tau), JJ τ → (((τ 1 1).toInt = (τ 131 2).toInt ∧ (τ 0 11).toInt = (τ 152 0).toInt + 2 * (τ 152 1).toInt) ∧ ZZ τ) → Xd G s H lc τ → lv_has ls 7 [(0, .ref b), (1, .ref (G.2.2.2.1 0)), (2, .ref (G.2.2.2.1 131)), (3, .ref (G.2.2.2.1 153)), (4, .int i)] → W p l e room_1 s m #[Value.ref b] below meth c H lc (cells + 1) (slots + 6) Q (F0 m 1291 ls [])) : W p l e room_1 s m #[Value.ref b] below meth c H lc cells slots Q (F0 m 1191 ls []) := by
  obtain ⟨hA1, hA2⟩ := hlen.1
  have hZZ := hlen.2
  have rl : R 0 940 (τ 1 1) := rd (K := 1) hJ.1 rfl rfl
  have ri : R 0 3072 i := ⟨by omega, by omega⟩
  refine r_aload_n S dL_law_1191 rfl (lv_at hl 1 rfl) ?_
  refine r_aload_n S dL_law_1192 rfl (lv_at hl 0 rfl) ?_
  refine r_iload S dL_law_1193 (lv_at hl 4 rfl) ?_
  refine r_iconst S dL_law_1195 (by decide) (fun v1 z2 => ?_)
  refine r_iadd S dL_law_1196 (fun v3 z4 => ?_)
  obtain ⟨e5, r6⟩ := i_add (lo := 1) (hi := 3073) z4 ri (R_eq z2) rfl
  refine va_sld S.1.1 S.1.2.1 hX hbl hbA X.2 (vp_in_iff.mpr ⟨by omega, by omega⟩) dL_law_1197 ?_
  refine lv_topi (fun y7 z8 => ?_)
  refine r_ki (q_V (As := [.int y7]) (rest := []) (K := 0) (ci := 9) S X (c_X11_said l G τ hJ.1 y7 (R_any _) hJ.2.2.2.2.2.1 ) ckL_179 (Nat.le_of_ble_eq_true rfl) rfl (fun _ => ⟨_, rfl⟩) ⟨_, _, rfl⟩ ⟨Nat.le_of_ble_eq_true rfl, Nat.le_of_ble_eq_true rfl⟩ rfl hl.1 rfl (Nat.le_of_ble_eq_true rfl) dL_law_1198 ⟨by show _ ≤ 601024; omega, by show _ ≤ 7293034; omega⟩) X (fun r9 t10 H lc q11 X => ?_)
  obtain ⟨k14, k15, k16⟩ := k_X11_said q11
  obtain ⟨hJ, e13, n12⟩ := j_X11_said hJ q11
  have h17 := congrArg Int32.toInt e13
  have h18 := congrArg Int32.toInt n12
  refine r_pop S dL_law_1201 rfl ?_
  refine r_aload_n S dL_law_1202 rfl (lv_at hl 2 rfl) ?_
  refine r_aload_n S dL_law_1203 rfl (lv_at hl 0 rfl) ?_
  refine r_iload S dL_law_1204 (lv_at hl 4 rfl) ?_
  refine r_iconst S dL_law_1206 (by decide) (fun v19 z20 => ?_)
  refine r_iadd S dL_law_1207 (fun v21 z22 => ?_)
  obtain ⟨e23, r24⟩ := i_add (lo := 1) (hi := 3073) z22 ri (R_eq z20) rfl
  refine va_sld S.1.1 S.1.2.1 hX hbl hbA X.2 (vp_in_iff.mpr ⟨by omega, by omega⟩) dL_law_1208 ?_
  refine lv_topi (fun y25 z26 => ?_)
  have h27 : y7 = y25 := (show y25 = y7 by rw [z26, z8, show v21 = v3 from Int32.toInt_inj.mp (by omega)]).symm
  subst h27
  refine r_ki (q_V (As := [.int y7]) (rest := []) (K := 38) (ci := 10) S X (c_X12_said l G t10 hJ.1 y7 (R_any _)  hJ.2.2.2.2.2.2.2.2.2.1) ckL_182 (Nat.le_of_ble_eq_true rfl) rfl (fun _ => ⟨_, rfl⟩) ⟨_, _, rfl⟩ ⟨Nat.le_of_ble_eq_true rfl, Nat.le_of_ble_eq_true rfl⟩ rfl hl.1 rfl (Nat.le_of_ble_eq_true rfl) dL_law_1209 ⟨by show _ ≤ 601024; omega, by show _ ≤ 7293034; omega⟩) X (fun r28 t29 H lc q30 X => ?_)
  obtain ⟨k33, k34, k35⟩ := k_X12_said q30
  obtain ⟨hJ, e32, n31⟩ := j_X12_said hJ q30
  have h36 := congrArg Int32.toInt e32
  have h37 := congrArg Int32.toInt n31
  refine r_pop S dL_law_1212 rfl ?_
  refine r_goto (tgt := 1291) S dL_law_1213 (by decide) ?_
  refine w_widen (k := cells + 1) (n := slots + 6) (by omega) (by omega) ?_
  exact kk H lc ls t29 hJ ⟨⟨by omega, by omega⟩, ZZ_kp hZZ (zk_X11_said q11) (zk_X12_said q30) (by decide) (by omega)⟩ X (lv_sub hl [0, 1, 2, 3, 4] rfl)
set_option maxHeartbeats 8000000 in
set_option maxRecDepth 100000 in
theorem lc_image {p : Program} {l : Launch} {e : Env} {s : State} {m : MethodId} {below : List Frame} {meth : Method} {c : Code} {b L : Nat} {xs : Nat → Int32} {G : Gx} {Q : State → Prop} (hst : l.stackTraces = false) (S : Sx G p m c code 7 s #[Value.ref b] RL) (hZ : Zs G s) (hX : va_X b L xs s s.heap) (hbl : b < s.heap.size) (hbA : ¬ G.2.2.2.2 b) (hL : L ≤ 3072) {H : Heap} {lc : List Loc} {ls : Array Slot} {τ : Tau} {cells slots : Nat} {i : Int32} (hi : 0 ≤ i.toInt ∧ i.toInt + 6 ≤ L) (hR : cells + 1 ≤ 601024 ∧ slots + 6 ≤ 7293034) (hJ : JJ τ) (hlen : ((τ 1 1).toInt = (τ 131 2).toInt ∧ (τ 0 11).toInt = (τ 152 0).toInt + 2 * (τ 152 1).toInt) ∧ ZZ τ) (X : Xd G s H lc τ) (hl : lv_has ls 7 [(0, .ref b), (1, .ref (G.2.2.2.1 0)), (2, .ref (G.2.2.2.1 131)), (3, .ref (G.2.2.2.1 153)), (4, .int i)]) (kk : ∀ (H : Heap) (lc : List Loc) (ls : Array Slot) (τ : Tau), JJ τ → (((τ 1 1).toInt = (τ 131 2).toInt ∧ (τ 0 11).toInt = (τ 152 0).toInt + 2 * (τ 152 1).toInt) ∧ ZZ τ) → Xd G s H lc τ → lv_has ls 7 [(0, .ref b), (1, .ref (G.2.2.2.1 0)), (2, .ref (G.2.2.2.1 131)), (3, .ref (G.2.2.2.1 153)), (4, .int i)] → W p l e room_1 s m #[Value.ref b] below meth c H lc (cells + 1) (slots + 6) Q (F0 m 1291 ls [])) : W p l e room_1 s m #[Value.ref b] below meth c H lc cells slots Q (F0 m 1216 ls []) := by
  obtain ⟨hA1, hA2⟩ := hlen.1
  have hZZ := hlen.2
  have rl : R 0 940 (τ 1 1) := rd (K := 1) hJ.1 rfl rfl
  have ri : R 0 3072 i := ⟨by omega, by omega⟩
  have rk0 : R 0 1 (τ 152 0) := rd (K := 59) hJ.1 rfl rfl
  have rk1 : R 0 1 (τ 152 1) := rd (K := 59) hJ.1 rfl rfl
  refine r_aload_n S dL_law_1216 rfl (lv_at hl 1 rfl) ?_
  refine r_aload_n S dL_law_1217 rfl (lv_at hl 0 rfl) ?_
  refine r_iload S dL_law_1218 (lv_at hl 4 rfl) ?_
  refine r_iconst S dL_law_1220 (by decide) (fun v1 z2 => ?_)
  refine r_iadd S dL_law_1221 (fun v3 z4 => ?_)
  obtain ⟨e5, r6⟩ := i_add (lo := 1) (hi := 3073) z4 ri (R_eq z2) rfl
  refine va_sld S.1.1 S.1.2.1 hX hbl hbA X.2 (vp_in_iff.mpr ⟨by omega, by omega⟩) dL_law_1222 ?_
  refine lv_topi (fun y7 z8 => ?_)
  refine r_ki (q_V (As := [.int y7]) (rest := []) (K := 0) (ci := 9) S X (c_X11_image_n l G τ hJ.1 y7 (R_any _) hJ.2.1 hJ.2.2.2.1 hJ.2.2.2.2.2.1 hJ.2.2.2.2.2.2.2.1 hJ.2.2.2.2.2.2.2.2.1 ) ckL_183 (Nat.le_of_ble_eq_true rfl) rfl (fun _ => ⟨_, rfl⟩) ⟨_, _, rfl⟩ ⟨Nat.le_of_ble_eq_true rfl, Nat.le_of_ble_eq_true rfl⟩ rfl hl.1 rfl (Nat.le_of_ble_eq_true rfl) dL_law_1223 ⟨by show _ ≤ 601024; omega, by show _ ≤ 7293034; omega⟩) X (fun r9 t10 H lc q11 X => ?_)
  have hJX := hJ
  obtain ⟨hJ, e13, -⟩ := j_X11_image_n hJ q11
  have h14 := congrArg Int32.toInt e13
  refine r_pop S dL_law_1226 rfl ?_
  refine r_aload_n S dL_law_1227 rfl (lv_at hl 2 rfl) ?_
  refine r_aload_n S dL_law_1228 rfl (lv_at hl 0 rfl) ?_
  refine r_iload S dL_law_1229 (lv_at hl 4 rfl) ?_
  refine r_iconst S dL_law_1231 (by decide) (fun v15 z16 => ?_)
  refine r_iadd S dL_law_1232 (fun v17 z18 => ?_)
  obtain ⟨e19, r20⟩ := i_add (lo := 1) (hi := 3073) z18 ri (R_eq z16) rfl
  refine va_sld S.1.1 S.1.2.1 hX hbl hbA X.2 (vp_in_iff.mpr ⟨by omega, by omega⟩) dL_law_1233 ?_
  refine lv_topi (fun y21 z22 => ?_)
  have h23 : y7 = y21 := (show y21 = y7 by rw [z22, z8, show v17 = v3 from Int32.toInt_inj.mp (by omega)]).symm
  subst h23
  refine r_ki (q_V (As := [.int y7]) (rest := []) (K := 38) (ci := 10) S X (c_X12_image_n l G t10 hJ.1 y7 (R_any _)  hJ.2.2.2.2.2.2.2.2.2.1 hJ.2.2.2.2.2.2.2.2.2.2) ckL_186 (Nat.le_of_ble_eq_true rfl) rfl (fun _ => ⟨_, rfl⟩) ⟨_, _, rfl⟩ ⟨Nat.le_of_ble_eq_true rfl, Nat.le_of_ble_eq_true rfl⟩ rfl hl.1 rfl (Nat.le_of_ble_eq_true rfl) dL_law_1234 ⟨by show _ ≤ 601024; omega, by show _ ≤ 7293034; omega⟩) X (fun r24 t25 H lc q26 X => ?_)
  have hJM := hJ
  obtain ⟨hJ, e28, -⟩ := j_X12_image_n hJ q26
  have h29 := congrArg Int32.toInt e28
  have hEE := ee_image hJX hlen q11 q26
  refine r_pop S dL_law_1237 rfl ?_
  refine r_goto (tgt := 1291) S dL_law_1238 (by decide) ?_
  refine w_widen (k := cells + 1) (n := slots + 6) (by omega) (by omega) ?_
  exact kk H lc ls t25 hJ hEE X (lv_sub hl [0, 1, 2, 3, 4] rfl)
set_option maxHeartbeats 8000000 in
set_option maxRecDepth 100000 in
theorem lc_restore {p : Program} {l : Launch} {e : Env} {s : State} {m : MethodId} {below : List Frame} {meth : Method} {c : Code} {b L : Nat} {xs : Nat → Int32} {G : Gx} {Q : State → Prop} (hst : l.stackTraces = false) (S : Sx G p m c code 7 s #[Value.ref b] RL) (hZ : Zs G s) (hX : va_X b L xs s s.heap) (hbl : b < s.heap.size) (hbA : ¬ G.2.2.2.2 b) (hL : L ≤ 3072) {H : Heap} {lc : List Loc} {ls : Array Slot} {τ : Tau} {cells slots : Nat} {i : Int32} (hi : 0 ≤ i.toInt ∧ i.toInt + 6 ≤ L) (hR : cells + 1 ≤ 601024 ∧ slots + 6 ≤ 7293034) (hJ : JJ τ) (hlen : ((τ 1 1).toInt = (τ 131 2).toInt ∧ (τ 0 11).toInt = (τ 152 0).toInt + 2 * (τ 152 1).toInt) ∧ ZZ τ) (X : Xd G s H lc τ) (hl : lv_has ls 7 [(0, .ref b), (1, .ref (G.2.2.2.1 0)), (2, .ref (G.2.2.2.1 131)), (3, .ref (G.2.2.2.1 153)), (4, .int i)]) (kk : ∀ (H : Heap) (lc : List Loc) (ls : Array Slot) (τ : Tau), JJ τ → (((τ 1 1).toInt = (τ 131 2).toInt ∧ (τ 0 11).toInt = (τ 152 0).toInt + 2 * (τ 152 1).toInt) ∧ ZZ τ) → Xd G s H lc τ → lv_has ls 7 [(0, .ref b), (1, .ref (G.2.2.2.1 0)), (2, .ref (G.2.2.2.1 131)), (3, .ref (G.2.2.2.1 153)), (4, .int i)] → W p l e room_1 s m #[Value.ref b] below meth c H lc (cells + 1) (slots + 6) Q (F0 m 1291 ls [])) : W p l e room_1 s m #[Value.ref b] below meth c H lc cells slots Q (F0 m 1241 ls []) := by
  obtain ⟨hA1, hA2⟩ := hlen.1
  have hZZ := hlen.2
  have rl : R 0 940 (τ 1 1) := rd (K := 1) hJ.1 rfl rfl
  have ri : R 0 3072 i := ⟨by omega, by omega⟩
  have rk0 : R 0 1 (τ 152 0) := rd (K := 59) hJ.1 rfl rfl
  have rk1 : R 0 1 (τ 152 1) := rd (K := 59) hJ.1 rfl rfl
  refine r_aload_n S dL_law_1241 rfl (lv_at hl 1 rfl) ?_
  refine r_aload_n S dL_law_1242 rfl (lv_at hl 0 rfl) ?_
  refine r_iload S dL_law_1243 (lv_at hl 4 rfl) ?_
  refine r_iconst S dL_law_1245 (by decide) (fun v1 z2 => ?_)
  refine r_iadd S dL_law_1246 (fun v3 z4 => ?_)
  obtain ⟨e5, r6⟩ := i_add (lo := 1) (hi := 3073) z4 ri (R_eq z2) rfl
  refine va_sld S.1.1 S.1.2.1 hX hbl hbA X.2 (vp_in_iff.mpr ⟨by omega, by omega⟩) dL_law_1247 ?_
  refine lv_topi (fun y7 z8 => ?_)
  refine r_ki (q_V (As := [.int y7]) (rest := []) (K := 0) (ci := 9) S X (c_X11_restore_n l G τ hJ.1 y7 (R_any _) hJ.2.1 hJ.2.2.1 hJ.2.2.2.1 hJ.2.2.2.2.2.1 hJ.2.2.2.2.2.2.2.1 hJ.2.2.2.2.2.2.2.2.1 ) ckL_187 (Nat.le_of_ble_eq_true rfl) rfl (fun _ => ⟨_, rfl⟩) ⟨_, _, rfl⟩ ⟨Nat.le_of_ble_eq_true rfl, Nat.le_of_ble_eq_true rfl⟩ rfl hl.1 rfl (Nat.le_of_ble_eq_true rfl) dL_law_1248 ⟨by show _ ≤ 601024; omega, by show _ ≤ 7293034; omega⟩) X (fun r9 t10 H lc q11 X => ?_)
  have hJX := hJ
  obtain ⟨hJ, e13, -⟩ := j_X11_restore_n hJ q11
  have h14 := congrArg Int32.toInt e13
  refine r_pop S dL_law_1251 rfl ?_
  refine r_aload_n S dL_law_1252 rfl (lv_at hl 2 rfl) ?_
  refine r_aload_n S dL_law_1253 rfl (lv_at hl 0 rfl) ?_
  refine r_iload S dL_law_1254 (lv_at hl 4 rfl) ?_
  refine r_iconst S dL_law_1256 (by decide) (fun v15 z16 => ?_)
  refine r_iadd S dL_law_1257 (fun v17 z18 => ?_)
  obtain ⟨e19, r20⟩ := i_add (lo := 1) (hi := 3073) z18 ri (R_eq z16) rfl
  refine va_sld S.1.1 S.1.2.1 hX hbl hbA X.2 (vp_in_iff.mpr ⟨by omega, by omega⟩) dL_law_1258 ?_
  refine lv_topi (fun y21 z22 => ?_)
  have h23 : y7 = y21 := (show y21 = y7 by rw [z22, z8, show v17 = v3 from Int32.toInt_inj.mp (by omega)]).symm
  subst h23
  refine r_ki (q_V (As := [.int y7]) (rest := []) (K := 38) (ci := 10) S X (c_X12_restore_n l G t10 hJ.1 y7 (R_any _)  hJ.2.2.2.2.2.2.2.2.2.1 hJ.2.2.2.2.2.2.2.2.2.2) ckL_190 (Nat.le_of_ble_eq_true rfl) rfl (fun _ => ⟨_, rfl⟩) ⟨_, _, rfl⟩ ⟨Nat.le_of_ble_eq_true rfl, Nat.le_of_ble_eq_true rfl⟩ rfl hl.1 rfl (Nat.le_of_ble_eq_true rfl) dL_law_1259 ⟨by show _ ≤ 601024; omega, by show _ ≤ 7293034; omega⟩) X (fun r24 t25 H lc q26 X => ?_)
  have hJM := hJ
  obtain ⟨hJ, e28, -⟩ := j_X12_restore_n hJ q26
  have h29 := congrArg Int32.toInt e28
  have hEE := ee_restore hJX hlen q11 q26
  refine r_pop S dL_law_1262 rfl ?_
  refine r_goto (tgt := 1291) S dL_law_1263 (by decide) ?_
  refine w_widen (k := cells + 1) (n := slots + 6) (by omega) (by omega) ?_
  exact kk H lc ls t25 hJ hEE X (lv_sub hl [0, 1, 2, 3, 4] rfl)
set_option maxHeartbeats 8000000 in
set_option maxRecDepth 100000 in
theorem lc_count {p : Program} {l : Launch} {e : Env} {s : State} {m : MethodId} {below : List Frame} {meth : Method} {c : Code} {b L : Nat} {xs : Nat → Int32} {G : Gx} {Q : State → Prop} (hst : l.stackTraces = false) (S : Sx G p m c code 7 s #[Value.ref b] RL) (hZ : Zs G s) (hX : va_X b L xs s s.heap) (hbl : b < s.heap.size) (hbA : ¬ G.2.2.2.2 b) (hL : L ≤ 3072) {H : Heap} {lc : List Loc} {ls : Array Slot} {τ : Tau} {cells slots : Nat} {i : Int32} (hi : 0 ≤ i.toInt ∧ i.toInt + 6 ≤ L) (hR : cells + 1 ≤ 601024 ∧ slots + 6 ≤ 7293034) (hJ : JJ τ) (hlen : ((τ 1 1).toInt = (τ 131 2).toInt ∧ (τ 0 11).toInt = (τ 152 0).toInt + 2 * (τ 152 1).toInt) ∧ ZZ τ) (X : Xd G s H lc τ) (hl : lv_has ls 7 [(0, .ref b), (1, .ref (G.2.2.2.1 0)), (2, .ref (G.2.2.2.1 131)), (3, .ref (G.2.2.2.1 153)), (4, .int i)]) (kk : ∀ (H : Heap) (lc : List Loc) (ls : Array Slot) (τ : Tau), JJ τ → (((τ 1 1).toInt = (τ 131 2).toInt ∧ (τ 0 11).toInt = (τ 152 0).toInt + 2 * (τ 152 1).toInt) ∧ ZZ τ) → Xd G s H lc τ → lv_has ls 7 [(0, .ref b), (1, .ref (G.2.2.2.1 0)), (2, .ref (G.2.2.2.1 131)), (3, .ref (G.2.2.2.1 153)), (4, .int i)] → W p l e room_1 s m #[Value.ref b] below meth c H lc (cells + 1) (slots + 6) Q (F0 m 1291 ls [])) : W p l e room_1 s m #[Value.ref b] below meth c H lc cells slots Q (F0 m 1266 ls []) := by
  obtain ⟨hA1, hA2⟩ := hlen.1
  have hZZ := hlen.2
  have rl : R 0 940 (τ 1 1) := rd (K := 1) hJ.1 rfl rfl
  have ri : R 0 3072 i := ⟨by omega, by omega⟩
  refine r_aload_n S dL_law_1266 rfl (lv_at hl 1 rfl) ?_
  refine r_aload_n S dL_law_1267 rfl (lv_at hl 0 rfl) ?_
  refine r_iload S dL_law_1268 (lv_at hl 4 rfl) ?_
  refine r_iconst S dL_law_1270 (by decide) (fun v1 z2 => ?_)
  refine r_iadd S dL_law_1271 (fun v3 z4 => ?_)
  obtain ⟨e5, r6⟩ := i_add (lo := 1) (hi := 3073) z4 ri (R_eq z2) rfl
  refine va_sld S.1.1 S.1.2.1 hX hbl hbA X.2 (vp_in_iff.mpr ⟨by omega, by omega⟩) dL_law_1272 ?_
  refine lv_topi (fun y7 z8 => ?_)
  refine r_ki (q_V (As := [.int y7]) (rest := []) (K := 0) (ci := 9) S X (c_X11_count_q l G τ hJ.1 y7 (R_any _)  ) ckL_191 (Nat.le_of_ble_eq_true rfl) rfl (fun _ => ⟨_, rfl⟩) ⟨_, _, rfl⟩ ⟨Nat.le_of_ble_eq_true rfl, Nat.le_of_ble_eq_true rfl⟩ rfl hl.1 rfl (Nat.le_of_ble_eq_true rfl) dL_law_1273 ⟨by show _ ≤ 601024; omega, by show _ ≤ 7293034; omega⟩) X (fun r9 t10 H lc q11 X => ?_)
  obtain ⟨k14, k15, k16⟩ := k_X11_count_q q11
  obtain ⟨hJ, e13, n12⟩ := j_X11_count_q hJ q11
  have h17 := congrArg Int32.toInt e13
  have h18 := congrArg Int32.toInt n12
  refine r_pop S dL_law_1276 rfl ?_
  refine r_aload_n S dL_law_1277 rfl (lv_at hl 2 rfl) ?_
  refine r_aload_n S dL_law_1278 rfl (lv_at hl 0 rfl) ?_
  refine r_iload S dL_law_1279 (lv_at hl 4 rfl) ?_
  refine r_iconst S dL_law_1281 (by decide) (fun v19 z20 => ?_)
  refine r_iadd S dL_law_1282 (fun v21 z22 => ?_)
  obtain ⟨e23, r24⟩ := i_add (lo := 1) (hi := 3073) z22 ri (R_eq z20) rfl
  refine va_sld S.1.1 S.1.2.1 hX hbl hbA X.2 (vp_in_iff.mpr ⟨by omega, by omega⟩) dL_law_1283 ?_
  refine lv_topi (fun y25 z26 => ?_)
  have h27 : y7 = y25 := (show y25 = y7 by rw [z26, z8, show v21 = v3 from Int32.toInt_inj.mp (by omega)]).symm
  subst h27
  refine r_ki (q_V (As := [.int y7]) (rest := []) (K := 38) (ci := 10) S X (c_X12_count_q l G t10 hJ.1 y7 (R_any _)  ) ckL_194 (Nat.le_of_ble_eq_true rfl) rfl (fun _ => ⟨_, rfl⟩) ⟨_, _, rfl⟩ ⟨Nat.le_of_ble_eq_true rfl, Nat.le_of_ble_eq_true rfl⟩ rfl hl.1 rfl (Nat.le_of_ble_eq_true rfl) dL_law_1284 ⟨by show _ ≤ 601024; omega, by show _ ≤ 7293034; omega⟩) X (fun r28 t29 H lc q30 X => ?_)
  obtain ⟨k33, k34, k35⟩ := k_X12_count_q q30
  obtain ⟨hJ, e32, n31⟩ := j_X12_count_q hJ q30
  have h36 := congrArg Int32.toInt e32
  have h37 := congrArg Int32.toInt n31
  refine r_pop S dL_law_1287 rfl ?_
  refine r_goto (tgt := 1291) S dL_law_1288 (by decide) ?_
  refine w_widen (k := cells + 1) (n := slots + 6) (by omega) (by omega) ?_
  exact kk H lc ls t29 hJ ⟨⟨by omega, by omega⟩, ZZ_kp hZZ (zk_X11_count_q q11) (zk_X12_count_q q30) (by decide) (by omega)⟩ X (lv_sub hl [0, 1, 2, 3, 4] rfl)
