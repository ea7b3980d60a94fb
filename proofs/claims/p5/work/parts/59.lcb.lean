set_option maxHeartbeats 8000000 in
set_option maxRecDepth 100000 in
theorem lc_raise {p : Program} {l : Launch} {e : Env} {s : State} {m : MethodId} {below : List Frame} {meth : Method} {c : Code} {b L : Nat} {xs : Nat → Int32} {G : Gx} {Q : State → Prop} (hst : l.stackTraces = false) (S : Sx G p m c code 7 s #[Value.ref b] RL) (hZ : Zs G s) (hX : va_X b L xs s s.heap) (hbl : b < s.heap.size) (hbA : ¬ G.2.2.2.2 b) (hL : L ≤ 3072) {H : Heap} {lc : List Loc} {ls : Array Slot} {τ : Tau} {cells slots : Nat} {i : Int32} (hi : 0 ≤ i.toInt ∧ i.toInt + 6 ≤ L) (hR : cells + 1 ≤ 601024 ∧ slots + 6 ≤ 7293034) (hJ : JJ τ) (hlen : ((τ 1 1).toInt = (τ 131 2).toInt ∧ (τ 0 11).toInt = (τ 152 0).toInt + 2 * (τ 152 1).toInt) ∧ ZZ τ) (X : Xd G s H lc τ) (hl : lv_has ls 7 [(0, .ref b), (1, .ref (G.2.2.2.1 0)), (2, .ref (G.2.2.2.1 131)), (3, .ref (G.2.2.2.1 153)), (4, .int i)]) (kk : ∀ (H : Heap) (lc : List Loc) (ls : Array Slot) (τ : Tau), JJ τ → (((τ 1 1).toInt = (τ 131 2).toInt ∧ (τ 0 11).toInt = (τ 152 0).toInt + 2 * (τ 152 1).toInt) ∧ ZZ τ) → Xd G s H lc τ → lv_has ls 7 [(0, .ref b), (1, .ref (G.2.2.2.1 0)), (2, .ref (G.2.2.2.1 131)), (3, .ref (G.2.2.2.1 153)), (4, .int i)] → W p l e room_1 s m #[Value.ref b] below meth c H lc (cells + 1) (slots + 6) Q (F0 m 1291 ls [])) : W p l e room_1 s m #[Value.ref b] below meth c H lc cells slots Q (F0 m 535 ls []) := by
  obtain ⟨hA1, hA2⟩ := hlen.1
  have hZZ := hlen.2
  have rl : R 0 940 (τ 1 1) := rd (K := 1) hJ.1 rfl rfl
  have ri : R 0 3072 i := ⟨by omega, by omega⟩
  refine r_aload_n S dL_law_535 rfl (lv_at hl 1 rfl) ?_
  refine r_aload_n S dL_law_536 rfl (lv_at hl 0 rfl) ?_
  refine r_iload S dL_law_537 (lv_at hl 4 rfl) ?_
  refine r_iconst S dL_law_539 (by decide) (fun v1 z2 => ?_)
  refine r_iadd S dL_law_540 (fun v3 z4 => ?_)
  obtain ⟨e5, r6⟩ := i_add (lo := 1) (hi := 3073) z4 ri (R_eq z2) rfl
  refine va_sld S.1.1 S.1.2.1 hX hbl hbA X.2 (vp_in_iff.mpr ⟨by omega, by omega⟩) dL_law_541 ?_
  refine lv_topi (fun y7 z8 => ?_)
  refine r_ki (q_V (As := [.int y7]) (rest := []) (K := 0) (ci := 9) S X (c_X11_raise l G τ hJ.1 y7 (R_any _) hJ.2.1 hJ.2.2.1 ) ckL_75 (Nat.le_of_ble_eq_true rfl) rfl (fun _ => ⟨_, rfl⟩) ⟨_, _, rfl⟩ ⟨Nat.le_of_ble_eq_true rfl, Nat.le_of_ble_eq_true rfl⟩ rfl hl.1 rfl (Nat.le_of_ble_eq_true rfl) dL_law_542 ⟨by show _ ≤ 601024; omega, by show _ ≤ 7293034; omega⟩) X (fun r9 t10 H lc q11 X => ?_)
  obtain ⟨k14, k15, k16⟩ := k_X11_raise q11
  obtain ⟨hJ, e13, n12⟩ := j_X11_raise hJ q11
  have h17 := congrArg Int32.toInt e13
  have h18 := congrArg Int32.toInt n12
  refine r_pop S dL_law_545 rfl ?_
  refine r_aload_n S dL_law_546 rfl (lv_at hl 2 rfl) ?_
  refine r_aload_n S dL_law_547 rfl (lv_at hl 0 rfl) ?_
  refine r_iload S dL_law_548 (lv_at hl 4 rfl) ?_
  refine r_iconst S dL_law_550 (by decide) (fun v19 z20 => ?_)
  refine r_iadd S dL_law_551 (fun v21 z22 => ?_)
  obtain ⟨e23, r24⟩ := i_add (lo := 1) (hi := 3073) z22 ri (R_eq z20) rfl
  refine va_sld S.1.1 S.1.2.1 hX hbl hbA X.2 (vp_in_iff.mpr ⟨by omega, by omega⟩) dL_law_552 ?_
  refine lv_topi (fun y25 z26 => ?_)
  have h27 : y7 = y25 := (show y25 = y7 by rw [z26, z8, show v21 = v3 from Int32.toInt_inj.mp (by omega)]).symm
  subst h27
  refine r_ki (q_V (As := [.int y7]) (rest := []) (K := 38) (ci := 10) S X (c_X12_raise_x l G t10 hJ.1 y7 (R_any _)  ) ckL_78 (Nat.le_of_ble_eq_true rfl) rfl (fun _ => ⟨_, rfl⟩) ⟨_, _, rfl⟩ ⟨Nat.le_of_ble_eq_true rfl, Nat.le_of_ble_eq_true rfl⟩ rfl hl.1 rfl (Nat.le_of_ble_eq_true rfl) dL_law_553 ⟨by show _ ≤ 601024; omega, by show _ ≤ 7293034; omega⟩) X (fun r28 t29 H lc q30 X => ?_)
  obtain ⟨k33, k34, k35⟩ := k_X12_raise_x q30
  obtain ⟨hJ, e32, n31⟩ := j_X12_raise_x hJ q30
  have h36 := congrArg Int32.toInt e32
  have h37 := congrArg Int32.toInt n31
  refine r_pop S dL_law_556 rfl ?_
  refine r_goto (tgt := 1291) S dL_law_557 (by decide) ?_
  refine w_widen (k := cells + 1) (n := slots + 6) (by omega) (by omega) ?_
  exact kk H lc ls t29 hJ ⟨⟨by omega, by omega⟩, ZZ_kp hZZ (zk_X11_raise q11) (zk_X12_raise_x q30) (by decide) (by omega)⟩ X (lv_sub hl [0, 1, 2, 3, 4] rfl)
set_option maxHeartbeats 8000000 in
set_option maxRecDepth 100000 in
theorem lc_hire {p : Program} {l : Launch} {e : Env} {s : State} {m : MethodId} {below : List Frame} {meth : Method} {c : Code} {b L : Nat} {xs : Nat → Int32} {G : Gx} {Q : State → Prop} (hst : l.stackTraces = false) (S : Sx G p m c code 7 s #[Value.ref b] RL) (hZ : Zs G s) (hX : va_X b L xs s s.heap) (hbl : b < s.heap.size) (hbA : ¬ G.2.2.2.2 b) (hL : L ≤ 3072) {H : Heap} {lc : List Loc} {ls : Array Slot} {τ : Tau} {cells slots : Nat} {i : Int32} (hi : 0 ≤ i.toInt ∧ i.toInt + 6 ≤ L) (hR : cells + 1 ≤ 601024 ∧ slots + 6 ≤ 7293034) (hJ : JJ τ) (hlen : ((τ 1 1).toInt = (τ 131 2).toInt ∧ (τ 0 11).toInt = (τ 152 0).toInt + 2 * (τ 152 1).toInt) ∧ ZZ τ) (X : Xd G s H lc τ) (hl : lv_has ls 7 [(0, .ref b), (1, .ref (G.2.2.2.1 0)), (2, .ref (G.2.2.2.1 131)), (3, .ref (G.2.2.2.1 153)), (4, .int i)]) (kk : ∀ (H : Heap) (lc : List Loc) (ls : Array Slot) (τ : Tau), JJ τ → (((τ 1 1).toInt = (τ 131 2).toInt ∧ (τ 0 11).toInt = (τ 152 0).toInt + 2 * (τ 152 1).toInt) ∧ ZZ τ) → Xd G s H lc τ → lv_has ls 7 [(0, .ref b), (1, .ref (G.2.2.2.1 0)), (2, .ref (G.2.2.2.1 131)), (3, .ref (G.2.2.2.1 153)), (4, .int i)] → W p l e room_1 s m #[Value.ref b] below meth c H lc (cells + 1) (slots + 6) Q (F0 m 1291 ls [])) : W p l e room_1 s m #[Value.ref b] below meth c H lc cells slots Q (F0 m 560 ls []) := by
  obtain ⟨hA1, hA2⟩ := hlen.1
  have hZZ := hlen.2
  have rl : R 0 940 (τ 1 1) := rd (K := 1) hJ.1 rfl rfl
  have ri : R 0 3072 i := ⟨by omega, by omega⟩
  refine r_aload_n S dL_law_560 rfl (lv_at hl 1 rfl) ?_
  refine r_aload_n S dL_law_561 rfl (lv_at hl 0 rfl) ?_
  refine r_iload S dL_law_562 (lv_at hl 4 rfl) ?_
  refine r_iconst S dL_law_564 (by decide) (fun v1 z2 => ?_)
  refine r_iadd S dL_law_565 (fun v3 z4 => ?_)
  obtain ⟨e5, r6⟩ := i_add (lo := 1) (hi := 3073) z4 ri (R_eq z2) rfl
  refine va_sld S.1.1 S.1.2.1 hX hbl hbA X.2 (vp_in_iff.mpr ⟨by omega, by omega⟩) dL_law_566 ?_
  refine lv_topi (fun y7 z8 => ?_)
  refine r_ki (q_V (As := [.int y7]) (rest := []) (K := 0) (ci := 9) S X (c_X11_hire l G τ hJ.1 y7 (R_any _) hJ.2.1 hJ.2.2.1 ) ckL_79 (Nat.le_of_ble_eq_true rfl) rfl (fun _ => ⟨_, rfl⟩) ⟨_, _, rfl⟩ ⟨Nat.le_of_ble_eq_true rfl, Nat.le_of_ble_eq_true rfl⟩ rfl hl.1 rfl (Nat.le_of_ble_eq_true rfl) dL_law_567 ⟨by show _ ≤ 601024; omega, by show _ ≤ 7293034; omega⟩) X (fun r9 t10 H lc q11 X => ?_)
  obtain ⟨k14, k15, k16⟩ := k_X11_hire q11
  obtain ⟨hJ, e13, n12⟩ := j_X11_hire hJ q11
  have h17 := congrArg Int32.toInt e13
  have h18 := congrArg Int32.toInt n12
  refine r_pop S dL_law_570 rfl ?_
  refine r_aload_n S dL_law_571 rfl (lv_at hl 2 rfl) ?_
  refine r_aload_n S dL_law_572 rfl (lv_at hl 0 rfl) ?_
  refine r_iload S dL_law_573 (lv_at hl 4 rfl) ?_
  refine r_iconst S dL_law_575 (by decide) (fun v19 z20 => ?_)
  refine r_iadd S dL_law_576 (fun v21 z22 => ?_)
  obtain ⟨e23, r24⟩ := i_add (lo := 1) (hi := 3073) z22 ri (R_eq z20) rfl
  refine va_sld S.1.1 S.1.2.1 hX hbl hbA X.2 (vp_in_iff.mpr ⟨by omega, by omega⟩) dL_law_577 ?_
  refine lv_topi (fun y25 z26 => ?_)
  have h27 : y7 = y25 := (show y25 = y7 by rw [z26, z8, show v21 = v3 from Int32.toInt_inj.mp (by omega)]).symm
  subst h27
  refine r_ki (q_V (As := [.int y7]) (rest := []) (K := 38) (ci := 10) S X (c_X12_hire_x l G t10 hJ.1 y7 (R_any _)  ) ckL_82 (Nat.le_of_ble_eq_true rfl) rfl (fun _ => ⟨_, rfl⟩) ⟨_, _, rfl⟩ ⟨Nat.le_of_ble_eq_true rfl, Nat.le_of_ble_eq_true rfl⟩ rfl hl.1 rfl (Nat.le_of_ble_eq_true rfl) dL_law_578 ⟨by show _ ≤ 601024; omega, by show _ ≤ 7293034; omega⟩) X (fun r28 t29 H lc q30 X => ?_)
  obtain ⟨k33, k34, k35⟩ := k_X12_hire_x q30
  obtain ⟨hJ, e32, n31⟩ := j_X12_hire_x hJ q30
  have h36 := congrArg Int32.toInt e32
  have h37 := congrArg Int32.toInt n31
  refine r_pop S dL_law_581 rfl ?_
  refine r_goto (tgt := 1291) S dL_law_582 (by decide) ?_
  refine w_widen (k := cells + 1) (n := slots + 6) (by omega) (by omega) ?_
  exact kk H lc ls t29 hJ ⟨⟨by omega, by omega⟩, ZZ_kp hZZ (zk_X11_hire q11) (zk_X12_hire_x q30) (by decide) (by omega)⟩ X (lv_sub hl [0, 1, 2, 3, 4] rfl)
set_option maxHeartbeats 8000000 in
set_option maxRecDepth 100000 in
theorem lc_lie {p : Program} {l : Launch} {e : Env} {s : State} {m : MethodId} {below : List Frame} {meth : Method} {c : Code} {b L : Nat} {xs : Nat → Int32} {G : Gx} {Q : State → Prop} (hst : l.stackTraces = false) (S : Sx G p m c code 7 s #[Value.ref b] RL) (hZ : Zs G s) (hX : va_X b L xs s s.heap) (hbl : b < s.heap.size) (hbA : ¬ G.2.2.2.2 b) (hL : L ≤ 3072) {H : Heap} {lc : List Loc} {ls : Array Slot} {τ : Tau} {cells slots : Nat} {i : Int32} (hi : 0 ≤ i.toInt ∧ i.toInt + 6 ≤ L) (hR : cells + 1 ≤ 601024 ∧ slots + 6 ≤ 7293034) (hJ : JJ τ) (hlen : ((τ 1 1).toInt = (τ 131 2).toInt ∧ (τ 0 11).toInt = (τ 152 0).toInt + 2 * (τ 152 1).toInt) ∧ ZZ τ) (X : Xd G s H lc τ) (hl : lv_has ls 7 [(0, .ref b), (1, .ref (G.2.2.2.1 0)), (2, .ref (G.2.2.2.1 131)), (3, .ref (G.2.2.2.1 153)), (4, .int i)]) (kk : ∀ (H : Heap) (lc : List Loc) (ls : Array Slot) (τ : Tau), JJ τ → (((τ 1 1).toInt = (τ 131 2).toInt ∧ (τ 0 11).toInt = (τ 152 0).toInt + 2 * (τ 152 1).toInt) ∧ ZZ τ) → Xd G s H lc τ → lv_has ls 7 [(0, .ref b), (1, .ref (G.2.2.2.1 0)), (2, .ref (G.2.2.2.1 131)), (3, .ref (G.2.2.2.1 153)), (4, .int i)] → W p l e room_1 s m #[Value.ref b] below meth c H lc (cells + 1) (slots + 6) Q (F0 m 1291 ls [])) : W p l e room_1 s m #[Value.ref b] below meth c H lc cells slots Q (F0 m 585 ls []) := by
  obtain ⟨hA1, hA2⟩ := hlen.1
  have hZZ := hlen.2
  have rl : R 0 940 (τ 1 1) := rd (K := 1) hJ.1 rfl rfl
  have ri : R 0 3072 i := ⟨by omega, by omega⟩
  refine r_aload_n S dL_law_585 rfl (lv_at hl 1 rfl) ?_
  refine r_aload_n S dL_law_586 rfl (lv_at hl 0 rfl) ?_
  refine r_iload S dL_law_587 (lv_at hl 4 rfl) ?_
  refine r_iconst S dL_law_589 (by decide) (fun v1 z2 => ?_)
  refine r_iadd S dL_law_590 (fun v3 z4 => ?_)
  obtain ⟨e5, r6⟩ := i_add (lo := 1) (hi := 3073) z4 ri (R_eq z2) rfl
  refine va_sld S.1.1 S.1.2.1 hX hbl hbA X.2 (vp_in_iff.mpr ⟨by omega, by omega⟩) dL_law_591 ?_
  refine lv_topi (fun y7 z8 => ?_)
  refine r_aload_n S dL_law_592 rfl (lv_at hl 0 rfl) ?_
  refine r_iload S dL_law_593 (lv_at hl 4 rfl) ?_
  refine r_iconst S dL_law_595 (by decide) (fun v9 z10 => ?_)
  refine r_iadd S dL_law_596 (fun v11 z12 => ?_)
  obtain ⟨e13, r14⟩ := i_add (lo := 2) (hi := 3074) z12 ri (R_eq z10) rfl
  refine va_sld S.1.1 S.1.2.1 hX hbl hbA X.2 (vp_in_iff.mpr ⟨by omega, by omega⟩) dL_law_597 ?_
  refine lv_topi (fun y15 z16 => ?_)
  refine r_aload_n S dL_law_598 rfl (lv_at hl 0 rfl) ?_
  refine r_iload S dL_law_599 (lv_at hl 4 rfl) ?_
  refine r_iconst S dL_law_601 (by decide) (fun v17 z18 => ?_)
  refine r_iadd S dL_law_602 (fun v19 z20 => ?_)
  obtain ⟨e21, r22⟩ := i_add (lo := 3) (hi := 3075) z20 ri (R_eq z18) rfl
  refine va_sld S.1.1 S.1.2.1 hX hbl hbA X.2 (vp_in_iff.mpr ⟨by omega, by omega⟩) dL_law_603 ?_
  refine lv_topi (fun y23 z24 => ?_)
  refine r_ki (q_V (As := [.int y7, .int y15, .int y23]) (rest := []) (K := 0) (ci := 9) S X (c_X11_lie l G τ hJ.1 y7 y15 y23 (R_any _) (R_any _) (R_any _) hJ.2.1 hJ.2.2.1 ) ckL_83 (Nat.le_of_ble_eq_true rfl) rfl (fun _ => ⟨_, rfl⟩) ⟨_, _, rfl⟩ ⟨Nat.le_of_ble_eq_true rfl, Nat.le_of_ble_eq_true rfl⟩ rfl hl.1 rfl (Nat.le_of_ble_eq_true rfl) dL_law_604 ⟨by show _ ≤ 601024; omega, by show _ ≤ 7293034; omega⟩) X (fun r25 t26 H lc q27 X => ?_)
  obtain ⟨k30, k31, k32⟩ := k_X11_lie q27
  obtain ⟨hJ, e29, n28⟩ := j_X11_lie hJ q27
  have h33 := congrArg Int32.toInt e29
  have h34 := congrArg Int32.toInt n28
  refine r_pop S dL_law_607 rfl ?_
  refine r_aload_n S dL_law_608 rfl (lv_at hl 2 rfl) ?_
  refine r_aload_n S dL_law_609 rfl (lv_at hl 0 rfl) ?_
  refine r_iload S dL_law_610 (lv_at hl 4 rfl) ?_
  refine r_iconst S dL_law_612 (by decide) (fun v35 z36 => ?_)
  refine r_iadd S dL_law_613 (fun v37 z38 => ?_)
  obtain ⟨e39, r40⟩ := i_add (lo := 1) (hi := 3073) z38 ri (R_eq z36) rfl
  refine va_sld S.1.1 S.1.2.1 hX hbl hbA X.2 (vp_in_iff.mpr ⟨by omega, by omega⟩) dL_law_614 ?_
  refine lv_topi (fun y41 z42 => ?_)
  have h43 : y7 = y41 := (show y41 = y7 by rw [z42, z8, show v37 = v3 from Int32.toInt_inj.mp (by omega)]).symm
  subst h43
  refine r_aload_n S dL_law_615 rfl (lv_at hl 0 rfl) ?_
  refine r_iload S dL_law_616 (lv_at hl 4 rfl) ?_
  refine r_iconst S dL_law_618 (by decide) (fun v44 z45 => ?_)
  refine r_iadd S dL_law_619 (fun v46 z47 => ?_)
  obtain ⟨e48, r49⟩ := i_add (lo := 2) (hi := 3074) z47 ri (R_eq z45) rfl
  refine va_sld S.1.1 S.1.2.1 hX hbl hbA X.2 (vp_in_iff.mpr ⟨by omega, by omega⟩) dL_law_620 ?_
  refine lv_topi (fun y50 z51 => ?_)
  have h52 : y15 = y50 := (show y50 = y15 by rw [z51, z16, show v46 = v11 from Int32.toInt_inj.mp (by omega)]).symm
  subst h52
  refine r_aload_n S dL_law_621 rfl (lv_at hl 0 rfl) ?_
  refine r_iload S dL_law_622 (lv_at hl 4 rfl) ?_
  refine r_iconst S dL_law_624 (by decide) (fun v53 z54 => ?_)
  refine r_iadd S dL_law_625 (fun v55 z56 => ?_)
  obtain ⟨e57, r58⟩ := i_add (lo := 3) (hi := 3075) z56 ri (R_eq z54) rfl
  refine va_sld S.1.1 S.1.2.1 hX hbl hbA X.2 (vp_in_iff.mpr ⟨by omega, by omega⟩) dL_law_626 ?_
  refine lv_topi (fun y59 z60 => ?_)
  have h61 : y23 = y59 := (show y59 = y23 by rw [z60, z24, show v55 = v19 from Int32.toInt_inj.mp (by omega)]).symm
  subst h61
  refine r_ki (q_V (As := [.int y7, .int y15, .int y23]) (rest := []) (K := 38) (ci := 10) S X (c_X12_lie_x l G t26 hJ.1 y7 y15 y23 (R_any _) (R_any _) (R_any _)  ) ckL_87 (Nat.le_of_ble_eq_true rfl) rfl (fun _ => ⟨_, rfl⟩) ⟨_, _, rfl⟩ ⟨Nat.le_of_ble_eq_true rfl, Nat.le_of_ble_eq_true rfl⟩ rfl hl.1 rfl (Nat.le_of_ble_eq_true rfl) dL_law_627 ⟨by show _ ≤ 601024; omega, by show _ ≤ 7293034; omega⟩) X (fun r62 t63 H lc q64 X => ?_)
  obtain ⟨k67, k68, k69⟩ := k_X12_lie_x q64
  obtain ⟨hJ, e66, n65⟩ := j_X12_lie_x hJ q64
  have h70 := congrArg Int32.toInt e66
  have h71 := congrArg Int32.toInt n65
  refine r_pop S dL_law_630 rfl ?_
  refine r_goto (tgt := 1291) S dL_law_631 (by decide) ?_
  refine w_widen (k := cells + 1) (n := slots + 6) (by omega) (by omega) ?_
  exact kk H lc ls t63 hJ ⟨⟨by omega, by omega⟩, ZZ_kp hZZ (zk_X11_lie q27) (zk_X12_lie_x q64) (by decide) (by omega)⟩ X (lv_sub hl [0, 1, 2, 3, 4] rfl)
set_option maxHeartbeats 8000000 in
set_option maxRecDepth 100000 in
theorem lc_turn {p : Program} {l : Launch} {e : Env} {s : State} {m : MethodId} {below : List Frame} {meth : Method} {c : Code} {b L : Nat} {xs : Nat → Int32} {G : Gx} {Q : State → Prop} (hst : l.stackTraces = false) (S : Sx G p m c code 7 s #[Value.ref b] RL) (hZ : Zs G s) (hX : va_X b L xs s s.heap) (hbl : b < s.heap.size) (hbA : ¬ G.2.2.2.2 b) (hL : L ≤ 3072) {H : Heap} {lc : List Loc} {ls : Array Slot} {τ : Tau} {cells slots : Nat} {i : Int32} (hi : 0 ≤ i.toInt ∧ i.toInt + 6 ≤ L) (hR : cells + 1 ≤ 601024 ∧ slots + 6 ≤ 7293034) (hJ : JJ τ) (hlen : ((τ 1 1).toInt = (τ 131 2).toInt ∧ (τ 0 11).toInt = (τ 152 0).toInt + 2 * (τ 152 1).toInt) ∧ ZZ τ) (X : Xd G s H lc τ) (hl : lv_has ls 7 [(0, .ref b), (1, .ref (G.2.2.2.1 0)), (2, .ref (G.2.2.2.1 131)), (3, .ref (G.2.2.2.1 153)), (4, .int i)]) (kk : ∀ (H : Heap) (lc : List Loc) (ls : Array Slot) (τ : Tau), JJ τ → (((τ 1 1).toInt = (τ 131 2).toInt ∧ (τ 0 11).toInt = (τ 152 0).toInt + 2 * (τ 152 1).toInt) ∧ ZZ τ) → Xd G s H lc τ → lv_has ls 7 [(0, .ref b), (1, .ref (G.2.2.2.1 0)), (2, .ref (G.2.2.2.1 131)), (3, .ref (G.2.2.2.1 153)), (4, .int i)] → W p l e room_1 s m #[Value.ref b] below meth c H lc (cells + 1) (slots + 6) Q (F0 m 1291 ls [])) : W p l e room_1 s m #[Value.ref b] below meth c H lc cells slots Q (F0 m 634 ls []) := by
  obtain ⟨hA1, hA2⟩ := hlen.1
  have hZZ := hlen.2
  have rl : R 0 940 (τ 1 1) := rd (K := 1) hJ.1 rfl rfl
  have ri : R 0 3072 i := ⟨by omega, by omega⟩
  refine r_aload_n S dL_law_634 rfl (lv_at hl 1 rfl) ?_
  refine r_aload_n S dL_law_635 rfl (lv_at hl 0 rfl) ?_
  refine r_iload S dL_law_636 (lv_at hl 4 rfl) ?_
  refine r_iconst S dL_law_638 (by decide) (fun v1 z2 => ?_)
  refine r_iadd S dL_law_639 (fun v3 z4 => ?_)
  obtain ⟨e5, r6⟩ := i_add (lo := 1) (hi := 3073) z4 ri (R_eq z2) rfl
  refine va_sld S.1.1 S.1.2.1 hX hbl hbA X.2 (vp_in_iff.mpr ⟨by omega, by omega⟩) dL_law_640 ?_
  refine lv_topi (fun y7 z8 => ?_)
  refine r_aload_n S dL_law_641 rfl (lv_at hl 0 rfl) ?_
  refine r_iload S dL_law_642 (lv_at hl 4 rfl) ?_
  refine r_iconst S dL_law_644 (by decide) (fun v9 z10 => ?_)
  refine r_iadd S dL_law_645 (fun v11 z12 => ?_)
  obtain ⟨e13, r14⟩ := i_add (lo := 2) (hi := 3074) z12 ri (R_eq z10) rfl
  refine va_sld S.1.1 S.1.2.1 hX hbl hbA X.2 (vp_in_iff.mpr ⟨by omega, by omega⟩) dL_law_646 ?_
  refine lv_topi (fun y15 z16 => ?_)
  refine r_aload_n S dL_law_647 rfl (lv_at hl 0 rfl) ?_
  refine r_iload S dL_law_648 (lv_at hl 4 rfl) ?_
  refine r_iconst S dL_law_650 (by decide) (fun v17 z18 => ?_)
  refine r_iadd S dL_law_651 (fun v19 z20 => ?_)
  obtain ⟨e21, r22⟩ := i_add (lo := 3) (hi := 3075) z20 ri (R_eq z18) rfl
  refine va_sld S.1.1 S.1.2.1 hX hbl hbA X.2 (vp_in_iff.mpr ⟨by omega, by omega⟩) dL_law_652 ?_
  refine lv_topi (fun y23 z24 => ?_)
  refine r_ki (q_V (As := [.int y7, .int y15, .int y23]) (rest := []) (K := 0) (ci := 9) S X (c_X11_turn l G τ hJ.1 y7 y15 y23 (R_any _) (R_any _) (R_any _) hJ.2.1 hJ.2.2.1 ) ckL_88 (Nat.le_of_ble_eq_true rfl) rfl (fun _ => ⟨_, rfl⟩) ⟨_, _, rfl⟩ ⟨Nat.le_of_ble_eq_true rfl, Nat.le_of_ble_eq_true rfl⟩ rfl hl.1 rfl (Nat.le_of_ble_eq_true rfl) dL_law_653 ⟨by show _ ≤ 601024; omega, by show _ ≤ 7293034; omega⟩) X (fun r25 t26 H lc q27 X => ?_)
  obtain ⟨k30, k31, k32⟩ := k_X11_turn q27
  obtain ⟨hJ, e29, n28⟩ := j_X11_turn hJ q27
  have h33 := congrArg Int32.toInt e29
  have h34 := congrArg Int32.toInt n28
  refine r_pop S dL_law_656 rfl ?_
  refine r_aload_n S dL_law_657 rfl (lv_at hl 2 rfl) ?_
  refine r_aload_n S dL_law_658 rfl (lv_at hl 0 rfl) ?_
  refine r_iload S dL_law_659 (lv_at hl 4 rfl) ?_
  refine r_iconst S dL_law_661 (by decide) (fun v35 z36 => ?_)
  refine r_iadd S dL_law_662 (fun v37 z38 => ?_)
  obtain ⟨e39, r40⟩ := i_add (lo := 1) (hi := 3073) z38 ri (R_eq z36) rfl
  refine va_sld S.1.1 S.1.2.1 hX hbl hbA X.2 (vp_in_iff.mpr ⟨by omega, by omega⟩) dL_law_663 ?_
  refine lv_topi (fun y41 z42 => ?_)
  have h43 : y7 = y41 := (show y41 = y7 by rw [z42, z8, show v37 = v3 from Int32.toInt_inj.mp (by omega)]).symm
  subst h43
  refine r_aload_n S dL_law_664 rfl (lv_at hl 0 rfl) ?_
  refine r_iload S dL_law_665 (lv_at hl 4 rfl) ?_
  refine r_iconst S dL_law_667 (by decide) (fun v44 z45 => ?_)
  refine r_iadd S dL_law_668 (fun v46 z47 => ?_)
  obtain ⟨e48, r49⟩ := i_add (lo := 2) (hi := 3074) z47 ri (R_eq z45) rfl
  refine va_sld S.1.1 S.1.2.1 hX hbl hbA X.2 (vp_in_iff.mpr ⟨by omega, by omega⟩) dL_law_669 ?_
  refine lv_topi (fun y50 z51 => ?_)
  have h52 : y15 = y50 := (show y50 = y15 by rw [z51, z16, show v46 = v11 from Int32.toInt_inj.mp (by omega)]).symm
  subst h52
  refine r_aload_n S dL_law_670 rfl (lv_at hl 0 rfl) ?_
  refine r_iload S dL_law_671 (lv_at hl 4 rfl) ?_
  refine r_iconst S dL_law_673 (by decide) (fun v53 z54 => ?_)
  refine r_iadd S dL_law_674 (fun v55 z56 => ?_)
  obtain ⟨e57, r58⟩ := i_add (lo := 3) (hi := 3075) z56 ri (R_eq z54) rfl
  refine va_sld S.1.1 S.1.2.1 hX hbl hbA X.2 (vp_in_iff.mpr ⟨by omega, by omega⟩) dL_law_675 ?_
  refine lv_topi (fun y59 z60 => ?_)
  have h61 : y23 = y59 := (show y59 = y23 by rw [z60, z24, show v55 = v19 from Int32.toInt_inj.mp (by omega)]).symm
  subst h61
  refine r_ki (q_V (As := [.int y7, .int y15, .int y23]) (rest := []) (K := 38) (ci := 10) S X (c_X12_turn_x l G t26 hJ.1 y7 y15 y23 (R_any _) (R_any _) (R_any _)  ) ckL_91 (Nat.le_of_ble_eq_true rfl) rfl (fun _ => ⟨_, rfl⟩) ⟨_, _, rfl⟩ ⟨Nat.le_of_ble_eq_true rfl, Nat.le_of_ble_eq_true rfl⟩ rfl hl.1 rfl (Nat.le_of_ble_eq_true rfl) dL_law_676 ⟨by show _ ≤ 601024; omega, by show _ ≤ 7293034; omega⟩) X (fun r62 t63 H lc q64 X => ?_)
  obtain ⟨k67, k68, k69⟩ := k_X12_turn_x q64
  obtain ⟨hJ, e66, n65⟩ := j_X12_turn_x hJ q64
  have h70 := congrArg Int32.toInt e66
  have h71 := congrArg Int32.toInt n65
  refine r_pop S dL_law_679 rfl ?_
  refine r_goto (tgt := 1291) S dL_law_680 (by decide) ?_
  refine w_widen (k := cells + 1) (n := slots + 6) (by omega) (by omega) ?_
  exact kk H lc ls t63 hJ ⟨⟨by omega, by omega⟩, ZZ_kp hZZ (zk_X11_turn q27) (zk_X12_turn_x q64) (by decide) (by omega)⟩ X (lv_sub hl [0, 1, 2, 3, 4] rfl)
set_option maxHeartbeats 8000000 in
set_option maxRecDepth 100000 in
theorem lc_undo {p : Program} {l : Launch} {e : Env} {s : State} {m : MethodId} {below : List Frame} {meth : Method} {c : Code} {b L : Nat} {xs : Nat → Int32} {G : Gx} {Q : State → Prop} (hst : l.stackTraces = false) (S : Sx G p m c code 7 s #[Value.ref b] RL) (hZ : Zs G s) (hX : va_X b L xs s s.heap) (hbl : b < s.heap.size) (hbA : ¬ G.2.2.2.2 b) (hL : L ≤ 3072) {H : Heap} {lc : List Loc} {ls : Array Slot} {τ : Tau} {cells slots : Nat} {i : Int32} (hi : 0 ≤ i.toInt ∧ i.toInt + 6 ≤ L) (hR : cells + 1 ≤ 601024 ∧ slots + 6 ≤ 7293034) (hJ : JJ τ) (hlen : ((τ 1 1).toInt = (τ 131 2).toInt ∧ (τ 0 11).toInt = (τ 152 0).toInt + 2 * (τ 152 1).toInt) ∧ ZZ τ) (X : Xd G s H lc τ) (hl : lv_has ls 7 [(0, .ref b), (1, .ref (G.2.2.2.1 0)), (2, .ref (G.2.2.2.1 131)), (3, .ref (G.2.2.2.1 153)), (4, .int i)]) (kk : ∀ (H : Heap) (lc : List Loc) (ls : Array Slot) (τ : Tau), JJ τ → (((τ 1 1).toInt = (τ 131 2).toInt ∧ (τ 0 11).toInt = (τ 152 0).toInt + 2 * (τ 152 1).toInt) ∧ ZZ τ) → Xd G s H lc τ → lv_has ls 7 [(0, .ref b), (1, .ref (G.2.2.2.1 0)), (2, .ref (G.2.2.2.1 131)), (3, .ref (G.2.2.2.1 153)), (4, .int i)] → W p l e room_1 s m #[Value.ref b] below meth c H lc (cells + 1) (slots + 6) Q (F0 m 1291 ls [])) : W p l e room_1 s m #[Value.ref b] below meth c H lc cells slots Q (F0 m 683 ls []) := by
  obtain ⟨hA1, hA2⟩ := hlen.1
  have hZZ := hlen.2
  have rl : R 0 940 (τ 1 1) := rd (K := 1) hJ.1 rfl rfl
  have ri : R 0 3072 i := ⟨by omega, by omega⟩
  refine r_aload_n S dL_law_683 rfl (lv_at hl 1 rfl) ?_
  refine r_ki (q_V (As := []) (rest := []) (K := 0) (ci := 9) S X (c_X11_undo l G τ hJ.1   hJ.2.1 hJ.2.2.1 ) ckL_92 (Nat.le_of_ble_eq_true rfl) rfl (fun _ => ⟨_, rfl⟩) ⟨_, _, rfl⟩ ⟨Nat.le_of_ble_eq_true rfl, Nat.le_of_ble_eq_true rfl⟩ rfl hl.1 rfl (Nat.le_of_ble_eq_true rfl) dL_law_684 ⟨by show _ ≤ 601024; omega, by show _ ≤ 7293034; omega⟩) X (fun r1 t2 H lc q3 X => ?_)
  obtain ⟨k6, k7, k8⟩ := k_X11_undo q3
  obtain ⟨hJ, e5, n4⟩ := j_X11_undo hJ q3
  have h9 := congrArg Int32.toInt e5
  have h10 := congrArg Int32.toInt n4
  refine r_pop S dL_law_687 rfl ?_
  refine r_aload_n S dL_law_688 rfl (lv_at hl 2 rfl) ?_
  refine r_ki (q_V (As := []) (rest := []) (K := 38) (ci := 10) S X (c_X12_undo_x l G t2 hJ.1    ) ckL_95 (Nat.le_of_ble_eq_true rfl) rfl (fun _ => ⟨_, rfl⟩) ⟨_, _, rfl⟩ ⟨Nat.le_of_ble_eq_true rfl, Nat.le_of_ble_eq_true rfl⟩ rfl hl.1 rfl (Nat.le_of_ble_eq_true rfl) dL_law_689 ⟨by show _ ≤ 601024; omega, by show _ ≤ 7293034; omega⟩) X (fun r11 t12 H lc q13 X => ?_)
  obtain ⟨k16, k17, k18⟩ := k_X12_undo_x q13
  obtain ⟨hJ, e15, n14⟩ := j_X12_undo_x hJ q13
  have h19 := congrArg Int32.toInt e15
  have h20 := congrArg Int32.toInt n14
  refine r_pop S dL_law_692 rfl ?_
  refine r_goto (tgt := 1291) S dL_law_693 (by decide) ?_
  refine w_widen (k := cells + 1) (n := slots + 6) (by omega) (by omega) ?_
  exact kk H lc ls t12 hJ ⟨⟨by omega, by omega⟩, ZZ_kp hZZ (zk_X11_undo q3) (zk_X12_undo_x q13) (by decide) (by omega)⟩ X (lv_sub hl [0, 1, 2, 3, 4] rfl)
set_option maxHeartbeats 8000000 in
set_option maxRecDepth 100000 in
theorem lc_sum {p : Program} {l : Launch} {e : Env} {s : State} {m : MethodId} {below : List Frame} {meth : Method} {c : Code} {b L : Nat} {xs : Nat → Int32} {G : Gx} {Q : State → Prop} (hst : l.stackTraces = false) (S : Sx G p m c code 7 s #[Value.ref b] RL) (hZ : Zs G s) (hX : va_X b L xs s s.heap) (hbl : b < s.heap.size) (hbA : ¬ G.2.2.2.2 b) (hL : L ≤ 3072) {H : Heap} {lc : List Loc} {ls : Array Slot} {τ : Tau} {cells slots : Nat} {i : Int32} (hi : 0 ≤ i.toInt ∧ i.toInt + 6 ≤ L) (hR : cells + 1 ≤ 601024 ∧ slots + 6 ≤ 7293034) (hJ : JJ τ) (hlen : ((τ 1 1).toInt = (τ 131 2).toInt ∧ (τ 0 11).toInt = (τ 152 0).toInt + 2 * (τ 152 1).toInt) ∧ ZZ τ) (X : Xd G s H lc τ) (hl : lv_has ls 7 [(0, .ref b), (1, .ref (G.2.2.2.1 0)), (2, .ref (G.2.2.2.1 131)), (3, .ref (G.2.2.2.1 153)), (4, .int i)]) (kk : ∀ (H : Heap) (lc : List Loc) (ls : Array Slot) (τ : Tau), JJ τ → (((τ 1 1).toInt = (τ 131 2).toInt ∧ (τ 0 11).toInt = (τ 152 0).toInt + 2 * (τ 152 1).toInt) ∧ ZZ τ) → Xd G s H lc τ → lv_has ls 7 [(0, .ref b), (1, .ref (G.2.2.2.1 0)), (2, .ref (G.2.2.2.1 131)), (3, .ref (G.2.2.2.1 153)), (4, .int i)] → W p l e room_1 s m #[Value.ref b] below meth c H lc (cells + 1) (slots + 6) Q (F0 m 1291 ls [])) : W p l e room_1 s m #[Value.ref b] below meth c H lc cells slots Q (F0 m 696 ls []) := by
  obtain ⟨hA1, hA2⟩ := hlen.1
  have hZZ := hlen.2
  have rl : R 0 940 (τ 1 1) := rd (K := 1) hJ.1 rfl rfl
  have ri : R 0 3072 i := ⟨by omega, by omega⟩
  refine r_aload_n S dL_law_696 rfl (lv_at hl 1 rfl) ?_
  refine r_aload_n S dL_law_697 rfl (lv_at hl 0 rfl) ?_
  refine r_iload S dL_law_698 (lv_at hl 4 rfl) ?_
  refine r_iconst S dL_law_700 (by decide) (fun v1 z2 => ?_)
  refine r_iadd S dL_law_701 (fun v3 z4 => ?_)
  obtain ⟨e5, r6⟩ := i_add (lo := 1) (hi := 3073) z4 ri (R_eq z2) rfl
  refine va_sld S.1.1 S.1.2.1 hX hbl hbA X.2 (vp_in_iff.mpr ⟨by omega, by omega⟩) dL_law_702 ?_
  refine lv_topi (fun y7 z8 => ?_)
  refine r_aload_n S dL_law_703 rfl (lv_at hl 3 rfl) ?_
  refine r_kl (q_SW (As := [.ref (G.2.2.2.1 0), .int y7, .ref (G.2.2.2.1 153)]) (rest := []) S hZ X (c_L_sum l hst G τ hJ.1 y7 hJ.2.1) ckW_96 ⟨Nat.le_of_ble_eq_true rfl, Nat.le_of_ble_eq_true rfl⟩ rfl hl.1 rfl (Nat.le_of_ble_eq_true rfl) dL_law_704 ⟨by show _ ≤ 601024; omega, by show _ ≤ 7293034; omega⟩) X (fun r9 t10 H lc q11 X => ?_)
  obtain ⟨k12, k13, k14⟩ := k_thr q11
  obtain ⟨hJ, e15, e16⟩ := j_thr hJ q11
  have h17 := congrArg Int32.toInt e15
  have h18 := congrArg Int32.toInt e16
  refine r_istore (lv' := [(5, .int r9), (0, .ref b), (1, .ref (G.2.2.2.1 0)), (2, .ref (G.2.2.2.1 131)), (3, .ref (G.2.2.2.1 153)), (4, .int i)]) S dL_law_707 hl (by decide) rfl (fun ls hl => ?_)
  refine r_aload_n S dL_law_709 rfl (lv_at hl 3 rfl) ?_
  refine r_aload_n S dL_law_710 rfl (lv_at hl 1 rfl) ?_
  refine r_iload S dL_law_711 (lv_at hl 5 rfl) ?_
  refine r_iconst S dL_law_713 (by decide) (fun v19 z20 => ?_)
  refine r_iadd S dL_law_714 (fun v21 z22 => ?_)
  obtain ⟨e23, r24⟩ := i_add (lo := 1) (hi := 3073) z22 ri (R_eq z20) rfl
  refine va_sld S.1.1 S.1.2.1 hX hbl hbA X.2 (vp_in_iff.mpr ⟨by omega, by omega⟩) dL_law_715 ?_
  refine lv_topi (fun y25 z26 => ?_)
  have h27 : y7 = y25 := (show y25 = y7 by rw [z26, z8, show v21 = v3 from Int32.toInt_inj.mp (by omega)]).symm
  subst h27
  refine r_ki (q_V (As := [.int y7]) (rest := []) (K := 38) (ci := 10) S X (c_X12_sum l G t10 hJ.1 y7 (R_any _)  ) ckL_99 (Nat.le_of_ble_eq_true rfl) rfl (fun _ => ⟨_, rfl⟩) ⟨_, _, rfl⟩ ⟨Nat.le_of_ble_eq_true rfl, Nat.le_of_ble_eq_true rfl⟩ rfl hl.1 rfl (Nat.le_of_ble_eq_true rfl) dL_law_716 ⟨by show _ ≤ 601024; omega, by show _ ≤ 7293034; omega⟩) X (fun r28 t29 H lc q30 X => ?_)
  obtain ⟨k33, k34, k35⟩ := k_X12_sum q30
  obtain ⟨hJ, e32, n31⟩ := j_X12_sum hJ q30
  have h36 := congrArg Int32.toInt e32
  have h37 := congrArg Int32.toInt n31
  refine r_istore (lv' := [(6, .int r28), (5, .int r9), (0, .ref b), (1, .ref (G.2.2.2.1 0)), (2, .ref (G.2.2.2.1 131)), (3, .ref (G.2.2.2.1 153)), (4, .int i)]) S dL_law_719 hl (by decide) rfl (fun ls hl => ?_)
  refine r_goto (tgt := 1291) S dL_law_721 (by decide) ?_
  exact kk H lc ls t29 hJ ⟨⟨by omega, by omega⟩, ZZ_kp hZZ (zk_thr q11) (zk_X12_sum q30) (by decide) (by omega)⟩ X (lv_sub hl [2, 3, 4, 5, 6] rfl)
set_option maxHeartbeats 8000000 in
set_option maxRecDepth 100000 in
theorem lc_crews {p : Program} {l : Launch} {e : Env} {s : State} {m : MethodId} {below : List Frame} {meth : Method} {c : Code} {b L : Nat} {xs : Nat → Int32} {G : Gx} {Q : State → Prop} (hst : l.stackTraces = false) (S : Sx G p m c code 7 s #[Value.ref b] RL) (hZ : Zs G s) (hX : va_X b L xs s s.heap) (hbl : b < s.heap.size) (hbA : ¬ G.2.2.2.2 b) (hL : L ≤ 3072) {H : Heap} {lc : List Loc} {ls : Array Slot} {τ : Tau} {cells slots : Nat} {i : Int32} (hi : 0 ≤ i.toInt ∧ i.toInt + 6 ≤ L) (hR : cells + 1 ≤ 601024 ∧ slots + 6 ≤ 7293034) (hJ : JJ τ) (hlen : ((τ 1 1).toInt = (τ 131 2).toInt ∧ (τ 0 11).toInt = (τ 152 0).toInt + 2 * (τ 152 1).toInt) ∧ ZZ τ) (X : Xd G s H lc τ) (hl : lv_has ls 7 [(0, .ref b), (1, .ref (G.2.2.2.1 0)), (2, .ref (G.2.2.2.1 131)), (3, .ref (G.2.2.2.1 153)), (4, .int i)]) (kk : ∀ (H : Heap) (lc : List Loc) (ls : Array Slot) (τ : Tau), JJ τ → (((τ 1 1).toInt = (τ 131 2).toInt ∧ (τ 0 11).toInt = (τ 152 0).toInt + 2 * (τ 152 1).toInt) ∧ ZZ τ) → Xd G s H lc τ → lv_has ls 7 [(0, .ref b), (1, .ref (G.2.2.2.1 0)), (2, .ref (G.2.2.2.1 131)), (3, .ref (G.2.2.2.1 153)), (4, .int i)] → W p l e room_1 s m #[Value.ref b] below meth c H lc (cells + 1) (slots + 6) Q (F0 m 1291 ls [])) : W p l e room_1 s m #[Value.ref b] below meth c H lc cells slots Q (F0 m 724 ls []) := by
  obtain ⟨hA1, hA2⟩ := hlen.1
  have hZZ := hlen.2
  have rl : R 0 940 (τ 1 1) := rd (K := 1) hJ.1 rfl rfl
  have ri : R 0 3072 i := ⟨by omega, by omega⟩
  refine r_aload_n S dL_law_724 rfl (lv_at hl 1 rfl) ?_
  refine r_aload_n S dL_law_725 rfl (lv_at hl 0 rfl) ?_
  refine r_iload S dL_law_726 (lv_at hl 4 rfl) ?_
  refine r_iconst S dL_law_728 (by decide) (fun v1 z2 => ?_)
  refine r_iadd S dL_law_729 (fun v3 z4 => ?_)
  obtain ⟨e5, r6⟩ := i_add (lo := 1) (hi := 3073) z4 ri (R_eq z2) rfl
  refine va_sld S.1.1 S.1.2.1 hX hbl hbA X.2 (vp_in_iff.mpr ⟨by omega, by omega⟩) dL_law_730 ?_
  refine lv_topi (fun y7 z8 => ?_)
  refine r_ki (q_V (As := [.int y7]) (rest := []) (K := 0) (ci := 9) S X (c_X11_crews l G τ hJ.1 y7 (R_any _) hJ.2.1 ) ckL_100 (Nat.le_of_ble_eq_true rfl) rfl (fun _ => ⟨_, rfl⟩) ⟨_, _, rfl⟩ ⟨Nat.le_of_ble_eq_true rfl, Nat.le_of_ble_eq_true rfl⟩ rfl hl.1 rfl (Nat.le_of_ble_eq_true rfl) dL_law_731 ⟨by show _ ≤ 601024; omega, by show _ ≤ 7293034; omega⟩) X (fun r9 t10 H lc q11 X => ?_)
  obtain ⟨k14, k15, k16⟩ := k_X11_crews q11
  obtain ⟨hJ, e13, n12⟩ := j_X11_crews hJ q11
  have h17 := congrArg Int32.toInt e13
  have h18 := congrArg Int32.toInt n12
  refine r_pop S dL_law_734 rfl ?_
  refine r_aload_n S dL_law_735 rfl (lv_at hl 2 rfl) ?_
  refine r_aload_n S dL_law_736 rfl (lv_at hl 0 rfl) ?_
  refine r_iload S dL_law_737 (lv_at hl 4 rfl) ?_
  refine r_iconst S dL_law_739 (by decide) (fun v19 z20 => ?_)
  refine r_iadd S dL_law_740 (fun v21 z22 => ?_)
  obtain ⟨e23, r24⟩ := i_add (lo := 1) (hi := 3073) z22 ri (R_eq z20) rfl
  refine va_sld S.1.1 S.1.2.1 hX hbl hbA X.2 (vp_in_iff.mpr ⟨by omega, by omega⟩) dL_law_741 ?_
  refine lv_topi (fun y25 z26 => ?_)
  have h27 : y7 = y25 := (show y25 = y7 by rw [z26, z8, show v21 = v3 from Int32.toInt_inj.mp (by omega)]).symm
  subst h27
  refine r_ki (q_V (As := [.int y7]) (rest := []) (K := 38) (ci := 10) S X (c_X12_crews l G t10 hJ.1 y7 (R_any _)  ) ckL_103 (Nat.le_of_ble_eq_true rfl) rfl (fun _ => ⟨_, rfl⟩) ⟨_, _, rfl⟩ ⟨Nat.le_of_ble_eq_true rfl, Nat.le_of_ble_eq_true rfl⟩ rfl hl.1 rfl (Nat.le_of_ble_eq_true rfl) dL_law_742 ⟨by show _ ≤ 601024; omega, by show _ ≤ 7293034; omega⟩) X (fun r28 t29 H lc q30 X => ?_)
  obtain ⟨k33, k34, k35⟩ := k_X12_crews q30
  obtain ⟨hJ, e32, n31⟩ := j_X12_crews hJ q30
  have h36 := congrArg Int32.toInt e32
  have h37 := congrArg Int32.toInt n31
  refine r_pop S dL_law_745 rfl ?_
  refine r_goto (tgt := 1291) S dL_law_746 (by decide) ?_
  refine w_widen (k := cells + 1) (n := slots + 6) (by omega) (by omega) ?_
  exact kk H lc ls t29 hJ ⟨⟨by omega, by omega⟩, ZZ_kp hZZ (zk_X11_crews q11) (zk_X12_crews q30) (by decide) (by omega)⟩ X (lv_sub hl [0, 1, 2, 3, 4] rfl)
set_option maxHeartbeats 8000000 in
set_option maxRecDepth 100000 in
theorem lc_largest {p : Program} {l : Launch} {e : Env} {s : State} {m : MethodId} {below : List Frame} {meth : Method} {c : Code} {b L : Nat} {xs : Nat → Int32} {G : Gx} {Q : State → Prop} (hst : l.stackTraces = false) (S : Sx G p m c code 7 s #[Value.ref b] RL) (hZ : Zs G s) (hX : va_X b L xs s s.heap) (hbl : b < s.heap.size) (hbA : ¬ G.2.2.2.2 b) (hL : L ≤ 3072) {H : Heap} {lc : List Loc} {ls : Array Slot} {τ : Tau} {cells slots : Nat} {i : Int32} (hi : 0 ≤ i.toInt ∧ i.toInt + 6 ≤ L) (hR : cells + 1 ≤ 601024 ∧ slots + 6 ≤ 7293034) (hJ : JJ τ) (hlen : ((τ 1 1).toInt = (τ 131 2).toInt ∧ (τ 0 11).toInt = (τ 152 0).toInt + 2 * (τ 152 1).toInt) ∧ ZZ τ) (X : Xd G s H lc τ) (hl : lv_has ls 7 [(0, .ref b), (1, .ref (G.2.2.2.1 0)), (2, .ref (G.2.2.2.1 131)), (3, .ref (G.2.2.2.1 153)), (4, .int i)]) (kk : ∀ (H : Heap) (lc : List Loc) (ls : Array Slot) (τ : Tau), JJ τ → (((τ 1 1).toInt = (τ 131 2).toInt ∧ (τ 0 11).toInt = (τ 152 0).toInt + 2 * (τ 152 1).toInt) ∧ ZZ τ) → Xd G s H lc τ → lv_has ls 7 [(0, .ref b), (1, .ref (G.2.2.2.1 0)), (2, .ref (G.2.2.2.1 131)), (3, .ref (G.2.2.2.1 153)), (4, .int i)] → W p l e room_1 s m #[Value.ref b] below meth c H lc (cells + 1) (slots + 6) Q (F0 m 1291 ls [])) : W p l e room_1 s m #[Value.ref b] below meth c H lc cells slots Q (F0 m 749 ls []) := by
  obtain ⟨hA1, hA2⟩ := hlen.1
  have hZZ := hlen.2
  have rl : R 0 940 (τ 1 1) := rd (K := 1) hJ.1 rfl rfl
  have ri : R 0 3072 i := ⟨by omega, by omega⟩
  refine r_aload_n S dL_law_749 rfl (lv_at hl 1 rfl) ?_
  refine r_ki (q_V (As := []) (rest := []) (K := 0) (ci := 9) S X (c_X11_largest l G τ hJ.1   hJ.2.1 ) ckL_104 (Nat.le_of_ble_eq_true rfl) rfl (fun _ => ⟨_, rfl⟩) ⟨_, _, rfl⟩ ⟨Nat.le_of_ble_eq_true rfl, Nat.le_of_ble_eq_true rfl⟩ rfl hl.1 rfl (Nat.le_of_ble_eq_true rfl) dL_law_750 ⟨by show _ ≤ 601024; omega, by show _ ≤ 7293034; omega⟩) X (fun r1 t2 H lc q3 X => ?_)
  obtain ⟨k6, k7, k8⟩ := k_X11_largest q3
  obtain ⟨hJ, e5, n4⟩ := j_X11_largest hJ q3
  have h9 := congrArg Int32.toInt e5
  have h10 := congrArg Int32.toInt n4
  refine r_pop S dL_law_753 rfl ?_
  refine r_aload_n S dL_law_754 rfl (lv_at hl 2 rfl) ?_
  refine r_ki (q_V (As := []) (rest := []) (K := 38) (ci := 10) S X (c_X12_largest l G t2 hJ.1    ) ckL_107 (Nat.le_of_ble_eq_true rfl) rfl (fun _ => ⟨_, rfl⟩) ⟨_, _, rfl⟩ ⟨Nat.le_of_ble_eq_true rfl, Nat.le_of_ble_eq_true rfl⟩ rfl hl.1 rfl (Nat.le_of_ble_eq_true rfl) dL_law_755 ⟨by show _ ≤ 601024; omega, by show _ ≤ 7293034; omega⟩) X (fun r11 t12 H lc q13 X => ?_)
  obtain ⟨k16, k17, k18⟩ := k_X12_largest q13
  obtain ⟨hJ, e15, n14⟩ := j_X12_largest hJ q13
  have h19 := congrArg Int32.toInt e15
  have h20 := congrArg Int32.toInt n14
  refine r_pop S dL_law_758 rfl ?_
  refine r_goto (tgt := 1291) S dL_law_759 (by decide) ?_
  refine w_widen (k := cells + 1) (n := slots + 6) (by omega) (by omega) ?_
  exact kk H lc ls t12 hJ ⟨⟨by omega, by omega⟩, ZZ_kp hZZ (zk_X11_largest q3) (zk_X12_largest q13) (by decide) (by omega)⟩ X (lv_sub hl [0, 1, 2, 3, 4] rfl)
set_option maxHeartbeats 8000000 in
set_option maxRecDepth 100000 in
theorem lc_stuck {p : Program} {l : Launch} {e : Env} {s : State} {m : MethodId} {below : List Frame} {meth : Method} {c : Code} {b L : Nat} {xs : Nat → Int32} {G : Gx} {Q : State → Prop} (hst : l.stackTraces = false) (S : Sx G p m c code 7 s #[Value.ref b] RL) (hZ : Zs G s) (hX : va_X b L xs s s.heap) (hbl : b < s.heap.size) (hbA : ¬ G.2.2.2.2 b) (hL : L ≤ 3072) {H : Heap} {lc : List Loc} {ls : Array Slot} {τ : Tau} {cells slots : Nat} {i : Int32} (hi : 0 ≤ i.toInt ∧ i.toInt + 6 ≤ L) (hR : cells + 1 ≤ 601024 ∧ slots + 6 ≤ 7293034) (hJ : JJ τ) (hlen : ((τ 1 1).toInt = (τ 131 2).toInt ∧ (τ 0 11).toInt = (τ 152 0).toInt + 2 * (τ 152 1).toInt) ∧ ZZ τ) (X : Xd G s H lc τ) (hl : lv_has ls 7 [(0, .ref b), (1, .ref (G.2.2.2.1 0)), (2, .ref (G.2.2.2.1 131)), (3, .ref (G.2.2.2.1 153)), (4, .int i)]) (kk : ∀ (H : Heap) (lc : List Loc) (ls : Array Slot) (τ : Tau), JJ τ → (((τ 1 1).toInt = (τ 131 2).toInt ∧ (τ 0 11).toInt = (τ 152 0).toInt + 2 * (τ 152 1).toInt) ∧ ZZ τ) → Xd G s H lc τ → lv_has ls 7 [(0, .ref b), (1, .ref (G.2.2.2.1 0)), (2, .ref (G.2.2.2.1 131)), (3, .ref (G.2.2.2.1 153)), (4, .int i)] → W p l e room_1 s m #[Value.ref b] below meth c H lc (cells + 1) (slots + 6) Q (F0 m 1291 ls [])) : W p l e room_1 s m #[Value.ref b] below meth c H lc cells slots Q (F0 m 762 ls []) := by
  obtain ⟨hA1, hA2⟩ := hlen.1
  have hZZ := hlen.2
  have rl : R 0 940 (τ 1 1) := rd (K := 1) hJ.1 rfl rfl
  have ri : R 0 3072 i := ⟨by omega, by omega⟩
  refine r_aload_n S dL_law_762 rfl (lv_at hl 1 rfl) ?_
  refine r_ki (q_V (As := []) (rest := []) (K := 0) (ci := 9) S X (c_X11_stuck l G τ hJ.1   hJ.2.1 ) ckL_108 (Nat.le_of_ble_eq_true rfl) rfl (fun _ => ⟨_, rfl⟩) ⟨_, _, rfl⟩ ⟨Nat.le_of_ble_eq_true rfl, Nat.le_of_ble_eq_true rfl⟩ rfl hl.1 rfl (Nat.le_of_ble_eq_true rfl) dL_law_763 ⟨by show _ ≤ 601024; omega, by show _ ≤ 7293034; omega⟩) X (fun r1 t2 H lc q3 X => ?_)
  obtain ⟨k6, k7, k8⟩ := k_X11_stuck q3
  obtain ⟨hJ, e5, n4⟩ := j_X11_stuck hJ q3
  have h9 := congrArg Int32.toInt e5
  have h10 := congrArg Int32.toInt n4
  refine r_pop S dL_law_766 rfl ?_
  refine r_aload_n S dL_law_767 rfl (lv_at hl 2 rfl) ?_
  refine r_ki (q_V (As := []) (rest := []) (K := 38) (ci := 10) S X (c_X12_stuck l G t2 hJ.1    ) ckL_111 (Nat.le_of_ble_eq_true rfl) rfl (fun _ => ⟨_, rfl⟩) ⟨_, _, rfl⟩ ⟨Nat.le_of_ble_eq_true rfl, Nat.le_of_ble_eq_true rfl⟩ rfl hl.1 rfl (Nat.le_of_ble_eq_true rfl) dL_law_768 ⟨by show _ ≤ 601024; omega, by show _ ≤ 7293034; omega⟩) X (fun r11 t12 H lc q13 X => ?_)
  obtain ⟨k16, k17, k18⟩ := k_X12_stuck q13
  obtain ⟨hJ, e15, n14⟩ := j_X12_stuck hJ q13
  have h19 := congrArg Int32.toInt e15
  have h20 := congrArg Int32.toInt n14
  refine r_pop S dL_law_771 rfl ?_
  refine r_goto (tgt := 1291) S dL_law_772 (by decide) ?_
  refine w_widen (k := cells + 1) (n := slots + 6) (by omega) (by omega) ?_
  exact kk H lc ls t12 hJ ⟨⟨by omega, by omega⟩, ZZ_kp hZZ (zk_X11_stuck q3) (zk_X12_stuck q13) (by decide) (by omega)⟩ X (lv_sub hl [0, 1, 2, 3, 4] rfl)
set_option maxHeartbeats 8000000 in
set_option maxRecDepth 100000 in
theorem lc_trips {p : Program} {l : Launch} {e : Env} {s : State} {m : MethodId} {below : List Frame} {meth : Method} {c : Code} {b L : Nat} {xs : Nat → Int32} {G : Gx} {Q : State → Prop} (hst : l.stackTraces = false) (S : Sx G p m c code 7 s #[Value.ref b] RL) (hZ : Zs G s) (hX : va_X b L xs s s.heap) (hbl : b < s.heap.size) (hbA : ¬ G.2.2.2.2 b) (hL : L ≤ 3072) {H : Heap} {lc : List Loc} {ls : Array Slot} {τ : Tau} {cells slots : Nat} {i : Int32} (hi : 0 ≤ i.toInt ∧ i.toInt + 6 ≤ L) (hR : cells + 1 ≤ 601024 ∧ slots + 6 ≤ 7293034) (hJ : JJ τ) (hlen : ((τ 1 1).toInt = (τ 131 2).toInt ∧ (τ 0 11).toInt = (τ 152 0).toInt + 2 * (τ 152 1).toInt) ∧ ZZ τ) (X : Xd G s H lc τ) (hl : lv_has ls 7 [(0, .ref b), (1, .ref (G.2.2.2.1 0)), (2, .ref (G.2.2.2.1 131)), (3, .ref (G.2.2.2.1 153)), (4, .int i)]) (kk : ∀ (H : Heap) (lc : List Loc) (ls : Array Slot) (τ : Tau), JJ τ → (((τ 1 1).toInt = (τ 131 2).toInt ∧ (τ 0 11).toInt = (τ 152 0).toInt + 2 * (τ 152 1).toInt) ∧ ZZ τ) → Xd G s H lc τ → lv_has ls 7 [(0, .ref b), (1, .ref (G.2.2.2.1 0)), (2, .ref (G.2.2.2.1 131)), (3, .ref (G.2.2.2.1 153)), (4, .int i)] → W p l e room_1 s m #[Value.ref b] below meth c H lc (cells + 1) (slots + 6) Q (F0 m 1291 ls [])) : W p l e room_1 s m #[Value.ref b] below meth c H lc cells slots Q (F0 m 775 ls []) := by
  obtain ⟨hA1, hA2⟩ := hlen.1
  have hZZ := hlen.2
  have rl : R 0 940 (τ 1 1) := rd (K := 1) hJ.1 rfl rfl
  have ri : R 0 3072 i := ⟨by omega, by omega⟩
  refine r_aload_n S dL_law_775 rfl (lv_at hl 1 rfl) ?_
  refine r_aload_n S dL_law_776 rfl (lv_at hl 0 rfl) ?_
  refine r_iload S dL_law_777 (lv_at hl 4 rfl) ?_
  refine r_iconst S dL_law_779 (by decide) (fun v1 z2 => ?_)
  refine r_iadd S dL_law_780 (fun v3 z4 => ?_)
  obtain ⟨e5, r6⟩ := i_add (lo := 1) (hi := 3073) z4 ri (R_eq z2) rfl
  refine va_sld S.1.1 S.1.2.1 hX hbl hbA X.2 (vp_in_iff.mpr ⟨by omega, by omega⟩) dL_law_781 ?_
  refine lv_topi (fun y7 z8 => ?_)
  refine r_ki (q_V (As := [.int y7]) (rest := []) (K := 0) (ci := 9) S X (c_X11_trips l G τ hJ.1 y7 (R_any _)  ) ckL_112 (Nat.le_of_ble_eq_true rfl) rfl (fun _ => ⟨_, rfl⟩) ⟨_, _, rfl⟩ ⟨Nat.le_of_ble_eq_true rfl, Nat.le_of_ble_eq_true rfl⟩ rfl hl.1 rfl (Nat.le_of_ble_eq_true rfl) dL_law_782 ⟨by show _ ≤ 601024; omega, by show _ ≤ 7293034; omega⟩) X (fun r9 t10 H lc q11 X => ?_)
  obtain ⟨k14, k15, k16⟩ := k_X11_trips q11
  obtain ⟨hJ, e13, n12⟩ := j_X11_trips hJ q11
  have h17 := congrArg Int32.toInt e13
  have h18 := congrArg Int32.toInt n12
  refine r_pop S dL_law_785 rfl ?_
  refine r_aload_n S dL_law_786 rfl (lv_at hl 2 rfl) ?_
  refine r_aload_n S dL_law_787 rfl (lv_at hl 0 rfl) ?_
  refine r_iload S dL_law_788 (lv_at hl 4 rfl) ?_
  refine r_iconst S dL_law_790 (by decide) (fun v19 z20 => ?_)
  refine r_iadd S dL_law_791 (fun v21 z22 => ?_)
  obtain ⟨e23, r24⟩ := i_add (lo := 1) (hi := 3073) z22 ri (R_eq z20) rfl
  refine va_sld S.1.1 S.1.2.1 hX hbl hbA X.2 (vp_in_iff.mpr ⟨by omega, by omega⟩) dL_law_792 ?_
  refine lv_topi (fun y25 z26 => ?_)
  have h27 : y7 = y25 := (show y25 = y7 by rw [z26, z8, show v21 = v3 from Int32.toInt_inj.mp (by omega)]).symm
  subst h27
  refine r_ki (q_V (As := [.int y7]) (rest := []) (K := 38) (ci := 10) S X (c_X12_trips l G t10 hJ.1 y7 (R_any _)  ) ckL_115 (Nat.le_of_ble_eq_true rfl) rfl (fun _ => ⟨_, rfl⟩) ⟨_, _, rfl⟩ ⟨Nat.le_of_ble_eq_true rfl, Nat.le_of_ble_eq_true rfl⟩ rfl hl.1 rfl (Nat.le_of_ble_eq_true rfl) dL_law_793 ⟨by show _ ≤ 601024; omega, by show _ ≤ 7293034; omega⟩) X (fun r28 t29 H lc q30 X => ?_)
  obtain ⟨k33, k34, k35⟩ := k_X12_trips q30
  obtain ⟨hJ, e32, n31⟩ := j_X12_trips hJ q30
  have h36 := congrArg Int32.toInt e32
  have h37 := congrArg Int32.toInt n31
  refine r_pop S dL_law_796 rfl ?_
  refine r_goto (tgt := 1291) S dL_law_797 (by decide) ?_
  refine w_widen (k := cells + 1) (n := slots + 6) (by omega) (by omega) ?_
  exact kk H lc ls t29 hJ ⟨⟨by omega, by omega⟩, ZZ_kp hZZ (zk_X11_trips q11) (zk_X12_trips q30) (by decide) (by omega)⟩ X (lv_sub hl [0, 1, 2, 3, 4] rfl)
