set_option maxHeartbeats 8000000 in
set_option maxRecDepth 100000 in
theorem lc_next {p : Program} {l : Launch} {e : Env} {s : State} {m : MethodId} {below : List Frame} {meth : Method} {c : Code} {b L : Nat} {xs : Nat → Int32} {G : Gx} {Q : State → Prop} (hst : l.stackTraces = false) (S : Sx G p m c code 7 s #[Value.ref b] RL) (hZ : Zs G s) (hX : va_X b L xs s s.heap) (hbl : b < s.heap.size) (hbA : ¬ G.2.2.2.2 b) (hL : L ≤ 3072) {H : Heap} {lc : List Loc} {ls : Array Slot} {τ : Tau} {cells slots : Nat} {i : Int32} (hi : 0 ≤ i.toInt ∧ i.toInt + 6 ≤ L) (hR : cells + 1 ≤ 601024 ∧ slots + 6 ≤ 7293034) (hJ : JJ τ) (hlen : ((τ 1 1).toInt = (τ 131 2).toInt ∧ (τ 0 11).toInt = (τ 152 0).toInt + 2 * (τ 152 1).toInt) ∧ ZZ τ) (X : Xd G s H lc τ) (hl : lv_has ls 7 [(0, .ref b), (1, .ref (G.2.2.2.1 0)), (2, .ref (G.2.2.2.1 131)), (3, .ref (G.2.2.2.1 153)), (4, .int i)]) (kk : ∀ (H : Heap) (lc : List Loc) (ls : Array Slot) (τ : Tau), JJ τ → (((τ 1 1).toInt = (τ 131 2).toInt ∧ (τ 0 11).toInt = (τ 152 0).toInt + 2 * (τ 152 1).toInt) ∧ ZZ τ) → Xd G s H lc τ → lv_has ls 7 [(0, .ref b), (1, .ref (G.2.2.2.1 0)), (2, .ref (G.2.2.2.1 131)), (3, .ref (G.2.2.2.1 153)), (4, .int i)] → W p l e room_1 s m #[Value.ref b] below meth c H lc (cells + 1) (slots + 6) Q (F0 m 1291 ls [])) : W p l e room_1 s m #[Value.ref b] below meth c H lc cells slots Q (F0 m 800 ls []) := by
  obtain ⟨hA1, hA2⟩ := hlen.1
  have hZZ := hlen.2
  have rl : R 0 940 (τ 1 1) := rd (K := 1) hJ.1 rfl rfl
  have ri : R 0 3072 i := ⟨by omega, by omega⟩
  refine r_aload_n S dL_law_800 rfl (lv_at hl 1 rfl) ?_
  refine r_ki (q_V (As := []) (rest := []) (K := 0) (ci := 9) S X (c_X11_next l G τ hJ.1   hJ.2.1 ) ckL_116 (Nat.le_of_ble_eq_true rfl) rfl (fun _ => ⟨_, rfl⟩) ⟨_, _, rfl⟩ ⟨Nat.le_of_ble_eq_true rfl, Nat.le_of_ble_eq_true rfl⟩ rfl hl.1 rfl (Nat.le_of_ble_eq_true rfl) dL_law_801 ⟨by show _ ≤ 601024; omega, by show _ ≤ 7293034; omega⟩) X (fun r1 t2 H lc q3 X => ?_)
  obtain ⟨k6, k7, k8⟩ := k_X11_next q3
  obtain ⟨hJ, e5, n4⟩ := j_X11_next hJ q3
  have h9 := congrArg Int32.toInt e5
  have h10 := congrArg Int32.toInt n4
  refine r_pop S dL_law_804 rfl ?_
  refine r_aload_n S dL_law_805 rfl (lv_at hl 2 rfl) ?_
  refine r_ki (q_V (As := []) (rest := []) (K := 38) (ci := 10) S X (c_X12_next l G t2 hJ.1    ) ckL_119 (Nat.le_of_ble_eq_true rfl) rfl (fun _ => ⟨_, rfl⟩) ⟨_, _, rfl⟩ ⟨Nat.le_of_ble_eq_true rfl, Nat.le_of_ble_eq_true rfl⟩ rfl hl.1 rfl (Nat.le_of_ble_eq_true rfl) dL_law_806 ⟨by show _ ≤ 601024; omega, by show _ ≤ 7293034; omega⟩) X (fun r11 t12 H lc q13 X => ?_)
  obtain ⟨k16, k17, k18⟩ := k_X12_next q13
  obtain ⟨hJ, e15, n14⟩ := j_X12_next hJ q13
  have h19 := congrArg Int32.toInt e15
  have h20 := congrArg Int32.toInt n14
  refine r_pop S dL_law_809 rfl ?_
  refine r_goto (tgt := 1291) S dL_law_810 (by decide) ?_
  refine w_widen (k := cells + 1) (n := slots + 6) (by omega) (by omega) ?_
  exact kk H lc ls t12 hJ ⟨⟨by omega, by omega⟩, ZZ_kp hZZ (zk_X11_next q3) (zk_X12_next q13) (by decide) (by omega)⟩ X (lv_sub hl [0, 1, 2, 3, 4] rfl)
set_option maxHeartbeats 8000000 in
set_option maxRecDepth 100000 in
theorem lc_best {p : Program} {l : Launch} {e : Env} {s : State} {m : MethodId} {below : List Frame} {meth : Method} {c : Code} {b L : Nat} {xs : Nat → Int32} {G : Gx} {Q : State → Prop} (hst : l.stackTraces = false) (S : Sx G p m c code 7 s #[Value.ref b] RL) (hZ : Zs G s) (hX : va_X b L xs s s.heap) (hbl : b < s.heap.size) (hbA : ¬ G.2.2.2.2 b) (hL : L ≤ 3072) {H : Heap} {lc : List Loc} {ls : Array Slot} {τ : Tau} {cells slots : Nat} {i : Int32} (hi : 0 ≤ i.toInt ∧ i.toInt + 6 ≤ L) (hR : cells + 1 ≤ 601024 ∧ slots + 6 ≤ 7293034) (hJ : JJ τ) (hlen : ((τ 1 1).toInt = (τ 131 2).toInt ∧ (τ 0 11).toInt = (τ 152 0).toInt + 2 * (τ 152 1).toInt) ∧ ZZ τ) (X : Xd G s H lc τ) (hl : lv_has ls 7 [(0, .ref b), (1, .ref (G.2.2.2.1 0)), (2, .ref (G.2.2.2.1 131)), (3, .ref (G.2.2.2.1 153)), (4, .int i)]) (kk : ∀ (H : Heap) (lc : List Loc) (ls : Array Slot) (τ : Tau), JJ τ → (((τ 1 1).toInt = (τ 131 2).toInt ∧ (τ 0 11).toInt = (τ 152 0).toInt + 2 * (τ 152 1).toInt) ∧ ZZ τ) → Xd G s H lc τ → lv_has ls 7 [(0, .ref b), (1, .ref (G.2.2.2.1 0)), (2, .ref (G.2.2.2.1 131)), (3, .ref (G.2.2.2.1 153)), (4, .int i)] → W p l e room_1 s m #[Value.ref b] below meth c H lc (cells + 1) (slots + 6) Q (F0 m 1291 ls [])) : W p l e room_1 s m #[Value.ref b] below meth c H lc cells slots Q (F0 m 813 ls []) := by
  obtain ⟨hA1, hA2⟩ := hlen.1
  have hZZ := hlen.2
  have rl : R 0 940 (τ 1 1) := rd (K := 1) hJ.1 rfl rfl
  have ri : R 0 3072 i := ⟨by omega, by omega⟩
  refine r_aload_n S dL_law_813 rfl (lv_at hl 1 rfl) ?_
  refine r_ki (q_V (As := []) (rest := []) (K := 0) (ci := 9) S X (c_X11_best l G τ hJ.1    ) ckL_120 (Nat.le_of_ble_eq_true rfl) rfl (fun _ => ⟨_, rfl⟩) ⟨_, _, rfl⟩ ⟨Nat.le_of_ble_eq_true rfl, Nat.le_of_ble_eq_true rfl⟩ rfl hl.1 rfl (Nat.le_of_ble_eq_true rfl) dL_law_814 ⟨by show _ ≤ 601024; omega, by show _ ≤ 7293034; omega⟩) X (fun r1 t2 H lc q3 X => ?_)
  obtain ⟨k6, k7, k8⟩ := k_X11_best q3
  obtain ⟨hJ, e5, n4⟩ := j_X11_best hJ q3
  have h9 := congrArg Int32.toInt e5
  have h10 := congrArg Int32.toInt n4
  refine r_pop S dL_law_817 rfl ?_
  refine r_aload_n S dL_law_818 rfl (lv_at hl 2 rfl) ?_
  refine r_ki (q_V (As := []) (rest := []) (K := 38) (ci := 10) S X (c_X12_best l G t2 hJ.1    ) ckL_123 (Nat.le_of_ble_eq_true rfl) rfl (fun _ => ⟨_, rfl⟩) ⟨_, _, rfl⟩ ⟨Nat.le_of_ble_eq_true rfl, Nat.le_of_ble_eq_true rfl⟩ rfl hl.1 rfl (Nat.le_of_ble_eq_true rfl) dL_law_819 ⟨by show _ ≤ 601024; omega, by show _ ≤ 7293034; omega⟩) X (fun r11 t12 H lc q13 X => ?_)
  obtain ⟨k16, k17, k18⟩ := k_X12_best q13
  obtain ⟨hJ, e15, n14⟩ := j_X12_best hJ q13
  have h19 := congrArg Int32.toInt e15
  have h20 := congrArg Int32.toInt n14
  refine r_pop S dL_law_822 rfl ?_
  refine r_goto (tgt := 1291) S dL_law_823 (by decide) ?_
  refine w_widen (k := cells + 1) (n := slots + 6) (by omega) (by omega) ?_
  exact kk H lc ls t12 hJ ⟨⟨by omega, by omega⟩, ZZ_kp hZZ (zk_X11_best q3) (zk_X12_best q13) (by decide) (by omega)⟩ X (lv_sub hl [0, 1, 2, 3, 4] rfl)
set_option maxHeartbeats 8000000 in
set_option maxRecDepth 100000 in
theorem lc_easy {p : Program} {l : Launch} {e : Env} {s : State} {m : MethodId} {below : List Frame} {meth : Method} {c : Code} {b L : Nat} {xs : Nat → Int32} {G : Gx} {Q : State → Prop} (hst : l.stackTraces = false) (S : Sx G p m c code 7 s #[Value.ref b] RL) (hZ : Zs G s) (hX : va_X b L xs s s.heap) (hbl : b < s.heap.size) (hbA : ¬ G.2.2.2.2 b) (hL : L ≤ 3072) {H : Heap} {lc : List Loc} {ls : Array Slot} {τ : Tau} {cells slots : Nat} {i : Int32} (hi : 0 ≤ i.toInt ∧ i.toInt + 6 ≤ L) (hR : cells + 1 ≤ 601024 ∧ slots + 6 ≤ 7293034) (hJ : JJ τ) (hlen : ((τ 1 1).toInt = (τ 131 2).toInt ∧ (τ 0 11).toInt = (τ 152 0).toInt + 2 * (τ 152 1).toInt) ∧ ZZ τ) (X : Xd G s H lc τ) (hl : lv_has ls 7 [(0, .ref b), (1, .ref (G.2.2.2.1 0)), (2, .ref (G.2.2.2.1 131)), (3, .ref (G.2.2.2.1 153)), (4, .int i)]) (kk : ∀ (H : Heap) (lc : List Loc) (ls : Array Slot) (τ : Tau), JJ τ → (((τ 1 1).toInt = (τ 131 2).toInt ∧ (τ 0 11).toInt = (τ 152 0).toInt + 2 * (τ 152 1).toInt) ∧ ZZ τ) → Xd G s H lc τ → lv_has ls 7 [(0, .ref b), (1, .ref (G.2.2.2.1 0)), (2, .ref (G.2.2.2.1 131)), (3, .ref (G.2.2.2.1 153)), (4, .int i)] → W p l e room_1 s m #[Value.ref b] below meth c H lc (cells + 1) (slots + 6) Q (F0 m 1291 ls [])) : W p l e room_1 s m #[Value.ref b] below meth c H lc cells slots Q (F0 m 826 ls []) := by
  obtain ⟨hA1, hA2⟩ := hlen.1
  have hZZ := hlen.2
  have rl : R 0 940 (τ 1 1) := rd (K := 1) hJ.1 rfl rfl
  have ri : R 0 3072 i := ⟨by omega, by omega⟩
  refine r_aload_n S dL_law_826 rfl (lv_at hl 1 rfl) ?_
  refine r_ki (q_V (As := []) (rest := []) (K := 0) (ci := 9) S X (c_X11_easy l G τ hJ.1    ) ckL_124 (Nat.le_of_ble_eq_true rfl) rfl (fun _ => ⟨_, rfl⟩) ⟨_, _, rfl⟩ ⟨Nat.le_of_ble_eq_true rfl, Nat.le_of_ble_eq_true rfl⟩ rfl hl.1 rfl (Nat.le_of_ble_eq_true rfl) dL_law_827 ⟨by show _ ≤ 601024; omega, by show _ ≤ 7293034; omega⟩) X (fun r1 t2 H lc q3 X => ?_)
  obtain ⟨k6, k7, k8⟩ := k_X11_easy q3
  obtain ⟨hJ, e5, n4⟩ := j_X11_easy hJ q3
  have h9 := congrArg Int32.toInt e5
  have h10 := congrArg Int32.toInt n4
  refine r_pop S dL_law_830 rfl ?_
  refine r_aload_n S dL_law_831 rfl (lv_at hl 2 rfl) ?_
  refine r_ki (q_V (As := []) (rest := []) (K := 38) (ci := 10) S X (c_X12_easy l G t2 hJ.1    ) ckL_127 (Nat.le_of_ble_eq_true rfl) rfl (fun _ => ⟨_, rfl⟩) ⟨_, _, rfl⟩ ⟨Nat.le_of_ble_eq_true rfl, Nat.le_of_ble_eq_true rfl⟩ rfl hl.1 rfl (Nat.le_of_ble_eq_true rfl) dL_law_832 ⟨by show _ ≤ 601024; omega, by show _ ≤ 7293034; omega⟩) X (fun r11 t12 H lc q13 X => ?_)
  obtain ⟨k16, k17, k18⟩ := k_X12_easy q13
  obtain ⟨hJ, e15, n14⟩ := j_X12_easy hJ q13
  have h19 := congrArg Int32.toInt e15
  have h20 := congrArg Int32.toInt n14
  refine r_pop S dL_law_835 rfl ?_
  refine r_goto (tgt := 1291) S dL_law_836 (by decide) ?_
  refine w_widen (k := cells + 1) (n := slots + 6) (by omega) (by omega) ?_
  exact kk H lc ls t12 hJ ⟨⟨by omega, by omega⟩, ZZ_kp hZZ (zk_X11_easy q3) (zk_X12_easy q13) (by decide) (by omega)⟩ X (lv_sub hl [0, 1, 2, 3, 4] rfl)
set_option maxHeartbeats 8000000 in
set_option maxRecDepth 100000 in
theorem lc_changed {p : Program} {l : Launch} {e : Env} {s : State} {m : MethodId} {below : List Frame} {meth : Method} {c : Code} {b L : Nat} {xs : Nat → Int32} {G : Gx} {Q : State → Prop} (hst : l.stackTraces = false) (S : Sx G p m c code 7 s #[Value.ref b] RL) (hZ : Zs G s) (hX : va_X b L xs s s.heap) (hbl : b < s.heap.size) (hbA : ¬ G.2.2.2.2 b) (hL : L ≤ 3072) {H : Heap} {lc : List Loc} {ls : Array Slot} {τ : Tau} {cells slots : Nat} {i : Int32} (hi : 0 ≤ i.toInt ∧ i.toInt + 6 ≤ L) (hR : cells + 1 ≤ 601024 ∧ slots + 6 ≤ 7293034) (hJ : JJ τ) (hlen : ((τ 1 1).toInt = (τ 131 2).toInt ∧ (τ 0 11).toInt = (τ 152 0).toInt + 2 * (τ 152 1).toInt) ∧ ZZ τ) (X : Xd G s H lc τ) (hl : lv_has ls 7 [(0, .ref b), (1, .ref (G.2.2.2.1 0)), (2, .ref (G.2.2.2.1 131)), (3, .ref (G.2.2.2.1 153)), (4, .int i)]) (kk : ∀ (H : Heap) (lc : List Loc) (ls : Array Slot) (τ : Tau), JJ τ → (((τ 1 1).toInt = (τ 131 2).toInt ∧ (τ 0 11).toInt = (τ 152 0).toInt + 2 * (τ 152 1).toInt) ∧ ZZ τ) → Xd G s H lc τ → lv_has ls 7 [(0, .ref b), (1, .ref (G.2.2.2.1 0)), (2, .ref (G.2.2.2.1 131)), (3, .ref (G.2.2.2.1 153)), (4, .int i)] → W p l e room_1 s m #[Value.ref b] below meth c H lc (cells + 1) (slots + 6) Q (F0 m 1291 ls [])) : W p l e room_1 s m #[Value.ref b] below meth c H lc cells slots Q (F0 m 839 ls []) := by
  obtain ⟨hA1, hA2⟩ := hlen.1
  have hZZ := hlen.2
  have rl : R 0 940 (τ 1 1) := rd (K := 1) hJ.1 rfl rfl
  have ri : R 0 3072 i := ⟨by omega, by omega⟩
  refine r_aload_n S dL_law_839 rfl (lv_at hl 1 rfl) ?_
  refine r_aload_n S dL_law_840 rfl (lv_at hl 0 rfl) ?_
  refine r_iload S dL_law_841 (lv_at hl 4 rfl) ?_
  refine r_iconst S dL_law_843 (by decide) (fun v1 z2 => ?_)
  refine r_iadd S dL_law_844 (fun v3 z4 => ?_)
  obtain ⟨e5, r6⟩ := i_add (lo := 1) (hi := 3073) z4 ri (R_eq z2) rfl
  refine va_sld S.1.1 S.1.2.1 hX hbl hbA X.2 (vp_in_iff.mpr ⟨by omega, by omega⟩) dL_law_845 ?_
  refine lv_topi (fun y7 z8 => ?_)
  refine r_ki (q_V (As := [.int y7]) (rest := []) (K := 0) (ci := 9) S X (c_X11_changed l G τ hJ.1 y7 (R_any _) hJ.2.1 ) ckL_128 (Nat.le_of_ble_eq_true rfl) rfl (fun _ => ⟨_, rfl⟩) ⟨_, _, rfl⟩ ⟨Nat.le_of_ble_eq_true rfl, Nat.le_of_ble_eq_true rfl⟩ rfl hl.1 rfl (Nat.le_of_ble_eq_true rfl) dL_law_846 ⟨by show _ ≤ 601024; omega, by show _ ≤ 7293034; omega⟩) X (fun r9 t10 H lc q11 X => ?_)
  obtain ⟨k14, k15, k16⟩ := k_X11_changed q11
  obtain ⟨hJ, e13, n12⟩ := j_X11_changed hJ q11
  have h17 := congrArg Int32.toInt e13
  have h18 := congrArg Int32.toInt n12
  refine r_pop S dL_law_849 rfl ?_
  refine r_aload_n S dL_law_850 rfl (lv_at hl 2 rfl) ?_
  refine r_aload_n S dL_law_851 rfl (lv_at hl 0 rfl) ?_
  refine r_iload S dL_law_852 (lv_at hl 4 rfl) ?_
  refine r_iconst S dL_law_854 (by decide) (fun v19 z20 => ?_)
  refine r_iadd S dL_law_855 (fun v21 z22 => ?_)
  obtain ⟨e23, r24⟩ := i_add (lo := 1) (hi := 3073) z22 ri (R_eq z20) rfl
  refine va_sld S.1.1 S.1.2.1 hX hbl hbA X.2 (vp_in_iff.mpr ⟨by omega, by omega⟩) dL_law_856 ?_
  refine lv_topi (fun y25 z26 => ?_)
  have h27 : y7 = y25 := (show y25 = y7 by rw [z26, z8, show v21 = v3 from Int32.toInt_inj.mp (by omega)]).symm
  subst h27
  refine r_ki (q_V (As := [.int y7]) (rest := []) (K := 38) (ci := 10) S X (c_X12_changed l G t10 hJ.1 y7 (R_any _)  ) ckL_131 (Nat.le_of_ble_eq_true rfl) rfl (fun _ => ⟨_, rfl⟩) ⟨_, _, rfl⟩ ⟨Nat.le_of_ble_eq_true rfl, Nat.le_of_ble_eq_true rfl⟩ rfl hl.1 rfl (Nat.le_of_ble_eq_true rfl) dL_law_857 ⟨by show _ ≤ 601024; omega, by show _ ≤ 7293034; omega⟩) X (fun r28 t29 H lc q30 X => ?_)
  obtain ⟨k33, k34, k35⟩ := k_X12_changed q30
  obtain ⟨hJ, e32, n31⟩ := j_X12_changed hJ q30
  have h36 := congrArg Int32.toInt e32
  have h37 := congrArg Int32.toInt n31
  refine r_pop S dL_law_860 rfl ?_
  refine r_goto (tgt := 1291) S dL_law_861 (by decide) ?_
  refine w_widen (k := cells + 1) (n := slots + 6) (by omega) (by omega) ?_
  exact kk H lc ls t29 hJ ⟨⟨by omega, by omega⟩, ZZ_kp hZZ (zk_X11_changed q11) (zk_X12_changed q30) (by decide) (by omega)⟩ X (lv_sub hl [0, 1, 2, 3, 4] rfl)
set_option maxHeartbeats 8000000 in
set_option maxRecDepth 100000 in
theorem lc_fits {p : Program} {l : Launch} {e : Env} {s : State} {m : MethodId} {below : List Frame} {meth : Method} {c : Code} {b L : Nat} {xs : Nat → Int32} {G : Gx} {Q : State → Prop} (hst : l.stackTraces = false) (S : Sx G p m c code 7 s #[Value.ref b] RL) (hZ : Zs G s) (hX : va_X b L xs s s.heap) (hbl : b < s.heap.size) (hbA : ¬ G.2.2.2.2 b) (hL : L ≤ 3072) {H : Heap} {lc : List Loc} {ls : Array Slot} {τ : Tau} {cells slots : Nat} {i : Int32} (hi : 0 ≤ i.toInt ∧ i.toInt + 6 ≤ L) (hR : cells + 1 ≤ 601024 ∧ slots + 6 ≤ 7293034) (hJ : JJ τ) (hlen : ((τ 1 1).toInt = (τ 131 2).toInt ∧ (τ 0 11).toInt = (τ 152 0).toInt + 2 * (τ 152 1).toInt) ∧ ZZ τ) (X : Xd G s H lc τ) (hl : lv_has ls 7 [(0, .ref b), (1, .ref (G.2.2.2.1 0)), (2, .ref (G.2.2.2.1 131)), (3, .ref (G.2.2.2.1 153)), (4, .int i)]) (kk : ∀ (H : Heap) (lc : List Loc) (ls : Array Slot) (τ : Tau), JJ τ → (((τ 1 1).toInt = (τ 131 2).toInt ∧ (τ 0 11).toInt = (τ 152 0).toInt + 2 * (τ 152 1).toInt) ∧ ZZ τ) → Xd G s H lc τ → lv_has ls 7 [(0, .ref b), (1, .ref (G.2.2.2.1 0)), (2, .ref (G.2.2.2.1 131)), (3, .ref (G.2.2.2.1 153)), (4, .int i)] → W p l e room_1 s m #[Value.ref b] below meth c H lc (cells + 1) (slots + 6) Q (F0 m 1291 ls [])) : W p l e room_1 s m #[Value.ref b] below meth c H lc cells slots Q (F0 m 864 ls []) := by
  obtain ⟨hA1, hA2⟩ := hlen.1
  have hZZ := hlen.2
  have rl : R 0 940 (τ 1 1) := rd (K := 1) hJ.1 rfl rfl
  have ri : R 0 3072 i := ⟨by omega, by omega⟩
  refine r_aload_n S dL_law_864 rfl (lv_at hl 1 rfl) ?_
  refine r_aload_n S dL_law_865 rfl (lv_at hl 0 rfl) ?_
  refine r_iload S dL_law_866 (lv_at hl 4 rfl) ?_
  refine r_iconst S dL_law_868 (by decide) (fun v1 z2 => ?_)
  refine r_iadd S dL_law_869 (fun v3 z4 => ?_)
  obtain ⟨e5, r6⟩ := i_add (lo := 1) (hi := 3073) z4 ri (R_eq z2) rfl
  refine va_sld S.1.1 S.1.2.1 hX hbl hbA X.2 (vp_in_iff.mpr ⟨by omega, by omega⟩) dL_law_870 ?_
  refine lv_topi (fun y7 z8 => ?_)
  refine r_ki (q_V (As := [.int y7]) (rest := []) (K := 0) (ci := 9) S X (c_X11_fits l G τ hJ.1 y7 (R_any _) hJ.2.1 ) ckL_132 (Nat.le_of_ble_eq_true rfl) rfl (fun _ => ⟨_, rfl⟩) ⟨_, _, rfl⟩ ⟨Nat.le_of_ble_eq_true rfl, Nat.le_of_ble_eq_true rfl⟩ rfl hl.1 rfl (Nat.le_of_ble_eq_true rfl) dL_law_871 ⟨by show _ ≤ 601024; omega, by show _ ≤ 7293034; omega⟩) X (fun r9 t10 H lc q11 X => ?_)
  obtain ⟨k14, k15, k16⟩ := k_X11_fits q11
  obtain ⟨hJ, e13, n12⟩ := j_X11_fits hJ q11
  have h17 := congrArg Int32.toInt e13
  refine r_pop S dL_law_874 rfl ?_
  refine r_aload_n S dL_law_875 rfl (lv_at hl 2 rfl) ?_
  refine r_aload_n S dL_law_876 rfl (lv_at hl 0 rfl) ?_
  refine r_iload S dL_law_877 (lv_at hl 4 rfl) ?_
  refine r_iconst S dL_law_879 (by decide) (fun v18 z19 => ?_)
  refine r_iadd S dL_law_880 (fun v20 z21 => ?_)
  obtain ⟨e22, r23⟩ := i_add (lo := 1) (hi := 3073) z21 ri (R_eq z19) rfl
  refine va_sld S.1.1 S.1.2.1 hX hbl hbA X.2 (vp_in_iff.mpr ⟨by omega, by omega⟩) dL_law_881 ?_
  refine lv_topi (fun y24 z25 => ?_)
  have h26 : y7 = y24 := (show y24 = y7 by rw [z25, z8, show v20 = v3 from Int32.toInt_inj.mp (by omega)]).symm
  subst h26
  refine r_ki (q_V (As := [.int y7]) (rest := []) (K := 38) (ci := 10) S X (c_X12_fits l G t10 hJ.1 y7 (R_any _)  ) ckL_135 (Nat.le_of_ble_eq_true rfl) rfl (fun _ => ⟨_, rfl⟩) ⟨_, _, rfl⟩ ⟨Nat.le_of_ble_eq_true rfl, Nat.le_of_ble_eq_true rfl⟩ rfl hl.1 rfl (Nat.le_of_ble_eq_true rfl) dL_law_882 ⟨by show _ ≤ 601024; omega, by show _ ≤ 7293034; omega⟩) X (fun r27 t28 H lc q29 X => ?_)
  obtain ⟨k32, k33, k34⟩ := k_X12_fits q29
  obtain ⟨hJ, e31, n30⟩ := j_X12_fits hJ q29
  have h35 := congrArg Int32.toInt e31
  have h36 : (t28 131 2).toInt = 0 := by have h1 := n30.1; have h2 := n30.2; omega
  refine r_pop S dL_law_885 rfl ?_
  refine r_goto (tgt := 1291) S dL_law_886 (by decide) ?_
  refine w_widen (k := cells + 1) (n := slots + 6) (by omega) (by omega) ?_
  exact kk H lc ls t28 hJ ⟨⟨by omega, by omega⟩, ZZ_kp hZZ (zk_X11_fits q11) (zk_X12_fits q29) (by decide) (by omega)⟩ X (lv_sub hl [0, 1, 2, 3, 4] rfl)
set_option maxHeartbeats 8000000 in
set_option maxRecDepth 100000 in
theorem lc_fit {p : Program} {l : Launch} {e : Env} {s : State} {m : MethodId} {below : List Frame} {meth : Method} {c : Code} {b L : Nat} {xs : Nat → Int32} {G : Gx} {Q : State → Prop} (hst : l.stackTraces = false) (S : Sx G p m c code 7 s #[Value.ref b] RL) (hZ : Zs G s) (hX : va_X b L xs s s.heap) (hbl : b < s.heap.size) (hbA : ¬ G.2.2.2.2 b) (hL : L ≤ 3072) {H : Heap} {lc : List Loc} {ls : Array Slot} {τ : Tau} {cells slots : Nat} {i : Int32} (hi : 0 ≤ i.toInt ∧ i.toInt + 6 ≤ L) (hR : cells + 1 ≤ 601024 ∧ slots + 6 ≤ 7293034) (hJ : JJ τ) (hlen : ((τ 1 1).toInt = (τ 131 2).toInt ∧ (τ 0 11).toInt = (τ 152 0).toInt + 2 * (τ 152 1).toInt) ∧ ZZ τ) (X : Xd G s H lc τ) (hl : lv_has ls 7 [(0, .ref b), (1, .ref (G.2.2.2.1 0)), (2, .ref (G.2.2.2.1 131)), (3, .ref (G.2.2.2.1 153)), (4, .int i)]) (kk : ∀ (H : Heap) (lc : List Loc) (ls : Array Slot) (τ : Tau), JJ τ → (((τ 1 1).toInt = (τ 131 2).toInt ∧ (τ 0 11).toInt = (τ 152 0).toInt + 2 * (τ 152 1).toInt) ∧ ZZ τ) → Xd G s H lc τ → lv_has ls 7 [(0, .ref b), (1, .ref (G.2.2.2.1 0)), (2, .ref (G.2.2.2.1 131)), (3, .ref (G.2.2.2.1 153)), (4, .int i)] → W p l e room_1 s m #[Value.ref b] below meth c H lc (cells + 1) (slots + 6) Q (F0 m 1291 ls [])) : W p l e room_1 s m #[Value.ref b] below meth c H lc cells slots Q (F0 m 889 ls []) := by
  obtain ⟨hA1, hA2⟩ := hlen.1
  have hZZ := hlen.2
  have rl : R 0 940 (τ 1 1) := rd (K := 1) hJ.1 rfl rfl
  have ri : R 0 3072 i := ⟨by omega, by omega⟩
  refine r_aload_n S dL_law_889 rfl (lv_at hl 1 rfl) ?_
  refine r_aload_n S dL_law_890 rfl (lv_at hl 0 rfl) ?_
  refine r_iload S dL_law_891 (lv_at hl 4 rfl) ?_
  refine r_iconst S dL_law_893 (by decide) (fun v1 z2 => ?_)
  refine r_iadd S dL_law_894 (fun v3 z4 => ?_)
  obtain ⟨e5, r6⟩ := i_add (lo := 1) (hi := 3073) z4 ri (R_eq z2) rfl
  refine va_sld S.1.1 S.1.2.1 hX hbl hbA X.2 (vp_in_iff.mpr ⟨by omega, by omega⟩) dL_law_895 ?_
  refine lv_topi (fun y7 z8 => ?_)
  refine r_ki (q_V (As := [.int y7]) (rest := []) (K := 0) (ci := 9) S X (c_X11_fit l G τ hJ.1 y7 (R_any _)  ) ckL_136 (Nat.le_of_ble_eq_true rfl) rfl (fun _ => ⟨_, rfl⟩) ⟨_, _, rfl⟩ ⟨Nat.le_of_ble_eq_true rfl, Nat.le_of_ble_eq_true rfl⟩ rfl hl.1 rfl (Nat.le_of_ble_eq_true rfl) dL_law_896 ⟨by show _ ≤ 601024; omega, by show _ ≤ 7293034; omega⟩) X (fun r9 t10 H lc q11 X => ?_)
  obtain ⟨k14, k15, k16⟩ := k_X11_fit q11
  obtain ⟨hJ, e13, n12⟩ := j_X11_fit hJ q11
  have h17 := congrArg Int32.toInt e13
  have h18 := congrArg Int32.toInt n12
  refine r_pop S dL_law_899 rfl ?_
  refine r_aload_n S dL_law_900 rfl (lv_at hl 2 rfl) ?_
  refine r_aload_n S dL_law_901 rfl (lv_at hl 0 rfl) ?_
  refine r_iload S dL_law_902 (lv_at hl 4 rfl) ?_
  refine r_iconst S dL_law_904 (by decide) (fun v19 z20 => ?_)
  refine r_iadd S dL_law_905 (fun v21 z22 => ?_)
  obtain ⟨e23, r24⟩ := i_add (lo := 1) (hi := 3073) z22 ri (R_eq z20) rfl
  refine va_sld S.1.1 S.1.2.1 hX hbl hbA X.2 (vp_in_iff.mpr ⟨by omega, by omega⟩) dL_law_906 ?_
  refine lv_topi (fun y25 z26 => ?_)
  have h27 : y7 = y25 := (show y25 = y7 by rw [z26, z8, show v21 = v3 from Int32.toInt_inj.mp (by omega)]).symm
  subst h27
  refine r_ki (q_V (As := [.int y7]) (rest := []) (K := 38) (ci := 10) S X (c_X12_fit l G t10 hJ.1 y7 (R_any _)  ) ckL_139 (Nat.le_of_ble_eq_true rfl) rfl (fun _ => ⟨_, rfl⟩) ⟨_, _, rfl⟩ ⟨Nat.le_of_ble_eq_true rfl, Nat.le_of_ble_eq_true rfl⟩ rfl hl.1 rfl (Nat.le_of_ble_eq_true rfl) dL_law_907 ⟨by show _ ≤ 601024; omega, by show _ ≤ 7293034; omega⟩) X (fun r28 t29 H lc q30 X => ?_)
  obtain ⟨k33, k34, k35⟩ := k_X12_fit q30
  obtain ⟨hJ, e32, n31⟩ := j_X12_fit hJ q30
  have h36 := congrArg Int32.toInt e32
  have h37 := congrArg Int32.toInt n31
  refine r_pop S dL_law_910 rfl ?_
  refine r_goto (tgt := 1291) S dL_law_911 (by decide) ?_
  refine w_widen (k := cells + 1) (n := slots + 6) (by omega) (by omega) ?_
  exact kk H lc ls t29 hJ ⟨⟨by omega, by omega⟩, ZZ_kp hZZ (zk_X11_fit q11) (zk_X12_fit q30) (by decide) (by omega)⟩ X (lv_sub hl [0, 1, 2, 3, 4] rfl)
set_option maxHeartbeats 8000000 in
set_option maxRecDepth 100000 in
theorem lc_couples {p : Program} {l : Launch} {e : Env} {s : State} {m : MethodId} {below : List Frame} {meth : Method} {c : Code} {b L : Nat} {xs : Nat → Int32} {G : Gx} {Q : State → Prop} (hst : l.stackTraces = false) (S : Sx G p m c code 7 s #[Value.ref b] RL) (hZ : Zs G s) (hX : va_X b L xs s s.heap) (hbl : b < s.heap.size) (hbA : ¬ G.2.2.2.2 b) (hL : L ≤ 3072) {H : Heap} {lc : List Loc} {ls : Array Slot} {τ : Tau} {cells slots : Nat} {i : Int32} (hi : 0 ≤ i.toInt ∧ i.toInt + 6 ≤ L) (hR : cells + 1 ≤ 601024 ∧ slots + 6 ≤ 7293034) (hJ : JJ τ) (hlen : ((τ 1 1).toInt = (τ 131 2).toInt ∧ (τ 0 11).toInt = (τ 152 0).toInt + 2 * (τ 152 1).toInt) ∧ ZZ τ) (X : Xd G s H lc τ) (hl : lv_has ls 7 [(0, .ref b), (1, .ref (G.2.2.2.1 0)), (2, .ref (G.2.2.2.1 131)), (3, .ref (G.2.2.2.1 153)), (4, .int i)]) (kk : ∀ (H : Heap) (lc : List Loc) (ls : Array Slot) (τ : Tau), JJ τ → (((τ 1 1).toInt = (τ 131 2).toInt ∧ (τ 0 11).toInt = (τ 152 0).toInt + 2 * (τ 152 1).toInt) ∧ ZZ τ) → Xd G s H lc τ → lv_has ls 7 [(0, .ref b), (1, .ref (G.2.2.2.1 0)), (2, .ref (G.2.2.2.1 131)), (3, .ref (G.2.2.2.1 153)), (4, .int i)] → W p l e room_1 s m #[Value.ref b] below meth c H lc (cells + 1) (slots + 6) Q (F0 m 1291 ls [])) : W p l e room_1 s m #[Value.ref b] below meth c H lc cells slots Q (F0 m 914 ls []) := by
  obtain ⟨hA1, hA2⟩ := hlen.1
  have hZZ := hlen.2
  have rl : R 0 940 (τ 1 1) := rd (K := 1) hJ.1 rfl rfl
  have ri : R 0 3072 i := ⟨by omega, by omega⟩
  refine r_aload_n S dL_law_914 rfl (lv_at hl 1 rfl) ?_
  refine r_ki (q_V (As := []) (rest := []) (K := 0) (ci := 9) S X (c_X11_couples l G τ hJ.1   hJ.2.1 ) ckL_140 (Nat.le_of_ble_eq_true rfl) rfl (fun _ => ⟨_, rfl⟩) ⟨_, _, rfl⟩ ⟨Nat.le_of_ble_eq_true rfl, Nat.le_of_ble_eq_true rfl⟩ rfl hl.1 rfl (Nat.le_of_ble_eq_true rfl) dL_law_915 ⟨by show _ ≤ 601024; omega, by show _ ≤ 7293034; omega⟩) X (fun r1 t2 H lc q3 X => ?_)
  obtain ⟨k6, k7, k8⟩ := k_X11_couples q3
  obtain ⟨hJ, e5, n4⟩ := j_X11_couples hJ q3
  have h9 := congrArg Int32.toInt e5
  have h10 := congrArg Int32.toInt n4
  refine r_pop S dL_law_918 rfl ?_
  refine r_aload_n S dL_law_919 rfl (lv_at hl 2 rfl) ?_
  refine r_ki (q_V (As := []) (rest := []) (K := 38) (ci := 10) S X (c_X12_couples l G t2 hJ.1    ) ckL_143 (Nat.le_of_ble_eq_true rfl) rfl (fun _ => ⟨_, rfl⟩) ⟨_, _, rfl⟩ ⟨Nat.le_of_ble_eq_true rfl, Nat.le_of_ble_eq_true rfl⟩ rfl hl.1 rfl (Nat.le_of_ble_eq_true rfl) dL_law_920 ⟨by show _ ≤ 601024; omega, by show _ ≤ 7293034; omega⟩) X (fun r11 t12 H lc q13 X => ?_)
  obtain ⟨k16, k17, k18⟩ := k_X12_couples q13
  obtain ⟨hJ, e15, n14⟩ := j_X12_couples hJ q13
  have h19 := congrArg Int32.toInt e15
  have h20 := congrArg Int32.toInt n14
  refine r_pop S dL_law_923 rfl ?_
  refine r_goto (tgt := 1291) S dL_law_924 (by decide) ?_
  refine w_widen (k := cells + 1) (n := slots + 6) (by omega) (by omega) ?_
  exact kk H lc ls t12 hJ ⟨⟨by omega, by omega⟩, ZZ_kp hZZ (zk_X11_couples q3) (zk_X12_couples q13) (by decide) (by omega)⟩ X (lv_sub hl [0, 1, 2, 3, 4] rfl)
set_option maxHeartbeats 8000000 in
set_option maxRecDepth 100000 in
theorem lc_couple {p : Program} {l : Launch} {e : Env} {s : State} {m : MethodId} {below : List Frame} {meth : Method} {c : Code} {b L : Nat} {xs : Nat → Int32} {G : Gx} {Q : State → Prop} (hst : l.stackTraces = false) (S : Sx G p m c code 7 s #[Value.ref b] RL) (hZ : Zs G s) (hX : va_X b L xs s s.heap) (hbl : b < s.heap.size) (hbA : ¬ G.2.2.2.2 b) (hL : L ≤ 3072) {H : Heap} {lc : List Loc} {ls : Array Slot} {τ : Tau} {cells slots : Nat} {i : Int32} (hi : 0 ≤ i.toInt ∧ i.toInt + 6 ≤ L) (hR : cells + 1 ≤ 601024 ∧ slots + 6 ≤ 7293034) (hJ : JJ τ) (hlen : ((τ 1 1).toInt = (τ 131 2).toInt ∧ (τ 0 11).toInt = (τ 152 0).toInt + 2 * (τ 152 1).toInt) ∧ ZZ τ) (X : Xd G s H lc τ) (hl : lv_has ls 7 [(0, .ref b), (1, .ref (G.2.2.2.1 0)), (2, .ref (G.2.2.2.1 131)), (3, .ref (G.2.2.2.1 153)), (4, .int i)]) (kk : ∀ (H : Heap) (lc : List Loc) (ls : Array Slot) (τ : Tau), JJ τ → (((τ 1 1).toInt = (τ 131 2).toInt ∧ (τ 0 11).toInt = (τ 152 0).toInt + 2 * (τ 152 1).toInt) ∧ ZZ τ) → Xd G s H lc τ → lv_has ls 7 [(0, .ref b), (1, .ref (G.2.2.2.1 0)), (2, .ref (G.2.2.2.1 131)), (3, .ref (G.2.2.2.1 153)), (4, .int i)] → W p l e room_1 s m #[Value.ref b] below meth c H lc (cells + 1) (slots + 6) Q (F0 m 1291 ls [])) : W p l e room_1 s m #[Value.ref b] below meth c H lc cells slots Q (F0 m 927 ls []) := by
  obtain ⟨hA1, hA2⟩ := hlen.1
  have hZZ := hlen.2
  have rl : R 0 940 (τ 1 1) := rd (K := 1) hJ.1 rfl rfl
  have ri : R 0 3072 i := ⟨by omega, by omega⟩
  refine r_aload_n S dL_law_927 rfl (lv_at hl 1 rfl) ?_
  refine r_aload_n S dL_law_928 rfl (lv_at hl 0 rfl) ?_
  refine r_iload S dL_law_929 (lv_at hl 4 rfl) ?_
  refine r_iconst S dL_law_931 (by decide) (fun v1 z2 => ?_)
  refine r_iadd S dL_law_932 (fun v3 z4 => ?_)
  obtain ⟨e5, r6⟩ := i_add (lo := 1) (hi := 3073) z4 ri (R_eq z2) rfl
  refine va_sld S.1.1 S.1.2.1 hX hbl hbA X.2 (vp_in_iff.mpr ⟨by omega, by omega⟩) dL_law_933 ?_
  refine lv_topi (fun y7 z8 => ?_)
  refine r_ki (q_V (As := [.int y7]) (rest := []) (K := 0) (ci := 9) S X (c_X11_couple l G τ hJ.1 y7 (R_any _)  ) ckL_144 (Nat.le_of_ble_eq_true rfl) rfl (fun _ => ⟨_, rfl⟩) ⟨_, _, rfl⟩ ⟨Nat.le_of_ble_eq_true rfl, Nat.le_of_ble_eq_true rfl⟩ rfl hl.1 rfl (Nat.le_of_ble_eq_true rfl) dL_law_934 ⟨by show _ ≤ 601024; omega, by show _ ≤ 7293034; omega⟩) X (fun r9 t10 H lc q11 X => ?_)
  obtain ⟨k14, k15, k16⟩ := k_X11_couple q11
  obtain ⟨hJ, e13, n12⟩ := j_X11_couple hJ q11
  have h17 := congrArg Int32.toInt e13
  have h18 := congrArg Int32.toInt n12
  refine r_pop S dL_law_937 rfl ?_
  refine r_aload_n S dL_law_938 rfl (lv_at hl 2 rfl) ?_
  refine r_aload_n S dL_law_939 rfl (lv_at hl 0 rfl) ?_
  refine r_iload S dL_law_940 (lv_at hl 4 rfl) ?_
  refine r_iconst S dL_law_942 (by decide) (fun v19 z20 => ?_)
  refine r_iadd S dL_law_943 (fun v21 z22 => ?_)
  obtain ⟨e23, r24⟩ := i_add (lo := 1) (hi := 3073) z22 ri (R_eq z20) rfl
  refine va_sld S.1.1 S.1.2.1 hX hbl hbA X.2 (vp_in_iff.mpr ⟨by omega, by omega⟩) dL_law_944 ?_
  refine lv_topi (fun y25 z26 => ?_)
  have h27 : y7 = y25 := (show y25 = y7 by rw [z26, z8, show v21 = v3 from Int32.toInt_inj.mp (by omega)]).symm
  subst h27
  refine r_ki (q_V (As := [.int y7]) (rest := []) (K := 38) (ci := 10) S X (c_X12_couple l G t10 hJ.1 y7 (R_any _)  ) ckL_147 (Nat.le_of_ble_eq_true rfl) rfl (fun _ => ⟨_, rfl⟩) ⟨_, _, rfl⟩ ⟨Nat.le_of_ble_eq_true rfl, Nat.le_of_ble_eq_true rfl⟩ rfl hl.1 rfl (Nat.le_of_ble_eq_true rfl) dL_law_945 ⟨by show _ ≤ 601024; omega, by show _ ≤ 7293034; omega⟩) X (fun r28 t29 H lc q30 X => ?_)
  obtain ⟨k33, k34, k35⟩ := k_X12_couple q30
  obtain ⟨hJ, e32, n31⟩ := j_X12_couple hJ q30
  have h36 := congrArg Int32.toInt e32
  have h37 := congrArg Int32.toInt n31
  refine r_pop S dL_law_948 rfl ?_
  refine r_goto (tgt := 1291) S dL_law_949 (by decide) ?_
  refine w_widen (k := cells + 1) (n := slots + 6) (by omega) (by omega) ?_
  exact kk H lc ls t29 hJ ⟨⟨by omega, by omega⟩, ZZ_kp hZZ (zk_X11_couple q11) (zk_X12_couple q30) (by decide) (by omega)⟩ X (lv_sub hl [0, 1, 2, 3, 4] rfl)
set_option maxHeartbeats 8000000 in
set_option maxRecDepth 100000 in
theorem lc_doubters {p : Program} {l : Launch} {e : Env} {s : State} {m : MethodId} {below : List Frame} {meth : Method} {c : Code} {b L : Nat} {xs : Nat → Int32} {G : Gx} {Q : State → Prop} (hst : l.stackTraces = false) (S : Sx G p m c code 7 s #[Value.ref b] RL) (hZ : Zs G s) (hX : va_X b L xs s s.heap) (hbl : b < s.heap.size) (hbA : ¬ G.2.2.2.2 b) (hL : L ≤ 3072) {H : Heap} {lc : List Loc} {ls : Array Slot} {τ : Tau} {cells slots : Nat} {i : Int32} (hi : 0 ≤ i.toInt ∧ i.toInt + 6 ≤ L) (hR : cells + 1 ≤ 601024 ∧ slots + 6 ≤ 7293034) (hJ : JJ τ) (hlen : ((τ 1 1).toInt = (τ 131 2).toInt ∧ (τ 0 11).toInt = (τ 152 0).toInt + 2 * (τ 152 1).toInt) ∧ ZZ τ) (X : Xd G s H lc τ) (hl : lv_has ls 7 [(0, .ref b), (1, .ref (G.2.2.2.1 0)), (2, .ref (G.2.2.2.1 131)), (3, .ref (G.2.2.2.1 153)), (4, .int i)]) (kk : ∀ (H : Heap) (lc : List Loc) (ls : Array Slot) (τ : Tau), JJ τ → (((τ 1 1).toInt = (τ 131 2).toInt ∧ (τ 0 11).toInt = (τ 152 0).toInt + 2 * (τ 152 1).toInt) ∧ ZZ τ) → Xd G s H lc τ → lv_has ls 7 [(0, .ref b), (1, .ref (G.2.2.2.1 0)), (2, .ref (G.2.2.2.1 131)), (3, .ref (G.2.2.2.1 153)), (4, .int i)] → W p l e room_1 s m #[Value.ref b] below meth c H lc (cells + 1) (slots + 6) Q (F0 m 1291 ls [])) : W p l e room_1 s m #[Value.ref b] below meth c H lc cells slots Q (F0 m 952 ls []) := by
  obtain ⟨hA1, hA2⟩ := hlen.1
  have hZZ := hlen.2
  have rl : R 0 940 (τ 1 1) := rd (K := 1) hJ.1 rfl rfl
  have ri : R 0 3072 i := ⟨by omega, by omega⟩
  refine r_aload_n S dL_law_952 rfl (lv_at hl 1 rfl) ?_
  refine r_aload_n S dL_law_953 rfl (lv_at hl 0 rfl) ?_
  refine r_iload S dL_law_954 (lv_at hl 4 rfl) ?_
  refine r_iconst S dL_law_956 (by decide) (fun v1 z2 => ?_)
  refine r_iadd S dL_law_957 (fun v3 z4 => ?_)
  obtain ⟨e5, r6⟩ := i_add (lo := 1) (hi := 3073) z4 ri (R_eq z2) rfl
  refine va_sld S.1.1 S.1.2.1 hX hbl hbA X.2 (vp_in_iff.mpr ⟨by omega, by omega⟩) dL_law_958 ?_
  refine lv_topi (fun y7 z8 => ?_)
  refine r_ki (q_V (As := [.int y7]) (rest := []) (K := 0) (ci := 9) S X (c_X11_doubters l G τ hJ.1 y7 (R_any _) hJ.2.1 ) ckL_148 (Nat.le_of_ble_eq_true rfl) rfl (fun _ => ⟨_, rfl⟩) ⟨_, _, rfl⟩ ⟨Nat.le_of_ble_eq_true rfl, Nat.le_of_ble_eq_true rfl⟩ rfl hl.1 rfl (Nat.le_of_ble_eq_true rfl) dL_law_959 ⟨by show _ ≤ 601024; omega, by show _ ≤ 7293034; omega⟩) X (fun r9 t10 H lc q11 X => ?_)
  obtain ⟨k14, k15, k16⟩ := k_X11_doubters q11
  obtain ⟨hJ, e13, n12⟩ := j_X11_doubters hJ q11
  have h17 := congrArg Int32.toInt e13
  have h18 := congrArg Int32.toInt n12
  refine r_pop S dL_law_962 rfl ?_
  refine r_aload_n S dL_law_963 rfl (lv_at hl 2 rfl) ?_
  refine r_aload_n S dL_law_964 rfl (lv_at hl 0 rfl) ?_
  refine r_iload S dL_law_965 (lv_at hl 4 rfl) ?_
  refine r_iconst S dL_law_967 (by decide) (fun v19 z20 => ?_)
  refine r_iadd S dL_law_968 (fun v21 z22 => ?_)
  obtain ⟨e23, r24⟩ := i_add (lo := 1) (hi := 3073) z22 ri (R_eq z20) rfl
  refine va_sld S.1.1 S.1.2.1 hX hbl hbA X.2 (vp_in_iff.mpr ⟨by omega, by omega⟩) dL_law_969 ?_
  refine lv_topi (fun y25 z26 => ?_)
  have h27 : y7 = y25 := (show y25 = y7 by rw [z26, z8, show v21 = v3 from Int32.toInt_inj.mp (by omega)]).symm
  subst h27
  refine r_ki (q_V (As := [.int y7]) (rest := []) (K := 38) (ci := 10) S X (c_X12_doubters l G t10 hJ.1 y7 (R_any _)  ) ckL_151 (Nat.le_of_ble_eq_true rfl) rfl (fun _ => ⟨_, rfl⟩) ⟨_, _, rfl⟩ ⟨Nat.le_of_ble_eq_true rfl, Nat.le_of_ble_eq_true rfl⟩ rfl hl.1 rfl (Nat.le_of_ble_eq_true rfl) dL_law_970 ⟨by show _ ≤ 601024; omega, by show _ ≤ 7293034; omega⟩) X (fun r28 t29 H lc q30 X => ?_)
  obtain ⟨k33, k34, k35⟩ := k_X12_doubters q30
  obtain ⟨hJ, e32, n31⟩ := j_X12_doubters hJ q30
  have h36 := congrArg Int32.toInt e32
  have h37 := congrArg Int32.toInt n31
  refine r_pop S dL_law_973 rfl ?_
  refine r_goto (tgt := 1291) S dL_law_974 (by decide) ?_
  refine w_widen (k := cells + 1) (n := slots + 6) (by omega) (by omega) ?_
  exact kk H lc ls t29 hJ ⟨⟨by omega, by omega⟩, ZZ_kp hZZ (zk_X11_doubters q11) (zk_X12_doubters q30) (by decide) (by omega)⟩ X (lv_sub hl [0, 1, 2, 3, 4] rfl)
set_option maxHeartbeats 8000000 in
set_option maxRecDepth 100000 in
theorem lc_jokes {p : Program} {l : Launch} {e : Env} {s : State} {m : MethodId} {below : List Frame} {meth : Method} {c : Code} {b L : Nat} {xs : Nat → Int32} {G : Gx} {Q : State → Prop} (hst : l.stackTraces = false) (S : Sx G p m c code 7 s #[Value.ref b] RL) (hZ : Zs G s) (hX : va_X b L xs s s.heap) (hbl : b < s.heap.size) (hbA : ¬ G.2.2.2.2 b) (hL : L ≤ 3072) {H : Heap} {lc : List Loc} {ls : Array Slot} {τ : Tau} {cells slots : Nat} {i : Int32} (hi : 0 ≤ i.toInt ∧ i.toInt + 6 ≤ L) (hR : cells + 1 ≤ 601024 ∧ slots + 6 ≤ 7293034) (hJ : JJ τ) (hlen : ((τ 1 1).toInt = (τ 131 2).toInt ∧ (τ 0 11).toInt = (τ 152 0).toInt + 2 * (τ 152 1).toInt) ∧ ZZ τ) (X : Xd G s H lc τ) (hl : lv_has ls 7 [(0, .ref b), (1, .ref (G.2.2.2.1 0)), (2, .ref (G.2.2.2.1 131)), (3, .ref (G.2.2.2.1 153)), (4, .int i)]) (kk : ∀ (H : Heap) (lc : List Loc) (ls : Array Slot) (τ : Tau), JJ τ → (((τ 1 1).toInt = (τ 131 2).toInt ∧ (τ 0 11).toInt = (τ 152 0).toInt + 2 * (τ 152 1).toInt) ∧ ZZ τ) → Xd G s H lc τ → lv_has ls 7 [(0, .ref b), (1, .ref (G.2.2.2.1 0)), (2, .ref (G.2.2.2.1 131)), (3, .ref (G.2.2.2.1 153)), (4, .int i)] → W p l e room_1 s m #[Value.ref b] below meth c H lc (cells + 1) (slots + 6) Q (F0 m 1291 ls [])) : W p l e room_1 s m #[Value.ref b] below meth c H lc cells slots Q (F0 m 977 ls []) := by
  obtain ⟨hA1, hA2⟩ := hlen.1
  have hZZ := hlen.2
  have rl : R 0 940 (τ 1 1) := rd (K := 1) hJ.1 rfl rfl
  have ri : R 0 3072 i := ⟨by omega, by omega⟩
  refine r_aload_n S dL_law_977 rfl (lv_at hl 1 rfl) ?_
  refine r_aload_n S dL_law_978 rfl (lv_at hl 0 rfl) ?_
  refine r_iload S dL_law_979 (lv_at hl 4 rfl) ?_
  refine r_iconst S dL_law_981 (by decide) (fun v1 z2 => ?_)
  refine r_iadd S dL_law_982 (fun v3 z4 => ?_)
  obtain ⟨e5, r6⟩ := i_add (lo := 1) (hi := 3073) z4 ri (R_eq z2) rfl
  refine va_sld S.1.1 S.1.2.1 hX hbl hbA X.2 (vp_in_iff.mpr ⟨by omega, by omega⟩) dL_law_983 ?_
  refine lv_topi (fun y7 z8 => ?_)
  refine r_aload_n S dL_law_984 rfl (lv_at hl 0 rfl) ?_
  refine r_iload S dL_law_985 (lv_at hl 4 rfl) ?_
  refine r_iconst S dL_law_987 (by decide) (fun v9 z10 => ?_)
  refine r_iadd S dL_law_988 (fun v11 z12 => ?_)
  obtain ⟨e13, r14⟩ := i_add (lo := 2) (hi := 3074) z12 ri (R_eq z10) rfl
  refine va_sld S.1.1 S.1.2.1 hX hbl hbA X.2 (vp_in_iff.mpr ⟨by omega, by omega⟩) dL_law_989 ?_
  refine lv_topi (fun y15 z16 => ?_)
  refine r_aload_n S dL_law_990 rfl (lv_at hl 3 rfl) ?_
  refine r_kl (q_SW (As := [.ref (G.2.2.2.1 0), .int y7, .int y15, .ref (G.2.2.2.1 153)]) (rest := []) S hZ X (c_L_jokes l hst G τ hJ.1 y7 y15 hJ.2.1) ckW_152 ⟨Nat.le_of_ble_eq_true rfl, Nat.le_of_ble_eq_true rfl⟩ rfl hl.1 rfl (Nat.le_of_ble_eq_true rfl) dL_law_991 ⟨by show _ ≤ 601024; omega, by show _ ≤ 7293034; omega⟩) X (fun r17 t18 H lc q19 X => ?_)
  obtain ⟨k20, k21, k22⟩ := k_thr q19
  obtain ⟨hJ, e23, e24⟩ := j_thr hJ q19
  have h25 := congrArg Int32.toInt e23
  have h26 := congrArg Int32.toInt e24
  refine r_istore (lv' := [(5, .int r17), (0, .ref b), (1, .ref (G.2.2.2.1 0)), (2, .ref (G.2.2.2.1 131)), (3, .ref (G.2.2.2.1 153)), (4, .int i)]) S dL_law_994 hl (by decide) rfl (fun ls hl => ?_)
  refine r_aload_n S dL_law_996 rfl (lv_at hl 3 rfl) ?_
  refine r_aload_n S dL_law_997 rfl (lv_at hl 1 rfl) ?_
  refine r_iload S dL_law_998 (lv_at hl 5 rfl) ?_
  refine r_iconst S dL_law_1000 (by decide) (fun v27 z28 => ?_)
  refine r_iadd S dL_law_1001 (fun v29 z30 => ?_)
  obtain ⟨e31, r32⟩ := i_add (lo := 1) (hi := 3073) z30 ri (R_eq z28) rfl
  refine va_sld S.1.1 S.1.2.1 hX hbl hbA X.2 (vp_in_iff.mpr ⟨by omega, by omega⟩) dL_law_1002 ?_
  refine lv_topi (fun y33 z34 => ?_)
  have h35 : y7 = y33 := (show y33 = y7 by rw [z34, z8, show v29 = v3 from Int32.toInt_inj.mp (by omega)]).symm
  subst h35
  refine r_aload_n S dL_law_1003 rfl (lv_at hl 1 rfl) ?_
  refine r_iload S dL_law_1004 (lv_at hl 5 rfl) ?_
  refine r_iconst S dL_law_1006 (by decide) (fun v36 z37 => ?_)
  refine r_iadd S dL_law_1007 (fun v38 z39 => ?_)
  obtain ⟨e40, r41⟩ := i_add (lo := 2) (hi := 3074) z39 ri (R_eq z37) rfl
  refine va_sld S.1.1 S.1.2.1 hX hbl hbA X.2 (vp_in_iff.mpr ⟨by omega, by omega⟩) dL_law_1008 ?_
  refine lv_topi (fun y42 z43 => ?_)
  have h44 : y15 = y42 := (show y42 = y15 by rw [z43, z16, show v38 = v11 from Int32.toInt_inj.mp (by omega)]).symm
  subst h44
  refine r_ki (q_V (As := [.int y7, .int y15]) (rest := []) (K := 38) (ci := 10) S X (c_X12_jokes l G t18 hJ.1 y7 y15 (R_any _) (R_any _)  ) ckL_154 (Nat.le_of_ble_eq_true rfl) rfl (fun _ => ⟨_, rfl⟩) ⟨_, _, rfl⟩ ⟨Nat.le_of_ble_eq_true rfl, Nat.le_of_ble_eq_true rfl⟩ rfl hl.1 rfl (Nat.le_of_ble_eq_true rfl) dL_law_1009 ⟨by show _ ≤ 601024; omega, by show _ ≤ 7293034; omega⟩) X (fun r45 t46 H lc q47 X => ?_)
  obtain ⟨k50, k51, k52⟩ := k_X12_jokes q47
  obtain ⟨hJ, e49, n48⟩ := j_X12_jokes hJ q47
  have h53 := congrArg Int32.toInt e49
  have h54 := congrArg Int32.toInt n48
  refine r_istore (lv' := [(6, .int r45), (5, .int r17), (0, .ref b), (1, .ref (G.2.2.2.1 0)), (2, .ref (G.2.2.2.1 131)), (3, .ref (G.2.2.2.1 153)), (4, .int i)]) S dL_law_1012 hl (by decide) rfl (fun ls hl => ?_)
  refine r_goto (tgt := 1291) S dL_law_1014 (by decide) ?_
  exact kk H lc ls t46 hJ ⟨⟨by omega, by omega⟩, ZZ_kp hZZ (zk_thr q19) (zk_X12_jokes q47) (by decide) (by omega)⟩ X (lv_sub hl [2, 3, 4, 5, 6] rfl)
