def po_X11_bit (τ : Tau)  (a0 a1 : Int32) (r : Int32) (u : Tau) : Prop := u = τ ∧ R (0) (1) r
set_option maxHeartbeats 4000000 in
set_option maxRecDepth 100000 in
theorem c_X11_bit (l : Launch) (G : Gx) (τ : Tau) (hI : Inv τ) (a0 : Int32) (a1 : Int32) (h_a0 : R (-2147483648) (2147483647) a0) (h_a1 : R (-2147483648) (2147483647) a1) : Ci l G yX11_bit cX11_bit 2 (some .int) 0 0 [.int a0, .int a1] τ (po_X11_bit τ  a0 a1) := by
  unfold Ci
  refine C_of (own := RX11) (by decide) rfl (Nat.le_of_ble_eq_true rfl) ?_
  intro p e s m below meth c ls S hr hlk X hl
  have hl : lv_has ls 2 [(0, .int a0), (1, .int a1)] := hl
  refine r_iload_n S dX11_bit_0 rfl (lv_at hl 0 rfl) ?_
  refine r_iload_n S dX11_bit_1 rfl (lv_at hl 1 rfl) ?_
  refine r_ishr S dX11_bit_2 (fun v1 z2 => ?_)
  have r3 := R_any v1
  refine r_iconst S dX11_bit_3 (by decide) (fun v4 z5 => ?_)
  have r6 := R_eq z5
  refine r_iand S dX11_bit_4 (fun v7 z8 => ?_)
  have r10 : R (0) (1) v7 := i_and2 z8 r3 r6 rfl
  exact r_ret S hr hlk X ⟨rfl, r10⟩ rfl dX11_bit_5
def po_J6_bitCount_0f7a4 (τ : Tau)  (a0 : Int32) (r : Int32) (u : Tau) : Prop := u = τ ∧ R (0) (63) r
set_option maxHeartbeats 4000000 in
set_option maxRecDepth 100000 in
theorem c_J6_bitCount_0f7a4 (l : Launch) (G : Gx) (τ : Tau) (hI : Inv τ) (a0 : Int32) (h_a0 : R (-2147483648) (2147483647) a0) : Ci l G yJ6_bitCount_0f7a4 cJ6_bitCount_0f7a4 1 (some .int) 0 0 [.int a0] τ (po_J6_bitCount_0f7a4 τ  a0) := by
  unfold Ci
  refine C_of (own := RJ6) (by decide) rfl (Nat.le_of_ble_eq_true rfl) ?_
  intro p e s m below meth c ls S hr hlk X hl
  have hl : lv_has ls 1 [(0, .int a0)] := hl
  refine r_iload_n S dJ6_bitCount_0f7a4_0 rfl (lv_at hl 0 rfl) ?_
  refine r_iload_n S dJ6_bitCount_0f7a4_1 rfl (lv_at hl 0 rfl) ?_
  refine r_iconst S dJ6_bitCount_0f7a4_2 (by decide) (fun v1 z2 => ?_)
  have r3 := R_eq z2
  refine r_iushr S dJ6_bitCount_0f7a4_3 (fun v4 z5 => ?_)
  have r7 : R (0) (2147483647) v4 := i_ushrc z5 h_a0 r3 rfl
  refine lv_ldcw S.1.1 S.1.2.1 S.1.2.2.2.1 (S.1.2.2.2.2 _ kw0) dJ6_bitCount_0f7a4_4 ?_
  refine lv_topi (fun v8 z9 => ?_)
  have r10 : R (1431655765) (1431655765) v8 := by rw [z9]; decide
  have e11 : v8.toInt = 1431655765 := by omega
  refine r_iand S dJ6_bitCount_0f7a4_7 (fun v12 z13 => ?_)
  have r15 : R (0) (1431655765) v12 := i_and2 z13 r7 r10 rfl
  have e16 := i_andle z13 r7 rfl
  refine r_isub S dJ6_bitCount_0f7a4_8 (fun v17 z18 => ?_)
  have r19 := R_any v17
  refine r_istore_n (lv' := [(0, .int v17)]) S dJ6_bitCount_0f7a4_9 rfl hl (by decide) rfl (fun ls hl => ?_)
  refine r_iload_n S dJ6_bitCount_0f7a4_10 rfl (lv_at hl 0 rfl) ?_
  refine lv_ldcw S.1.1 S.1.2.1 S.1.2.2.2.1 (S.1.2.2.2.2 _ kw1) dJ6_bitCount_0f7a4_11 ?_
  refine lv_topi (fun v20 z21 => ?_)
  have r22 : R (858993459) (858993459) v20 := by rw [z21]; decide
  have e23 : v20.toInt = 858993459 := by omega
  refine r_iand S dJ6_bitCount_0f7a4_14 (fun v24 z25 => ?_)
  have r27 : R (0) (858993459) v24 := i_and2 z25 r19 r22 rfl
  refine r_iload_n S dJ6_bitCount_0f7a4_15 rfl (lv_at hl 0 rfl) ?_
  refine r_iconst S dJ6_bitCount_0f7a4_16 (by decide) (fun v28 z29 => ?_)
  have r30 := R_eq z29
  refine r_iushr S dJ6_bitCount_0f7a4_17 (fun v31 z32 => ?_)
  have r34 : R (0) (1073741823) v31 := i_ushrc z32 r19 r30 rfl
  refine lv_ldcw S.1.1 S.1.2.1 S.1.2.2.2.1 (S.1.2.2.2.2 _ kw1) dJ6_bitCount_0f7a4_18 ?_
  refine lv_topi (fun v35 z36 => ?_)
  have r37 : R (858993459) (858993459) v35 := by rw [z36]; decide
  have e38 : v35.toInt = 858993459 := by omega
  refine r_iand S dJ6_bitCount_0f7a4_21 (fun v39 z40 => ?_)
  have r42 : R (0) (858993459) v39 := i_and2 z40 r34 r37 rfl
  have e43 := i_andle z40 r34 rfl
  refine r_iadd S dJ6_bitCount_0f7a4_22 (fun v44 z45 => ?_)
  obtain ⟨e46, r47⟩ := i_add (lo := 0) (hi := 1717986918) z45 r27 r42 rfl
  refine r_istore_n (lv' := [(0, .int v44)]) S dJ6_bitCount_0f7a4_23 rfl hl (by decide) rfl (fun ls hl => ?_)
  refine r_iload_n S dJ6_bitCount_0f7a4_24 rfl (lv_at hl 0 rfl) ?_
  refine r_iload_n S dJ6_bitCount_0f7a4_25 rfl (lv_at hl 0 rfl) ?_
  refine r_iconst S dJ6_bitCount_0f7a4_26 (by decide) (fun v48 z49 => ?_)
  have r50 := R_eq z49
  refine r_iushr S dJ6_bitCount_0f7a4_27 (fun v51 z52 => ?_)
  have r54 : R (0) (1717986918) v51 := i_ushr z52 r47 r50 rfl
  refine r_iadd S dJ6_bitCount_0f7a4_28 (fun v55 z56 => ?_)
  have r57 := R_any v55
  refine lv_ldcw S.1.1 S.1.2.1 S.1.2.2.2.1 (S.1.2.2.2.2 _ kw2) dJ6_bitCount_0f7a4_29 ?_
  refine lv_topi (fun v58 z59 => ?_)
  have r60 : R (252645135) (252645135) v58 := by rw [z59]; decide
  have e61 : v58.toInt = 252645135 := by omega
  refine r_iand S dJ6_bitCount_0f7a4_32 (fun v62 z63 => ?_)
  have r65 : R (0) (252645135) v62 := i_and2 z63 r57 r60 rfl
  refine r_istore_n (lv' := [(0, .int v62)]) S dJ6_bitCount_0f7a4_33 rfl hl (by decide) rfl (fun ls hl => ?_)
  refine r_iload_n S dJ6_bitCount_0f7a4_34 rfl (lv_at hl 0 rfl) ?_
  refine r_iload_n S dJ6_bitCount_0f7a4_35 rfl (lv_at hl 0 rfl) ?_
  refine r_bipush S dJ6_bitCount_0f7a4_36 (by decide) (fun v66 z67 => ?_)
  have r68 := R_eq z67
  refine r_iushr S dJ6_bitCount_0f7a4_38 (fun v69 z70 => ?_)
  have r72 : R (0) (252645135) v69 := i_ushr z70 r65 r68 rfl
  refine r_iadd S dJ6_bitCount_0f7a4_39 (fun v73 z74 => ?_)
  obtain ⟨e75, r76⟩ := i_add (lo := 0) (hi := 505290270) z74 r65 r72 rfl
  refine r_istore_n (lv' := [(0, .int v73)]) S dJ6_bitCount_0f7a4_40 rfl hl (by decide) rfl (fun ls hl => ?_)
  refine r_iload_n S dJ6_bitCount_0f7a4_41 rfl (lv_at hl 0 rfl) ?_
  refine r_iload_n S dJ6_bitCount_0f7a4_42 rfl (lv_at hl 0 rfl) ?_
  refine r_bipush S dJ6_bitCount_0f7a4_43 (by decide) (fun v77 z78 => ?_)
  have r79 := R_eq z78
  refine r_iushr S dJ6_bitCount_0f7a4_45 (fun v80 z81 => ?_)
  have r83 : R (0) (505290270) v80 := i_ushr z81 r76 r79 rfl
  refine r_iadd S dJ6_bitCount_0f7a4_46 (fun v84 z85 => ?_)
  obtain ⟨e86, r87⟩ := i_add (lo := 0) (hi := 1010580540) z85 r76 r83 rfl
  refine r_istore_n (lv' := [(0, .int v84)]) S dJ6_bitCount_0f7a4_47 rfl hl (by decide) rfl (fun ls hl => ?_)
  refine r_iload_n S dJ6_bitCount_0f7a4_48 rfl (lv_at hl 0 rfl) ?_
  refine r_bipush S dJ6_bitCount_0f7a4_49 (by decide) (fun v88 z89 => ?_)
  have r90 := R_eq z89
  refine r_iand S dJ6_bitCount_0f7a4_51 (fun v91 z92 => ?_)
  have r94 : R (0) (63) v91 := i_and2 z92 r87 r90 rfl
  have e95 := i_andle z92 r87 rfl
  exact r_ret S hr hlk X ⟨rfl, r94⟩ rfl dJ6_bitCount_0f7a4_52
def po_fill_parent (τ : Tau) (k : Nat) (a1 : Int32) (u : Tau) : Prop := Inv u ∧ Fr [] [k] τ u
set_option maxHeartbeats 4000000 in
set_option maxRecDepth 100000 in
theorem c_fill_parent (l : Launch) (G : Gx) (τ : Tau) (hI : Inv τ) (k : Nat) (hk_k : k < NC) (hkd_k : kd k = 6) (a1 : Int32) (h_a1 : R (-1) (9) a1) : Cv l G yJ7_fill_53178 cJ7_fill_53178 4 0 0 [.ref (G.2.2.2.1 k), .int a1] τ (po_fill_parent τ k a1) := by
  unfold Cv
  refine C_of (own := RJ7) (by decide) rfl (Nat.le_of_ble_eq_true rfl) ?_
  intro p e s m below meth c ls S hr hlk X hl
  have hl : lv_has ls 4 [(0, .ref (G.2.2.2.1 k)), (1, .int a1)] := hl
  refine r_iconst S dJ7_fill_53178_0 (by decide) (fun v1 z2 => ?_)
  have r3 := R_eq z2
  refine r_istore_n (lv' := [(2, .int v1), (0, .ref (G.2.2.2.1 k)), (1, .int a1)]) S dJ7_fill_53178_1 rfl hl (by decide) rfl (fun ls hl => ?_)
  refine r_aload_n S dJ7_fill_53178_2 rfl (lv_at hl 1 rfl) ?_
  refine r_alen (x := (0, .inl fun _ => 0)) (n := 10) (K := 6) (t0 := 0) S X hk_k hkd_k (fun _ => ⟨_, rfl⟩) rfl (by decide) dJ7_fill_53178_3 (fun v4 z5 => ?_)
  have r6 := R_eq z5
  refine r_istore_n (lv' := [(3, .int v4), (2, .int v1), (0, .ref (G.2.2.2.1 k)), (1, .int a1)]) S dJ7_fill_53178_4 rfl hl (by decide) rfl (fun ls hl => ?_)
  have L156 : ∀ (n : Nat) (t152 : Tau) (H : Heap) (lc : List Loc) (ls : Array Slot) (i150 : Int32), Xd G s H lc t152 → Inv t152 → Fr [] [k] τ t152 → R (0) (10) i150 → lv_has ls 4 [(0, .ref (G.2.2.2.1 k)), (1, .int a1), (2, .int i150), (3, .int v4)] → (10 - i150.toInt).toNat < n → W p l e (Rm 0 0) s m ([.ref (G.2.2.2.1 k), .int a1] : List Value).toArray below meth c H lc 0 0 (MQ below (va_Qv (po_fill_parent τ k a1) (Bs G) G.2.2.2.2) ([.ref (G.2.2.2.1 k), .int a1] : List Value).toArray s 0 0 G.2.2.2.2) (F0 m 5 ls []) := by
    intro n
    induction n with
    | zero => intros; omega
    | succ n ih157 =>
      intro t152 H lc ls i150 X155 I153 F154 r151 hl hm
      refine r_iload_n S dJ7_fill_53178_5 rfl (lv_at hl 2 rfl) ?_
      refine r_iload_n S dJ7_fill_53178_6 rfl (lv_at hl 3 rfl) ?_
      refine r_icmp_ge (tgt := 20) S dJ7_fill_53178_7 (by decide) (fun c158 => ?_) (fun c158 => ?_)
      ·
        have r159 : R (10) (10) i150 := ⟨by omega, by omega⟩
        exact r_vret S hr hlk X155 ⟨I153, F154⟩ dJ7_fill_53178_20
      ·
        have r160 : R (0) (9) i150 := ⟨by omega, by omega⟩
        refine r_aload_n S dJ7_fill_53178_10 rfl (lv_at hl 0 rfl) ?_
        refine r_iload_n S dJ7_fill_53178_11 rfl (lv_at hl 2 rfl) ?_
        refine r_iload_n S dJ7_fill_53178_12 rfl (lv_at hl 1 rfl) ?_
        refine r_ast (n := 10) (K := 6) S X155 hk_k hkd_k (fun _ _ => rfl) (ix_of r160 rfl) dJ7_fill_53178_13 (fun t161 H lc M162 X163 => ?_)
        have I164 := Inv_mu I153 M162 (show Rg (kd k) _ a1 from by rw [hkd_k]; exact (R_of (lo := -1) (hi := 9) h_a1 rfl))
        have F165 : Fr [] [k] τ t161 := Fr_cell F154 M162 (by simp [fz])
        refine r_iinc (k := 2) S dJ7_fill_53178_14 hl rfl (by decide) (by decide) (fun v166 d167 ls z168 z169 hl => ?_)
        obtain ⟨e170, r171⟩ := i_add (lo := 1) (hi := 10) z168 r160 (R_eq z169) rfl
        have hl : lv_has ls 4 [(2, .int v166), (0, .ref (G.2.2.2.1 k)), (1, .int a1), (3, .int v4)] := hl
        refine r_goto (tgt := 5) S dJ7_fill_53178_17 (by decide) ?_
        exact ih157 t161 _ _ _ v166 X163 I164 F165 (R_of r171 rfl) (lv_sub hl [1, 2, 0, 3] rfl) (by omega)
  exact L156 _ τ _ _ _ v1 X hI Fr_rfl (R_of r3 rfl) (lv_sub hl [2, 3, 1, 0] rfl) (Nat.lt_succ_self _)
def po_fill_kin (τ : Tau) (k : Nat) (a1 : Int32) (u : Tau) : Prop := Inv u ∧ Fr [] [k] τ u
set_option maxHeartbeats 4000000 in
set_option maxRecDepth 100000 in
theorem c_fill_kin (l : Launch) (G : Gx) (τ : Tau) (hI : Inv τ) (k : Nat) (hk_k : k < NC) (hkd_k : kd k = 7) (a1 : Int32) (h_a1 : R (0) (1023) a1) : Cv l G yJ7_fill_53178 cJ7_fill_53178 4 0 0 [.ref (G.2.2.2.1 k), .int a1] τ (po_fill_kin τ k a1) := by
  unfold Cv
  refine C_of (own := RJ7) (by decide) rfl (Nat.le_of_ble_eq_true rfl) ?_
  intro p e s m below meth c ls S hr hlk X hl
  have hl : lv_has ls 4 [(0, .ref (G.2.2.2.1 k)), (1, .int a1)] := hl
  refine r_iconst S dJ7_fill_53178_0 (by decide) (fun v1 z2 => ?_)
  have r3 := R_eq z2
  refine r_istore_n (lv' := [(2, .int v1), (0, .ref (G.2.2.2.1 k)), (1, .int a1)]) S dJ7_fill_53178_1 rfl hl (by decide) rfl (fun ls hl => ?_)
  refine r_aload_n S dJ7_fill_53178_2 rfl (lv_at hl 1 rfl) ?_
  refine r_alen (x := (0, .inl fun _ => 0)) (n := 10) (K := 7) (t0 := 0) S X hk_k hkd_k (fun _ => ⟨_, rfl⟩) rfl (by decide) dJ7_fill_53178_3 (fun v4 z5 => ?_)
  have r6 := R_eq z5
  refine r_istore_n (lv' := [(3, .int v4), (2, .int v1), (0, .ref (G.2.2.2.1 k)), (1, .int a1)]) S dJ7_fill_53178_4 rfl hl (by decide) rfl (fun ls hl => ?_)
  have L156 : ∀ (n : Nat) (t152 : Tau) (H : Heap) (lc : List Loc) (ls : Array Slot) (i150 : Int32), Xd G s H lc t152 → Inv t152 → Fr [] [k] τ t152 → R (0) (10) i150 → lv_has ls 4 [(0, .ref (G.2.2.2.1 k)), (1, .int a1), (2, .int i150), (3, .int v4)] → (10 - i150.toInt).toNat < n → W p l e (Rm 0 0) s m ([.ref (G.2.2.2.1 k), .int a1] : List Value).toArray below meth c H lc 0 0 (MQ below (va_Qv (po_fill_kin τ k a1) (Bs G) G.2.2.2.2) ([.ref (G.2.2.2.1 k), .int a1] : List Value).toArray s 0 0 G.2.2.2.2) (F0 m 5 ls []) := by
    intro n
    induction n with
    | zero => intros; omega
    | succ n ih157 =>
      intro t152 H lc ls i150 X155 I153 F154 r151 hl hm
      refine r_iload_n S dJ7_fill_53178_5 rfl (lv_at hl 2 rfl) ?_
      refine r_iload_n S dJ7_fill_53178_6 rfl (lv_at hl 3 rfl) ?_
      refine r_icmp_ge (tgt := 20) S dJ7_fill_53178_7 (by decide) (fun c158 => ?_) (fun c158 => ?_)
      ·
        have r159 : R (10) (10) i150 := ⟨by omega, by omega⟩
        exact r_vret S hr hlk X155 ⟨I153, F154⟩ dJ7_fill_53178_20
      ·
        have r160 : R (0) (9) i150 := ⟨by omega, by omega⟩
        refine r_aload_n S dJ7_fill_53178_10 rfl (lv_at hl 0 rfl) ?_
        refine r_iload_n S dJ7_fill_53178_11 rfl (lv_at hl 2 rfl) ?_
        refine r_iload_n S dJ7_fill_53178_12 rfl (lv_at hl 1 rfl) ?_
        refine r_ast (n := 10) (K := 7) S X155 hk_k hkd_k (fun _ _ => rfl) (ix_of r160 rfl) dJ7_fill_53178_13 (fun t161 H lc M162 X163 => ?_)
        have I164 := Inv_mu I153 M162 (show Rg (kd k) _ a1 from by rw [hkd_k]; exact (R_of (lo := 0) (hi := 1023) h_a1 rfl))
        have F165 : Fr [] [k] τ t161 := Fr_cell F154 M162 (by simp [fz])
        refine r_iinc (k := 2) S dJ7_fill_53178_14 hl rfl (by decide) (by decide) (fun v166 d167 ls z168 z169 hl => ?_)
        obtain ⟨e170, r171⟩ := i_add (lo := 1) (hi := 10) z168 r160 (R_eq z169) rfl
        have hl : lv_has ls 4 [(2, .int v166), (0, .ref (G.2.2.2.1 k)), (1, .int a1), (3, .int v4)] := hl
        refine r_goto (tgt := 5) S dJ7_fill_53178_17 (by decide) ?_
        exact ih157 t161 _ _ _ v166 X163 I164 F165 (R_of r171 rfl) (lv_sub hl [1, 2, 0, 3] rfl) (by omega)
  exact L156 _ τ _ _ _ v1 X hI Fr_rfl (R_of r3 rfl) (lv_sub hl [2, 3, 1, 0] rfl) (Nat.lt_succ_self _)
def po_fill_opinion (τ : Tau) (k : Nat) (a1 : Int32) (u : Tau) : Prop := Inv u ∧ Fr [] [k] τ u
set_option maxHeartbeats 4000000 in
set_option maxRecDepth 100000 in
theorem c_fill_opinion (l : Launch) (G : Gx) (τ : Tau) (hI : Inv τ) (k : Nat) (hk_k : k < NC) (hkd_k : kd k = 8) (a1 : Int32) (h_a1 : R (-9) (9) a1) : Cv l G yJ7_fill_53178 cJ7_fill_53178 4 0 0 [.ref (G.2.2.2.1 k), .int a1] τ (po_fill_opinion τ k a1) := by
  unfold Cv
  refine C_of (own := RJ7) (by decide) rfl (Nat.le_of_ble_eq_true rfl) ?_
  intro p e s m below meth c ls S hr hlk X hl
  have hl : lv_has ls 4 [(0, .ref (G.2.2.2.1 k)), (1, .int a1)] := hl
  refine r_iconst S dJ7_fill_53178_0 (by decide) (fun v1 z2 => ?_)
  have r3 := R_eq z2
  refine r_istore_n (lv' := [(2, .int v1), (0, .ref (G.2.2.2.1 k)), (1, .int a1)]) S dJ7_fill_53178_1 rfl hl (by decide) rfl (fun ls hl => ?_)
  refine r_aload_n S dJ7_fill_53178_2 rfl (lv_at hl 1 rfl) ?_
  refine r_alen (x := (0, .inl fun _ => 0)) (n := 90) (K := 8) (t0 := 0) S X hk_k hkd_k (fun _ => ⟨_, rfl⟩) rfl (by decide) dJ7_fill_53178_3 (fun v4 z5 => ?_)
  have r6 := R_eq z5
  refine r_istore_n (lv' := [(3, .int v4), (2, .int v1), (0, .ref (G.2.2.2.1 k)), (1, .int a1)]) S dJ7_fill_53178_4 rfl hl (by decide) rfl (fun ls hl => ?_)
  have L318 : ∀ (n : Nat) (t314 : Tau) (H : Heap) (lc : List Loc) (ls : Array Slot) (i312 : Int32), Xd G s H lc t314 → Inv t314 → Fr [] [k] τ t314 → R (0) (90) i312 → lv_has ls 4 [(0, .ref (G.2.2.2.1 k)), (1, .int a1), (2, .int i312), (3, .int v4)] → (90 - i312.toInt).toNat < n → W p l e (Rm 0 0) s m ([.ref (G.2.2.2.1 k), .int a1] : List Value).toArray below meth c H lc 0 0 (MQ below (va_Qv (po_fill_opinion τ k a1) (Bs G) G.2.2.2.2) ([.ref (G.2.2.2.1 k), .int a1] : List Value).toArray s 0 0 G.2.2.2.2) (F0 m 5 ls []) := by
    intro n
    induction n with
    | zero => intros; omega
    | succ n ih319 =>
      intro t314 H lc ls i312 X317 I315 F316 r313 hl hm
      refine r_iload_n S dJ7_fill_53178_5 rfl (lv_at hl 2 rfl) ?_
      refine r_iload_n S dJ7_fill_53178_6 rfl (lv_at hl 3 rfl) ?_
      refine r_icmp_ge (tgt := 20) S dJ7_fill_53178_7 (by decide) (fun c320 => ?_) (fun c320 => ?_)
      ·
        have r321 : R (90) (90) i312 := ⟨by omega, by omega⟩
        exact r_vret S hr hlk X317 ⟨I315, F316⟩ dJ7_fill_53178_20
      ·
        have r322 : R (0) (89) i312 := ⟨by omega, by omega⟩
        refine r_aload_n S dJ7_fill_53178_10 rfl (lv_at hl 0 rfl) ?_
        refine r_iload_n S dJ7_fill_53178_11 rfl (lv_at hl 2 rfl) ?_
        refine r_iload_n S dJ7_fill_53178_12 rfl (lv_at hl 1 rfl) ?_
        refine r_ast (n := 90) (K := 8) S X317 hk_k hkd_k (fun _ _ => rfl) (ix_of r322 rfl) dJ7_fill_53178_13 (fun t323 H lc M324 X325 => ?_)
        have I326 := Inv_mu I315 M324 (show Rg (kd k) _ a1 from by rw [hkd_k]; exact (R_of (lo := -9) (hi := 9) h_a1 rfl))
        have F327 : Fr [] [k] τ t323 := Fr_cell F316 M324 (by simp [fz])
        refine r_iinc (k := 2) S dJ7_fill_53178_14 hl rfl (by decide) (by decide) (fun v328 d329 ls z330 z331 hl => ?_)
        obtain ⟨e332, r333⟩ := i_add (lo := 1) (hi := 90) z330 r322 (R_eq z331) rfl
        have hl : lv_has ls 4 [(2, .int v328), (0, .ref (G.2.2.2.1 k)), (1, .int a1), (3, .int v4)] := hl
        refine r_goto (tgt := 5) S dJ7_fill_53178_17 (by decide) ?_
        exact ih319 t323 _ _ _ v328 X325 I326 F327 (R_of r333 rfl) (lv_sub hl [1, 2, 0, 3] rfl) (by omega)
  exact L318 _ τ _ _ _ v1 X hI Fr_rfl (R_of r3 rfl) (lv_sub hl [2, 3, 1, 0] rfl) (Nat.lt_succ_self _)
def po_fill_lies (τ : Tau) (k : Nat) (a1 : Int32) (u : Tau) : Prop := Inv u ∧ Fr [] [k] τ u
set_option maxHeartbeats 4000000 in
set_option maxRecDepth 100000 in
theorem c_fill_lies (l : Launch) (G : Gx) (τ : Tau) (hI : Inv τ) (k : Nat) (hk_k : k < NC) (hkd_k : kd k = 26) (a1 : Int32) (h_a1 : R (0) (511) a1) : Cv l G yJ7_fill_53178 cJ7_fill_53178 4 0 0 [.ref (G.2.2.2.1 k), .int a1] τ (po_fill_lies τ k a1) := by
  unfold Cv
  refine C_of (own := RJ7) (by decide) rfl (Nat.le_of_ble_eq_true rfl) ?_
  intro p e s m below meth c ls S hr hlk X hl
  have hl : lv_has ls 4 [(0, .ref (G.2.2.2.1 k)), (1, .int a1)] := hl
  refine r_iconst S dJ7_fill_53178_0 (by decide) (fun v1 z2 => ?_)
  have r3 := R_eq z2
  refine r_istore_n (lv' := [(2, .int v1), (0, .ref (G.2.2.2.1 k)), (1, .int a1)]) S dJ7_fill_53178_1 rfl hl (by decide) rfl (fun ls hl => ?_)
  refine r_aload_n S dJ7_fill_53178_2 rfl (lv_at hl 1 rfl) ?_
  refine r_alen (x := (0, .inl fun _ => 0)) (n := 10) (K := 26) (t0 := 0) S X hk_k hkd_k (fun _ => ⟨_, rfl⟩) rfl (by decide) dJ7_fill_53178_3 (fun v4 z5 => ?_)
  have r6 := R_eq z5
  refine r_istore_n (lv' := [(3, .int v4), (2, .int v1), (0, .ref (G.2.2.2.1 k)), (1, .int a1)]) S dJ7_fill_53178_4 rfl hl (by decide) rfl (fun ls hl => ?_)
  have L156 : ∀ (n : Nat) (t152 : Tau) (H : Heap) (lc : List Loc) (ls : Array Slot) (i150 : Int32), Xd G s H lc t152 → Inv t152 → Fr [] [k] τ t152 → R (0) (10) i150 → lv_has ls 4 [(0, .ref (G.2.2.2.1 k)), (1, .int a1), (2, .int i150), (3, .int v4)] → (10 - i150.toInt).toNat < n → W p l e (Rm 0 0) s m ([.ref (G.2.2.2.1 k), .int a1] : List Value).toArray below meth c H lc 0 0 (MQ below (va_Qv (po_fill_lies τ k a1) (Bs G) G.2.2.2.2) ([.ref (G.2.2.2.1 k), .int a1] : List Value).toArray s 0 0 G.2.2.2.2) (F0 m 5 ls []) := by
    intro n
    induction n with
    | zero => intros; omega
    | succ n ih157 =>
      intro t152 H lc ls i150 X155 I153 F154 r151 hl hm
      refine r_iload_n S dJ7_fill_53178_5 rfl (lv_at hl 2 rfl) ?_
      refine r_iload_n S dJ7_fill_53178_6 rfl (lv_at hl 3 rfl) ?_
      refine r_icmp_ge (tgt := 20) S dJ7_fill_53178_7 (by decide) (fun c158 => ?_) (fun c158 => ?_)
      ·
        have r159 : R (10) (10) i150 := ⟨by omega, by omega⟩
        exact r_vret S hr hlk X155 ⟨I153, F154⟩ dJ7_fill_53178_20
      ·
        have r160 : R (0) (9) i150 := ⟨by omega, by omega⟩
        refine r_aload_n S dJ7_fill_53178_10 rfl (lv_at hl 0 rfl) ?_
        refine r_iload_n S dJ7_fill_53178_11 rfl (lv_at hl 2 rfl) ?_
        refine r_iload_n S dJ7_fill_53178_12 rfl (lv_at hl 1 rfl) ?_
        refine r_ast (n := 10) (K := 26) S X155 hk_k hkd_k (fun _ _ => rfl) (ix_of r160 rfl) dJ7_fill_53178_13 (fun t161 H lc M162 X163 => ?_)
        have I164 := Inv_mu I153 M162 (show Rg (kd k) _ a1 from by rw [hkd_k]; exact (R_of (lo := 0) (hi := 511) h_a1 rfl))
        have F165 : Fr [] [k] τ t161 := Fr_cell F154 M162 (by simp [fz])
        refine r_iinc (k := 2) S dJ7_fill_53178_14 hl rfl (by decide) (by decide) (fun v166 d167 ls z168 z169 hl => ?_)
        obtain ⟨e170, r171⟩ := i_add (lo := 1) (hi := 10) z168 r160 (R_eq z169) rfl
        have hl : lv_has ls 4 [(2, .int v166), (0, .ref (G.2.2.2.1 k)), (1, .int a1), (3, .int v4)] := hl
        refine r_goto (tgt := 5) S dJ7_fill_53178_17 (by decide) ?_
        exact ih157 t161 _ _ _ v166 X163 I164 F165 (R_of r171 rfl) (lv_sub hl [1, 2, 0, 3] rfl) (by omega)
  exact L156 _ τ _ _ _ v1 X hI Fr_rfl (R_of r3 rfl) (lv_sub hl [2, 3, 1, 0] rfl) (Nat.lt_succ_self _)
def po_fill_rides (τ : Tau) (k : Nat) (a1 : Int32) (u : Tau) : Prop := Inv u ∧ Fr [] [k] τ u
set_option maxHeartbeats 4000000 in
set_option maxRecDepth 100000 in
theorem c_fill_rides (l : Launch) (G : Gx) (τ : Tau) (hI : Inv τ) (k : Nat) (hk_k : k < NC) (hkd_k : kd k = 27) (a1 : Int32) (h_a1 : R (-2147483648) (2147483647) a1) : Cv l G yJ7_fill_53178 cJ7_fill_53178 4 0 0 [.ref (G.2.2.2.1 k), .int a1] τ (po_fill_rides τ k a1) := by
  unfold Cv
  refine C_of (own := RJ7) (by decide) rfl (Nat.le_of_ble_eq_true rfl) ?_
  intro p e s m below meth c ls S hr hlk X hl
  have hl : lv_has ls 4 [(0, .ref (G.2.2.2.1 k)), (1, .int a1)] := hl
  refine r_iconst S dJ7_fill_53178_0 (by decide) (fun v1 z2 => ?_)
  have r3 := R_eq z2
  refine r_istore_n (lv' := [(2, .int v1), (0, .ref (G.2.2.2.1 k)), (1, .int a1)]) S dJ7_fill_53178_1 rfl hl (by decide) rfl (fun ls hl => ?_)
  refine r_aload_n S dJ7_fill_53178_2 rfl (lv_at hl 1 rfl) ?_
  refine r_alen (x := (0, .inl fun _ => 0)) (n := 10) (K := 27) (t0 := 0) S X hk_k hkd_k (fun _ => ⟨_, rfl⟩) rfl (by decide) dJ7_fill_53178_3 (fun v4 z5 => ?_)
  have r6 := R_eq z5
  refine r_istore_n (lv' := [(3, .int v4), (2, .int v1), (0, .ref (G.2.2.2.1 k)), (1, .int a1)]) S dJ7_fill_53178_4 rfl hl (by decide) rfl (fun ls hl => ?_)
  have L156 : ∀ (n : Nat) (t152 : Tau) (H : Heap) (lc : List Loc) (ls : Array Slot) (i150 : Int32), Xd G s H lc t152 → Inv t152 → Fr [] [k] τ t152 → R (0) (10) i150 → lv_has ls 4 [(0, .ref (G.2.2.2.1 k)), (1, .int a1), (2, .int i150), (3, .int v4)] → (10 - i150.toInt).toNat < n → W p l e (Rm 0 0) s m ([.ref (G.2.2.2.1 k), .int a1] : List Value).toArray below meth c H lc 0 0 (MQ below (va_Qv (po_fill_rides τ k a1) (Bs G) G.2.2.2.2) ([.ref (G.2.2.2.1 k), .int a1] : List Value).toArray s 0 0 G.2.2.2.2) (F0 m 5 ls []) := by
    intro n
    induction n with
    | zero => intros; omega
    | succ n ih157 =>
      intro t152 H lc ls i150 X155 I153 F154 r151 hl hm
      refine r_iload_n S dJ7_fill_53178_5 rfl (lv_at hl 2 rfl) ?_
      refine r_iload_n S dJ7_fill_53178_6 rfl (lv_at hl 3 rfl) ?_
      refine r_icmp_ge (tgt := 20) S dJ7_fill_53178_7 (by decide) (fun c158 => ?_) (fun c158 => ?_)
      ·
        have r159 : R (10) (10) i150 := ⟨by omega, by omega⟩
        exact r_vret S hr hlk X155 ⟨I153, F154⟩ dJ7_fill_53178_20
      ·
        have r160 : R (0) (9) i150 := ⟨by omega, by omega⟩
        refine r_aload_n S dJ7_fill_53178_10 rfl (lv_at hl 0 rfl) ?_
        refine r_iload_n S dJ7_fill_53178_11 rfl (lv_at hl 2 rfl) ?_
        refine r_iload_n S dJ7_fill_53178_12 rfl (lv_at hl 1 rfl) ?_
        refine r_ast (n := 10) (K := 27) S X155 hk_k hkd_k (fun _ _ => rfl) (ix_of r160 rfl) dJ7_fill_53178_13 (fun t161 H lc M162 X163 => ?_)
        have I164 := Inv_mu I153 M162 (show Rg (kd k) _ a1 by rw [hkd_k]; exact R_any _)
        have F165 : Fr [] [k] τ t161 := Fr_cell F154 M162 (by simp [fz])
        refine r_iinc (k := 2) S dJ7_fill_53178_14 hl rfl (by decide) (by decide) (fun v166 d167 ls z168 z169 hl => ?_)
        obtain ⟨e170, r171⟩ := i_add (lo := 1) (hi := 10) z168 r160 (R_eq z169) rfl
        have hl : lv_has ls 4 [(2, .int v166), (0, .ref (G.2.2.2.1 k)), (1, .int a1), (3, .int v4)] := hl
        refine r_goto (tgt := 5) S dJ7_fill_53178_17 (by decide) ?_
        exact ih157 t161 _ _ _ v166 X163 I164 F165 (R_of r171 rfl) (lv_sub hl [1, 2, 0, 3] rfl) (by omega)
  exact L156 _ τ _ _ _ v1 X hI Fr_rfl (R_of r3 rfl) (lv_sub hl [2, 3, 1, 0] rfl) (Nat.lt_succ_self _)
def po_fill_mates (τ : Tau) (k : Nat) (a1 : Int32) (u : Tau) : Prop := Inv u ∧ Fr [] [k] τ u
set_option maxHeartbeats 4000000 in
set_option maxRecDepth 100000 in
theorem c_fill_mates (l : Launch) (G : Gx) (τ : Tau) (hI : Inv τ) (k : Nat) (hk_k : k < NC) (hkd_k : kd k = 36) (a1 : Int32) (h_a1 : R (-1) (9) a1) : Cv l G yJ7_fill_53178 cJ7_fill_53178 4 0 0 [.ref (G.2.2.2.1 k), .int a1] τ (po_fill_mates τ k a1) := by
  unfold Cv
  refine C_of (own := RJ7) (by decide) rfl (Nat.le_of_ble_eq_true rfl) ?_
  intro p e s m below meth c ls S hr hlk X hl
  have hl : lv_has ls 4 [(0, .ref (G.2.2.2.1 k)), (1, .int a1)] := hl
  refine r_iconst S dJ7_fill_53178_0 (by decide) (fun v1 z2 => ?_)
  have r3 := R_eq z2
  refine r_istore_n (lv' := [(2, .int v1), (0, .ref (G.2.2.2.1 k)), (1, .int a1)]) S dJ7_fill_53178_1 rfl hl (by decide) rfl (fun ls hl => ?_)
  refine r_aload_n S dJ7_fill_53178_2 rfl (lv_at hl 1 rfl) ?_
  refine r_alen (x := (0, .inl fun _ => 0)) (n := 10) (K := 36) (t0 := 0) S X hk_k hkd_k (fun _ => ⟨_, rfl⟩) rfl (by decide) dJ7_fill_53178_3 (fun v4 z5 => ?_)
  have r6 := R_eq z5
  refine r_istore_n (lv' := [(3, .int v4), (2, .int v1), (0, .ref (G.2.2.2.1 k)), (1, .int a1)]) S dJ7_fill_53178_4 rfl hl (by decide) rfl (fun ls hl => ?_)
  have L156 : ∀ (n : Nat) (t152 : Tau) (H : Heap) (lc : List Loc) (ls : Array Slot) (i150 : Int32), Xd G s H lc t152 → Inv t152 → Fr [] [k] τ t152 → R (0) (10) i150 → lv_has ls 4 [(0, .ref (G.2.2.2.1 k)), (1, .int a1), (2, .int i150), (3, .int v4)] → (10 - i150.toInt).toNat < n → W p l e (Rm 0 0) s m ([.ref (G.2.2.2.1 k), .int a1] : List Value).toArray below meth c H lc 0 0 (MQ below (va_Qv (po_fill_mates τ k a1) (Bs G) G.2.2.2.2) ([.ref (G.2.2.2.1 k), .int a1] : List Value).toArray s 0 0 G.2.2.2.2) (F0 m 5 ls []) := by
    intro n
    induction n with
    | zero => intros; omega
    | succ n ih157 =>
      intro t152 H lc ls i150 X155 I153 F154 r151 hl hm
      refine r_iload_n S dJ7_fill_53178_5 rfl (lv_at hl 2 rfl) ?_
      refine r_iload_n S dJ7_fill_53178_6 rfl (lv_at hl 3 rfl) ?_
      refine r_icmp_ge (tgt := 20) S dJ7_fill_53178_7 (by decide) (fun c158 => ?_) (fun c158 => ?_)
      ·
        have r159 : R (10) (10) i150 := ⟨by omega, by omega⟩
        exact r_vret S hr hlk X155 ⟨I153, F154⟩ dJ7_fill_53178_20
      ·
        have r160 : R (0) (9) i150 := ⟨by omega, by omega⟩
        refine r_aload_n S dJ7_fill_53178_10 rfl (lv_at hl 0 rfl) ?_
        refine r_iload_n S dJ7_fill_53178_11 rfl (lv_at hl 2 rfl) ?_
        refine r_iload_n S dJ7_fill_53178_12 rfl (lv_at hl 1 rfl) ?_
        refine r_ast (n := 10) (K := 36) S X155 hk_k hkd_k (fun _ _ => rfl) (ix_of r160 rfl) dJ7_fill_53178_13 (fun t161 H lc M162 X163 => ?_)
        have I164 := Inv_mu I153 M162 (show Rg (kd k) _ a1 from by rw [hkd_k]; exact (R_of (lo := -1) (hi := 9) h_a1 rfl))
        have F165 : Fr [] [k] τ t161 := Fr_cell F154 M162 (by simp [fz])
        refine r_iinc (k := 2) S dJ7_fill_53178_14 hl rfl (by decide) (by decide) (fun v166 d167 ls z168 z169 hl => ?_)
        obtain ⟨e170, r171⟩ := i_add (lo := 1) (hi := 10) z168 r160 (R_eq z169) rfl
        have hl : lv_has ls 4 [(2, .int v166), (0, .ref (G.2.2.2.1 k)), (1, .int a1), (3, .int v4)] := hl
        refine r_goto (tgt := 5) S dJ7_fill_53178_17 (by decide) ?_
        exact ih157 t161 _ _ _ v166 X163 I164 F165 (R_of r171 rfl) (lv_sub hl [1, 2, 0, 3] rfl) (by omega)
  exact L156 _ τ _ _ _ v1 X hI Fr_rfl (R_of r3 rfl) (lv_sub hl [2, 3, 1, 0] rfl) (Nat.lt_succ_self _)
def po_fill_latestLog (τ : Tau) (k : Nat) (a1 : Int32) (u : Tau) : Prop := Inv u ∧ Fr [] [k] τ u
set_option maxHeartbeats 4000000 in
set_option maxRecDepth 100000 in
theorem c_fill_latestLog (l : Launch) (G : Gx) (τ : Tau) (hI : Inv τ) (k : Nat) (hk_k : k < NC) (hkd_k : kd k = 37) (a1 : Int32) (h_a1 : R (-2147483648) (2147483647) a1) : Cv l G yJ7_fill_53178 cJ7_fill_53178 4 0 0 [.ref (G.2.2.2.1 k), .int a1] τ (po_fill_latestLog τ k a1) := by
  unfold Cv
  refine C_of (own := RJ7) (by decide) rfl (Nat.le_of_ble_eq_true rfl) ?_
  intro p e s m below meth c ls S hr hlk X hl
  have hl : lv_has ls 4 [(0, .ref (G.2.2.2.1 k)), (1, .int a1)] := hl
  refine r_iconst S dJ7_fill_53178_0 (by decide) (fun v1 z2 => ?_)
  have r3 := R_eq z2
  refine r_istore_n (lv' := [(2, .int v1), (0, .ref (G.2.2.2.1 k)), (1, .int a1)]) S dJ7_fill_53178_1 rfl hl (by decide) rfl (fun ls hl => ?_)
  refine r_aload_n S dJ7_fill_53178_2 rfl (lv_at hl 1 rfl) ?_
  refine r_alen (x := (0, .inl fun _ => 0)) (n := 4) (K := 37) (t0 := 0) S X hk_k hkd_k (fun _ => ⟨_, rfl⟩) rfl (by decide) dJ7_fill_53178_3 (fun v4 z5 => ?_)
  have r6 := R_eq z5
  refine r_istore_n (lv' := [(3, .int v4), (2, .int v1), (0, .ref (G.2.2.2.1 k)), (1, .int a1)]) S dJ7_fill_53178_4 rfl hl (by decide) rfl (fun ls hl => ?_)
  have L102 : ∀ (n : Nat) (t98 : Tau) (H : Heap) (lc : List Loc) (ls : Array Slot) (i96 : Int32), Xd G s H lc t98 → Inv t98 → Fr [] [k] τ t98 → R (0) (4) i96 → lv_has ls 4 [(0, .ref (G.2.2.2.1 k)), (1, .int a1), (2, .int i96), (3, .int v4)] → (4 - i96.toInt).toNat < n → W p l e (Rm 0 0) s m ([.ref (G.2.2.2.1 k), .int a1] : List Value).toArray below meth c H lc 0 0 (MQ below (va_Qv (po_fill_latestLog τ k a1) (Bs G) G.2.2.2.2) ([.ref (G.2.2.2.1 k), .int a1] : List Value).toArray s 0 0 G.2.2.2.2) (F0 m 5 ls []) := by
    intro n
    induction n with
    | zero => intros; omega
    | succ n ih103 =>
      intro t98 H lc ls i96 X101 I99 F100 r97 hl hm
      refine r_iload_n S dJ7_fill_53178_5 rfl (lv_at hl 2 rfl) ?_
      refine r_iload_n S dJ7_fill_53178_6 rfl (lv_at hl 3 rfl) ?_
      refine r_icmp_ge (tgt := 20) S dJ7_fill_53178_7 (by decide) (fun c104 => ?_) (fun c104 => ?_)
      ·
        have r105 : R (4) (4) i96 := ⟨by omega, by omega⟩
        exact r_vret S hr hlk X101 ⟨I99, F100⟩ dJ7_fill_53178_20
      ·
        have r106 : R (0) (3) i96 := ⟨by omega, by omega⟩
        refine r_aload_n S dJ7_fill_53178_10 rfl (lv_at hl 0 rfl) ?_
        refine r_iload_n S dJ7_fill_53178_11 rfl (lv_at hl 2 rfl) ?_
        refine r_iload_n S dJ7_fill_53178_12 rfl (lv_at hl 1 rfl) ?_
        refine r_ast (n := 4) (K := 37) S X101 hk_k hkd_k (fun _ _ => rfl) (ix_of r106 rfl) dJ7_fill_53178_13 (fun t107 H lc M108 X109 => ?_)
        have I110 := Inv_mu I99 M108 (show Rg (kd k) _ a1 by rw [hkd_k]; exact R_any _)
        have F111 : Fr [] [k] τ t107 := Fr_cell F100 M108 (by simp [fz])
        refine r_iinc (k := 2) S dJ7_fill_53178_14 hl rfl (by decide) (by decide) (fun v112 d113 ls z114 z115 hl => ?_)
        obtain ⟨e116, r117⟩ := i_add (lo := 1) (hi := 4) z114 r106 (R_eq z115) rfl
        have hl : lv_has ls 4 [(2, .int v112), (0, .ref (G.2.2.2.1 k)), (1, .int a1), (3, .int v4)] := hl
        refine r_goto (tgt := 5) S dJ7_fill_53178_17 (by decide) ?_
        exact ih103 t107 _ _ _ v112 X109 I110 F111 (R_of r117 rfl) (lv_sub hl [1, 2, 0, 3] rfl) (by omega)
  exact L102 _ τ _ _ _ v1 X hI Fr_rfl (R_of r3 rfl) (lv_sub hl [2, 3, 1, 0] rfl) (Nat.lt_succ_self _)
def po_fill_distance (τ : Tau) (k : Nat) (a1 : Int32) (u : Tau) : Prop := Inv u ∧ Fr [] [k] τ u
set_option maxHeartbeats 4000000 in
set_option maxRecDepth 100000 in
theorem c_fill_distance (l : Launch) (G : Gx) (τ : Tau) (hI : Inv τ) (k : Nat) (hk_k : k < NC) (hkd_k : kd k = 32) (a1 : Int32) (h_a1 : R (-2147483648) (2147483647) a1) : Cv l G yJ7_fill_53178 cJ7_fill_53178 4 0 0 [.ref (G.2.2.2.1 k), .int a1] τ (po_fill_distance τ k a1) := by
  unfold Cv
  refine C_of (own := RJ7) (by decide) rfl (Nat.le_of_ble_eq_true rfl) ?_
  intro p e s m below meth c ls S hr hlk X hl
  have hl : lv_has ls 4 [(0, .ref (G.2.2.2.1 k)), (1, .int a1)] := hl
  refine r_iconst S dJ7_fill_53178_0 (by decide) (fun v1 z2 => ?_)
  have r3 := R_eq z2
  refine r_istore_n (lv' := [(2, .int v1), (0, .ref (G.2.2.2.1 k)), (1, .int a1)]) S dJ7_fill_53178_1 rfl hl (by decide) rfl (fun ls hl => ?_)
  refine r_aload_n S dJ7_fill_53178_2 rfl (lv_at hl 1 rfl) ?_
  refine r_alen (x := (0, .inl fun _ => 0)) (n := 2048) (K := 32) (t0 := 0) S X hk_k hkd_k (fun _ => ⟨_, rfl⟩) rfl (by decide) dJ7_fill_53178_3 (fun v4 z5 => ?_)
  have r6 := R_eq z5
  refine r_istore_n (lv' := [(3, .int v4), (2, .int v1), (0, .ref (G.2.2.2.1 k)), (1, .int a1)]) S dJ7_fill_53178_4 rfl hl (by decide) rfl (fun ls hl => ?_)
  have L732 : ∀ (n : Nat) (t728 : Tau) (H : Heap) (lc : List Loc) (ls : Array Slot) (i726 : Int32), Xd G s H lc t728 → Inv t728 → Fr [] [k] τ t728 → R (0) (2048) i726 → lv_has ls 4 [(0, .ref (G.2.2.2.1 k)), (1, .int a1), (2, .int i726), (3, .int v4)] → (2048 - i726.toInt).toNat < n → W p l e (Rm 0 0) s m ([.ref (G.2.2.2.1 k), .int a1] : List Value).toArray below meth c H lc 0 0 (MQ below (va_Qv (po_fill_distance τ k a1) (Bs G) G.2.2.2.2) ([.ref (G.2.2.2.1 k), .int a1] : List Value).toArray s 0 0 G.2.2.2.2) (F0 m 5 ls []) := by
    intro n
    induction n with
    | zero => intros; omega
    | succ n ih733 =>
      intro t728 H lc ls i726 X731 I729 F730 r727 hl hm
      refine r_iload_n S dJ7_fill_53178_5 rfl (lv_at hl 2 rfl) ?_
      refine r_iload_n S dJ7_fill_53178_6 rfl (lv_at hl 3 rfl) ?_
      refine r_icmp_ge (tgt := 20) S dJ7_fill_53178_7 (by decide) (fun c734 => ?_) (fun c734 => ?_)
      ·
        have r735 : R (2048) (2048) i726 := ⟨by omega, by omega⟩
        exact r_vret S hr hlk X731 ⟨I729, F730⟩ dJ7_fill_53178_20
      ·
        have r736 : R (0) (2047) i726 := ⟨by omega, by omega⟩
        refine r_aload_n S dJ7_fill_53178_10 rfl (lv_at hl 0 rfl) ?_
        refine r_iload_n S dJ7_fill_53178_11 rfl (lv_at hl 2 rfl) ?_
        refine r_iload_n S dJ7_fill_53178_12 rfl (lv_at hl 1 rfl) ?_
        refine r_ast (n := 2048) (K := 32) S X731 hk_k hkd_k (fun _ _ => rfl) (ix_of r736 rfl) dJ7_fill_53178_13 (fun t737 H lc M738 X739 => ?_)
        have I740 := Inv_mu I729 M738 (show Rg (kd k) _ a1 by rw [hkd_k]; exact R_any _)
        have F741 : Fr [] [k] τ t737 := Fr_cell F730 M738 (by simp [fz])
        refine r_iinc (k := 2) S dJ7_fill_53178_14 hl rfl (by decide) (by decide) (fun v742 d743 ls z744 z745 hl => ?_)
        obtain ⟨e746, r747⟩ := i_add (lo := 1) (hi := 2048) z744 r736 (R_eq z745) rfl
        have hl : lv_has ls 4 [(2, .int v742), (0, .ref (G.2.2.2.1 k)), (1, .int a1), (3, .int v4)] := hl
        refine r_goto (tgt := 5) S dJ7_fill_53178_17 (by decide) ?_
        exact ih733 t737 _ _ _ v742 X739 I740 F741 (R_of r747 rfl) (lv_sub hl [1, 2, 0, 3] rfl) (by omega)
  exact L732 _ τ _ _ _ v1 X hI Fr_rfl (R_of r3 rfl) (lv_sub hl [2, 3, 1, 0] rfl) (Nat.lt_succ_self _)
def po_X2_everyone (τ : Tau) (k : Nat)  (r : Int32) (u : Tau) : Prop := u = τ ∧ R (0) (1023) r
set_option maxHeartbeats 4000000 in
set_option maxRecDepth 100000 in
theorem c_X2_everyone (l : Launch) (G : Gx) (τ : Tau) (hI : Inv τ) (k : Nat) (hk_k : k < NC) (hkd_k : kd k = 4) : Ci l G yX2_everyone cX2_everyone 1 (some .int) 0 0 [.ref (G.2.2.2.1 k)] τ (po_X2_everyone τ k ) := by
  unfold Ci
  refine C_of (own := RX2) (by decide) rfl (Nat.le_of_ble_eq_true rfl) ?_
  intro p e s m below meth c ls S hr hlk X hl
  have hl : lv_has ls 1 [(0, .ref (G.2.2.2.1 k))] := hl
  refine r_iconst S dX2_everyone_0 (by decide) (fun v1 z2 => ?_)
  have r3 := R_eq z2
  refine r_aload_n S dX2_everyone_1 rfl (lv_at hl 0 rfl) ?_
  refine r_getn (K := 4) S X hk_k hkd_k lk2_44_2 (fun _ => ⟨_, rfl, rfl⟩) dX2_everyone_2 (fun v4 z5 => ?_)
  have r6 : R (0) (10) v4 := rd hI hkd_k z5
  refine r_ishl S dX2_everyone_5 (fun v7 z8 => ?_)
  have r10 : R (1) (1024) v7 := i_shl z8 r3 r6 rfl
  refine r_iconst S dX2_everyone_6 (by decide) (fun v11 z12 => ?_)
  have r13 := R_eq z12
  refine r_isub S dX2_everyone_7 (fun v14 z15 => ?_)
  obtain ⟨e16, r17⟩ := i_sub (lo := 0) (hi := 1023) z15 r10 r13 rfl
  exact r_ret S hr hlk X ⟨rfl, r17⟩ rfl dX2_everyone_8
def po_X2_askNamed (τ : Tau) (k : Nat)  (r : Int32) (u : Tau) : Prop := u = τ ∧ R (-1) (8) r
set_option maxHeartbeats 4000000 in
set_option maxRecDepth 100000 in
theorem c_X2_askNamed (l : Launch) (G : Gx) (τ : Tau) (hI : Inv τ) (k : Nat) (hk_k : k < NC) (hkd_k : kd k = 4) (a0 : Int64) : Ci l G yX2_askNamed cX2_askNamed 4 (some .int) 0 0 [.ref (G.2.2.2.1 k), .long a0] τ (po_X2_askNamed τ k ) := by
  unfold Ci
  refine C_of (own := RX2) (by decide) rfl (Nat.le_of_ble_eq_true rfl) ?_
  intro p e s m below meth c ls S hr hlk X hl
  have hl : lv_has ls 4 [(0, .ref (G.2.2.2.1 k)), (1, .long a0)] := hl
  refine r_iconst S dX2_askNamed_0 (by decide) (fun v1 z2 => ?_)
  have r3 := R_eq z2
  refine r_istore_n (lv' := [(3, .int v1), (0, .ref (G.2.2.2.1 k)), (1, .long a0)]) S dX2_askNamed_1 rfl hl (by decide) rfl (fun ls hl => ?_)
  have L127 : ∀ (n : Nat) (H : Heap) (lc : List Loc) (ls : Array Slot) (i124 : Int32), Xd G s H lc τ → R (0) (9) i124 → lv_has ls 4 [(0, .ref (G.2.2.2.1 k)), (1, .long a0), (3, .int i124)] → (9 - i124.toInt).toNat < n → W p l e (Rm 0 0) s m ([.ref (G.2.2.2.1 k), .long a0] : List Value).toArray below meth c H lc 0 0 (MQ below (va_Qi (po_X2_askNamed τ k ) (Bs G) G.2.2.2.2) ([.ref (G.2.2.2.1 k), .long a0] : List Value).toArray s 0 0 G.2.2.2.2) (F0 m 2 ls []) := by
    intro n
    induction n with
    | zero => intros; omega
    | succ n ih128 =>
      intro H lc ls i124 X126 r125 hl hm
      refine r_iload_n S dX2_askNamed_2 rfl (lv_at hl 2 rfl) ?_
      refine r_aload_n S dX2_askNamed_3 rfl (lv_at hl 0 rfl) ?_
      refine r_getn (K := 4) S X126 hk_k hkd_k lk2_41_2 (fun _ => ⟨_, rfl, rfl⟩) dX2_askNamed_4 (fun v129 z130 => ?_)
      have r131 : R (0) (9) v129 := rd hI hkd_k z130
      refine r_icmp_ge (tgt := 29) S dX2_askNamed_7 (by decide) (fun c132 => ?_) (fun c132 => ?_)
      ·
        refine r_iconst S dX2_askNamed_29 (by decide) (fun v133 z134 => ?_)
        have r135 := R_eq z134
        exact r_ret S hr hlk X126 ⟨rfl, (R_of r135 rfl)⟩ rfl dX2_askNamed_30
      ·
        have r136 : R (0) (8) i124 := ⟨by omega, by omega⟩
        have r137 : R (1) (9) v129 := ⟨by omega, by omega⟩
        refine r_aload_n S dX2_askNamed_10 rfl (lv_at hl 0 rfl) ?_
        refine r_get (K := 4) (v := .ref (G.2.2.2.1 (k + 5))) S X126 hk_k hkd_k lk2_24_2 (fun _ => ⟨_, rfl, rfl⟩) dX2_askNamed_11 ?_
        refine r_iload_n S dX2_askNamed_14 rfl (lv_at hl 2 rfl) ?_
        refine r_lald (n := 9) (K := 9) S X126 (lay4_5 hk_k hkd_k).1 (lay4_5 hk_k hkd_k).2 (fun _ => rfl) (ix_of r136 rfl) dX2_askNamed_15 (fun j138 => ?_)
        refine lv_lload_n S.1.1 S.1.2.1 dX2_askNamed_16 rfl (lv_at hl 1 rfl) ?_
        refine r_lcmp S dX2_askNamed_17 (fun v139 r140 => ?_)
        refine r_if_ne (tgt := 23) S dX2_askNamed_18 (by decide) (fun c141 => ?_) (fun c141 => ?_)
        ·
          refine r_iinc (k := 2) S dX2_askNamed_23 hl rfl (by decide) (by decide) (fun v142 d143 ls z144 z145 hl => ?_)
          obtain ⟨e146, r147⟩ := i_add (lo := 1) (hi := 9) z144 r136 (R_eq z145) rfl
          have hl : lv_has ls 4 [(3, .int v142), (0, .ref (G.2.2.2.1 k)), (1, .long a0)] := hl
          refine r_goto (tgt := 2) S dX2_askNamed_26 (by decide) ?_
          exact ih128 _ _ _ v142 X126 (R_of r147 rfl) (lv_sub hl [1, 2, 0] rfl) (by omega)
        ·
          have r148 : R (0) (0) v139 := ⟨by omega, by omega⟩
          refine r_iload_n S dX2_askNamed_21 rfl (lv_at hl 2 rfl) ?_
          exact r_ret S hr hlk X126 ⟨rfl, (R_of r136 rfl)⟩ rfl dX2_askNamed_22
  exact L127 _ _ _ _ v1 X (R_of r3 rfl) (lv_sub hl [1, 2, 0] rfl) (Nat.lt_succ_self _)
def po_X2_manNamed (τ : Tau) (k : Nat)  (r : Int32) (u : Tau) : Prop := u = τ ∧ R (-1) (9) r
set_option maxHeartbeats 4000000 in
set_option maxRecDepth 100000 in
theorem c_X2_manNamed (l : Launch) (G : Gx) (τ : Tau) (hI : Inv τ) (k : Nat) (hk_k : k < NC) (hkd_k : kd k = 4) (a0 : Int64) : Ci l G yX2_manNamed cX2_manNamed 4 (some .int) 0 0 [.ref (G.2.2.2.1 k), .long a0] τ (po_X2_manNamed τ k ) := by
  unfold Ci
  refine C_of (own := RX2) (by decide) rfl (Nat.le_of_ble_eq_true rfl) ?_
  intro p e s m below meth c ls S hr hlk X hl
  have hl : lv_has ls 4 [(0, .ref (G.2.2.2.1 k)), (1, .long a0)] := hl
  refine r_iconst S dX2_manNamed_0 (by decide) (fun v1 z2 => ?_)
  have r3 := R_eq z2
  refine r_istore_n (lv' := [(3, .int v1), (0, .ref (G.2.2.2.1 k)), (1, .long a0)]) S dX2_manNamed_1 rfl hl (by decide) rfl (fun ls hl => ?_)
  have L147 : ∀ (n : Nat) (H : Heap) (lc : List Loc) (ls : Array Slot) (i144 : Int32), Xd G s H lc τ → R (0) (10) i144 → lv_has ls 4 [(0, .ref (G.2.2.2.1 k)), (1, .long a0), (3, .int i144)] → (10 - i144.toInt).toNat < n → W p l e (Rm 0 0) s m ([.ref (G.2.2.2.1 k), .long a0] : List Value).toArray below meth c H lc 0 0 (MQ below (va_Qi (po_X2_manNamed τ k ) (Bs G) G.2.2.2.2) ([.ref (G.2.2.2.1 k), .long a0] : List Value).toArray s 0 0 G.2.2.2.2) (F0 m 2 ls []) := by
    intro n
    induction n with
    | zero => intros; omega
    | succ n ih148 =>
      intro H lc ls i144 X146 r145 hl hm
      refine r_iload_n S dX2_manNamed_2 rfl (lv_at hl 2 rfl) ?_
      refine r_aload_n S dX2_manNamed_3 rfl (lv_at hl 0 rfl) ?_
      refine r_getn (K := 4) S X146 hk_k hkd_k lk2_44_2 (fun _ => ⟨_, rfl, rfl⟩) dX2_manNamed_4 (fun v149 z150 => ?_)
      have r151 : R (0) (10) v149 := rd hI hkd_k z150
      refine r_icmp_ge (tgt := 29) S dX2_manNamed_7 (by decide) (fun c152 => ?_) (fun c152 => ?_)
      ·
        refine r_iconst S dX2_manNamed_29 (by decide) (fun v153 z154 => ?_)
        have r155 := R_eq z154
        exact r_ret S hr hlk X146 ⟨rfl, (R_of r155 rfl)⟩ rfl dX2_manNamed_30
      ·
        have r156 : R (0) (9) i144 := ⟨by omega, by omega⟩
        have r157 : R (1) (10) v149 := ⟨by omega, by omega⟩
        refine r_aload_n S dX2_manNamed_10 rfl (lv_at hl 0 rfl) ?_
        refine r_get (K := 4) (v := .ref (G.2.2.2.1 (k + 6))) S X146 hk_k hkd_k lk2_28_2 (fun _ => ⟨_, rfl, rfl⟩) dX2_manNamed_11 ?_
        refine r_iload_n S dX2_manNamed_14 rfl (lv_at hl 2 rfl) ?_
        refine r_lald (n := 10) (K := 10) S X146 (lay4_6 hk_k hkd_k).1 (lay4_6 hk_k hkd_k).2 (fun _ => rfl) (ix_of r156 rfl) dX2_manNamed_15 (fun j158 => ?_)
        refine lv_lload_n S.1.1 S.1.2.1 dX2_manNamed_16 rfl (lv_at hl 1 rfl) ?_
        refine r_lcmp S dX2_manNamed_17 (fun v159 r160 => ?_)
        refine r_if_ne (tgt := 23) S dX2_manNamed_18 (by decide) (fun c161 => ?_) (fun c161 => ?_)
        ·
          refine r_iinc (k := 2) S dX2_manNamed_23 hl rfl (by decide) (by decide) (fun v162 d163 ls z164 z165 hl => ?_)
          obtain ⟨e166, r167⟩ := i_add (lo := 1) (hi := 10) z164 r156 (R_eq z165) rfl
          have hl : lv_has ls 4 [(3, .int v162), (0, .ref (G.2.2.2.1 k)), (1, .long a0)] := hl
          refine r_goto (tgt := 2) S dX2_manNamed_26 (by decide) ?_
          exact ih148 _ _ _ v162 X146 (R_of r167 rfl) (lv_sub hl [1, 2, 0] rfl) (by omega)
        ·
          have r168 : R (0) (0) v159 := ⟨by omega, by omega⟩
          refine r_iload_n S dX2_manNamed_21 rfl (lv_at hl 2 rfl) ?_
          exact r_ret S hr hlk X146 ⟨rfl, (R_of r156 rfl)⟩ rfl dX2_manNamed_22
  exact L147 _ _ _ _ v1 X (R_of r3 rfl) (lv_sub hl [1, 2, 0] rfl) (Nat.lt_succ_self _)
def po_X10_hasMan (τ : Tau)  (a0 : Int32) (r : Int32) (u : Tau) : Prop := u = τ ∧ R (0) (1) r ∧ (r.toInt = 1 → R (0) (9) a0 ∧ R (1) (10) (u 23 3))
set_option maxHeartbeats 4000000 in
set_option maxRecDepth 100000 in
theorem c_X10_hasMan (l : Launch) (G : Gx) (τ : Tau) (hI : Inv τ) (a0 : Int32) (h_a0 : R (-2147483648) (2147483647) a0) : Ci l G yX10_hasMan cX10_hasMan 2 (some .boolean) 0 0 [.ref (G.2.2.2.1 22), .int a0] τ (po_X10_hasMan τ  a0) := by
  unfold Ci
  refine C_of (own := RX10) (by decide) rfl (Nat.le_of_ble_eq_true rfl) ?_
  intro p e s m below meth c ls S hr hlk X hl
  have hl : lv_has ls 2 [(0, .ref (G.2.2.2.1 22)), (1, .int a0)] := hl
  refine r_iload_n S dX10_hasMan_0 rfl (lv_at hl 1 rfl) ?_
  refine r_if_lt (tgt := 19) S dX10_hasMan_1 (by decide) (fun c1 => ?_) (fun c1 => ?_)
  ·
    have r2 : R (-2147483648) (-1) a0 := ⟨by omega, by omega⟩
    refine r_iconst S dX10_hasMan_19 (by decide) (fun v3 z4 => ?_)
    have r5 := R_eq z4
    exact r_ret S hr hlk X ⟨rfl, (R_of r5 rfl), (fun h => by exfalso; omega)⟩ (nr_bool (R_of (lo := 0) (hi := 1) r5 rfl)) dX10_hasMan_20
  ·
    have r6 : R (0) (2147483647) a0 := ⟨by omega, by omega⟩
    refine r_iload_n S dX10_hasMan_4 rfl (lv_at hl 1 rfl) ?_
    refine r_aload_n S dX10_hasMan_5 rfl (lv_at hl 0 rfl) ?_
    refine r_get (K := 22) (v := .ref (G.2.2.2.1 23)) S X (Nat.le_of_ble_eq_true rfl) rfl lk10_12_8 (fun _ => ⟨_, rfl, rfl⟩) dX10_hasMan_6 ?_
    refine r_getn (K := 4) S X (Nat.le_of_ble_eq_true rfl) rfl lk10_49_2 (fun _ => ⟨_, rfl, rfl⟩) dX10_hasMan_9 (fun v7 z8 => ?_)
    have r9 : R (0) (10) v7 := rd hI rfl z8
    refine r_icmp_ge (tgt := 19) S dX10_hasMan_12 (by decide) (fun c10 => ?_) (fun c10 => ?_)
    ·
      refine r_iconst S dX10_hasMan_19 (by decide) (fun v11 z12 => ?_)
      have r13 := R_eq z12
      exact r_ret S hr hlk X ⟨rfl, (R_of r13 rfl), (fun h => by exfalso; omega)⟩ (nr_bool (R_of (lo := 0) (hi := 1) r13 rfl)) dX10_hasMan_20
    ·
      have r14 : R (0) (9) a0 := ⟨by omega, by omega⟩
      have r15 : R (1) (10) v7 := ⟨by omega, by omega⟩
      refine r_iconst S dX10_hasMan_15 (by decide) (fun v16 z17 => ?_)
      have r18 := R_eq z17
      refine r_goto (tgt := 20) S dX10_hasMan_16 (by decide) ?_
      exact r_ret S hr hlk X ⟨rfl, (R_of r18 rfl), (fun h => ⟨⟨by omega, by omega⟩, (by rw [z8]; exact R_of r15 rfl)⟩)⟩ (nr_bool (R_of (lo := 0) (hi := 1) r18 rfl)) dX10_hasMan_20
def po_X10_hasAsk (τ : Tau)  (a0 : Int32) (r : Int32) (u : Tau) : Prop := u = τ ∧ R (0) (1) r ∧ (r.toInt = 1 → R (0) (8) a0)
set_option maxHeartbeats 4000000 in
set_option maxRecDepth 100000 in
theorem c_X10_hasAsk (l : Launch) (G : Gx) (τ : Tau) (hI : Inv τ) (a0 : Int32) (h_a0 : R (-2147483648) (2147483647) a0) : Ci l G yX10_hasAsk cX10_hasAsk 2 (some .boolean) 0 0 [.ref (G.2.2.2.1 22), .int a0] τ (po_X10_hasAsk τ  a0) := by
  unfold Ci
  refine C_of (own := RX10) (by decide) rfl (Nat.le_of_ble_eq_true rfl) ?_
  intro p e s m below meth c ls S hr hlk X hl
  have hl : lv_has ls 2 [(0, .ref (G.2.2.2.1 22)), (1, .int a0)] := hl
  refine r_iload_n S dX10_hasAsk_0 rfl (lv_at hl 1 rfl) ?_
  refine r_if_lt (tgt := 19) S dX10_hasAsk_1 (by decide) (fun c1 => ?_) (fun c1 => ?_)
  ·
    have r2 : R (-2147483648) (-1) a0 := ⟨by omega, by omega⟩
    refine r_iconst S dX10_hasAsk_19 (by decide) (fun v3 z4 => ?_)
    have r5 := R_eq z4
    exact r_ret S hr hlk X ⟨rfl, (R_of r5 rfl), (fun h => by exfalso; omega)⟩ (nr_bool (R_of (lo := 0) (hi := 1) r5 rfl)) dX10_hasAsk_20
  ·
    have r6 : R (0) (2147483647) a0 := ⟨by omega, by omega⟩
    refine r_iload_n S dX10_hasAsk_4 rfl (lv_at hl 1 rfl) ?_
    refine r_aload_n S dX10_hasAsk_5 rfl (lv_at hl 0 rfl) ?_
    refine r_get (K := 22) (v := .ref (G.2.2.2.1 23)) S X (Nat.le_of_ble_eq_true rfl) rfl lk10_12_8 (fun _ => ⟨_, rfl, rfl⟩) dX10_hasAsk_6 ?_
    refine r_getn (K := 4) S X (Nat.le_of_ble_eq_true rfl) rfl lk10_52_2 (fun _ => ⟨_, rfl, rfl⟩) dX10_hasAsk_9 (fun v7 z8 => ?_)
    have r9 : R (0) (9) v7 := rd hI rfl z8
    refine r_icmp_ge (tgt := 19) S dX10_hasAsk_12 (by decide) (fun c10 => ?_) (fun c10 => ?_)
    ·
      refine r_iconst S dX10_hasAsk_19 (by decide) (fun v11 z12 => ?_)
      have r13 := R_eq z12
      exact r_ret S hr hlk X ⟨rfl, (R_of r13 rfl), (fun h => by exfalso; omega)⟩ (nr_bool (R_of (lo := 0) (hi := 1) r13 rfl)) dX10_hasAsk_20
    ·
      have r14 : R (0) (8) a0 := ⟨by omega, by omega⟩
      have r15 : R (1) (9) v7 := ⟨by omega, by omega⟩
      refine r_iconst S dX10_hasAsk_15 (by decide) (fun v16 z17 => ?_)
      have r18 := R_eq z17
      refine r_goto (tgt := 20) S dX10_hasAsk_16 (by decide) ?_
      exact r_ret S hr hlk X ⟨rfl, (R_of r18 rfl), (fun h => ⟨by omega, by omega⟩)⟩ (nr_bool (R_of (lo := 0) (hi := 1) r18 rfl)) dX10_hasAsk_20
def po_X10_hasSet (τ : Tau)  (a0 : Int32) (r : Int32) (u : Tau) : Prop := u = τ ∧ R (0) (1) r ∧ (r.toInt = 1 → R (0) (1023) a0)
set_option maxHeartbeats 4000000 in
set_option maxRecDepth 100000 in
theorem c_X10_hasSet (l : Launch) (G : Gx) (τ : Tau) (hI : Inv τ) (a0 : Int32) (h_a0 : R (-2147483648) (2147483647) a0) : Ci l G yX10_hasSet cX10_hasSet 2 (some .boolean) 1 20 [.ref (G.2.2.2.1 22), .int a0] τ (po_X10_hasSet τ  a0) := by
  unfold Ci
  refine C_of (own := RX10) (by decide) rfl (Nat.le_of_ble_eq_true rfl) ?_
  intro p e s m below meth c ls S hr hlk X hl
  have hl : lv_has ls 2 [(0, .ref (G.2.2.2.1 22)), (1, .int a0)] := hl
  refine r_iload_n S dX10_hasSet_0 rfl (lv_at hl 1 rfl) ?_
  refine r_aload_n S dX10_hasSet_1 rfl (lv_at hl 0 rfl) ?_
  refine r_get (K := 22) (v := .ref (G.2.2.2.1 23)) S X (Nat.le_of_ble_eq_true rfl) rfl lk10_12_8 (fun _ => ⟨_, rfl, rfl⟩) dX10_hasSet_2 ?_
  refine r_ki (q_V (As := []) (rest := [.int a0]) (K := 4) (ci := 2) S X (c_X2_everyone l G τ hI 23 (Nat.le_of_ble_eq_true rfl) rfl) ck10_55 (Nat.le_of_ble_eq_true rfl) rfl (fun _ => ⟨_, rfl⟩) ⟨_, _, rfl⟩ ⟨Nat.le_of_ble_eq_true rfl, Nat.le_of_ble_eq_true rfl⟩ rfl hl.1 rfl (Nat.le_of_ble_eq_true rfl) dX10_hasSet_5 ⟨Nat.le_refl 0, Nat.le_refl 0⟩) X (fun v4 t3 H lc q1 X2 => ?_)
  unfold po_X2_everyone at q1
  obtain ⟨q5, q6⟩ := q1
  rw [q5] at X2
  refine r_iconst S dX10_hasSet_8 (by decide) (fun v7 z8 => ?_)
  have r9 := R_eq z8
  refine r_ixor S dX10_hasSet_9 (fun v10 z11 => ?_)
  have r12 := R_any v10
  refine r_iand S dX10_hasSet_10 (fun v13 z14 => ?_)
  have r15 := R_any v13
  refine r_if_ne (tgt := 18) S dX10_hasSet_11 (by decide) (fun c16 => ?_) (fun c16 => ?_)
  ·
    refine r_iconst S dX10_hasSet_18 (by decide) (fun v17 z18 => ?_)
    have r19 := R_eq z18
    exact r_ret S hr hlk X2 ⟨rfl, (R_of r19 rfl), (fun h => by exfalso; omega)⟩ (nr_bool (R_of (lo := 0) (hi := 1) r19 rfl)) dX10_hasSet_19
  ·
    have r20 : R (0) (0) v13 := ⟨by omega, by omega⟩
    refine r_iconst S dX10_hasSet_14 (by decide) (fun v21 z22 => ?_)
    have r23 := R_eq z22
    refine r_goto (tgt := 19) S dX10_hasSet_15 (by decide) ?_
    exact r_ret S hr hlk X2 ⟨rfl, (R_of r23 rfl), (fun h => (by apply sub_of (x := a0) <;> assumption))⟩ (nr_bool (R_of (lo := 0) (hi := 1) r23 rfl)) dX10_hasSet_19
def po_X10_isLevel (τ : Tau)  (a0 : Int32) (r : Int32) (u : Tau) : Prop := u = τ ∧ R (0) (1) r
set_option maxHeartbeats 4000000 in
set_option maxRecDepth 100000 in
theorem c_X10_isLevel (l : Launch) (G : Gx) (τ : Tau) (hI : Inv τ) (a0 : Int32) (h_a0 : R (-2147483648) (2147483647) a0) : Ci l G yX10_isLevel cX10_isLevel 2 (some .boolean) 0 0 [.ref (G.2.2.2.1 22), .int a0] τ (po_X10_isLevel τ  a0) := by
  unfold Ci
  refine C_of (own := RX10) (by decide) rfl (Nat.le_of_ble_eq_true rfl) ?_
  intro p e s m below meth c ls S hr hlk X hl
  have hl : lv_has ls 2 [(0, .ref (G.2.2.2.1 22)), (1, .int a0)] := hl
  refine r_iload_n S dX10_isLevel_0 rfl (lv_at hl 1 rfl) ?_
  refine r_aload_n S dX10_isLevel_1 rfl (lv_at hl 0 rfl) ?_
  refine r_get (K := 22) (v := .ref (G.2.2.2.1 23)) S X (Nat.le_of_ble_eq_true rfl) rfl lk10_12_8 (fun _ => ⟨_, rfl, rfl⟩) dX10_isLevel_2 ?_
  refine r_getn (K := 4) S X (Nat.le_of_ble_eq_true rfl) rfl lk10_97_2 (fun _ => ⟨_, rfl, rfl⟩) dX10_isLevel_5 (fun v1 z2 => ?_)
  have r3 : R (0) (9) v1 := rd hI rfl z2
  refine r_icmp_gt (tgt := 27) S dX10_isLevel_8 (by decide) (fun c4 => ?_) (fun c4 => ?_)
  ·
    have r5 : R (1) (2147483647) a0 := ⟨by omega, by omega⟩
    refine r_iconst S dX10_isLevel_27 (by decide) (fun v6 z7 => ?_)
    have r8 := R_eq z7
    exact r_ret S hr hlk X ⟨rfl, (R_of r8 rfl)⟩ (nr_bool (R_of (lo := 0) (hi := 1) r8 rfl)) dX10_isLevel_28
  ·
    have r9 : R (-2147483648) (9) a0 := ⟨by omega, by omega⟩
    refine r_iload_n S dX10_isLevel_11 rfl (lv_at hl 1 rfl) ?_
    refine r_aload_n S dX10_isLevel_12 rfl (lv_at hl 0 rfl) ?_
    refine r_get (K := 22) (v := .ref (G.2.2.2.1 23)) S X (Nat.le_of_ble_eq_true rfl) rfl lk10_12_8 (fun _ => ⟨_, rfl, rfl⟩) dX10_isLevel_13 ?_
    refine r_geti (K := 4) S X (Nat.le_of_ble_eq_true rfl) rfl lk10_97_2 (fun _ => ⟨_, rfl, rfl⟩) z2 dX10_isLevel_16 ?_
    refine r_ineg S dX10_isLevel_19 (fun v10 z11 => ?_)
    obtain ⟨e12, r13⟩ := i_neg (lo := -9) (hi := 0) z11 r3 rfl
    refine r_icmp_lt (tgt := 27) S dX10_isLevel_20 (by decide) (fun c14 => ?_) (fun c14 => ?_)
    ·
      have r15 : R (-2147483648) (-1) a0 := ⟨by omega, by omega⟩
      refine r_iconst S dX10_isLevel_27 (by decide) (fun v16 z17 => ?_)
      have r18 := R_eq z17
      exact r_ret S hr hlk X ⟨rfl, (R_of r18 rfl)⟩ (nr_bool (R_of (lo := 0) (hi := 1) r18 rfl)) dX10_isLevel_28
    ·
      have r19 : R (-9) (9) a0 := ⟨by omega, by omega⟩
      refine r_iconst S dX10_isLevel_23 (by decide) (fun v20 z21 => ?_)
      have r22 := R_eq z21
      refine r_goto (tgt := 28) S dX10_isLevel_24 (by decide) ?_
      exact r_ret S hr hlk X ⟨rfl, (R_of r22 rfl)⟩ (nr_bool (R_of (lo := 0) (hi := 1) r22 rfl)) dX10_isLevel_28
def po_X10_here (τ : Tau)   (r : Int32) (u : Tau) : Prop := u = τ ∧ R (0) (1023) r
set_option maxHeartbeats 4000000 in
set_option maxRecDepth 100000 in
theorem c_X10_here (l : Launch) (G : Gx) (τ : Tau) (hI : Inv τ) : Ci l G yX10_here cX10_here 1 (some .int) 1 20 [.ref (G.2.2.2.1 22)] τ (po_X10_here τ  ) := by
  unfold Ci
  refine C_of (own := RX10) (by decide) rfl (Nat.le_of_ble_eq_true rfl) ?_
  intro p e s m below meth c ls S hr hlk X hl
  have hl : lv_has ls 1 [(0, .ref (G.2.2.2.1 22))] := hl
  refine r_aload_n S dX10_here_0 rfl (lv_at hl 0 rfl) ?_
  refine r_get (K := 22) (v := .ref (G.2.2.2.1 30)) S X (Nat.le_of_ble_eq_true rfl) rfl lk10_21_8 (fun _ => ⟨_, rfl, rfl⟩) dX10_here_1 ?_
  refine r_getn (K := 23) S X (Nat.le_of_ble_eq_true rfl) rfl lk10_59_3 (fun _ => ⟨_, rfl, rfl⟩) dX10_here_4 (fun v1 z2 => ?_)
  have r3 : R (0) (1) v1 := rd hI rfl z2
  refine r_iconst S dX10_here_7 (by decide) (fun v4 z5 => ?_)
  have r6 := R_eq z5
  refine r_icmp_ne (tgt := 21) S dX10_here_8 (by decide) (fun c7 => ?_) (fun c7 => ?_)
  ·
    have r8 : R (0) (0) v1 := ⟨by omega, by omega⟩
    refine r_aload_n S dX10_here_21 rfl (lv_at hl 0 rfl) ?_
    refine r_get (K := 22) (v := .ref (G.2.2.2.1 23)) S X (Nat.le_of_ble_eq_true rfl) rfl lk10_12_8 (fun _ => ⟨_, rfl, rfl⟩) dX10_here_22 ?_
    refine r_ki (q_V (As := []) (rest := []) (K := 4) (ci := 2) S X (c_X2_everyone l G τ hI 23 (Nat.le_of_ble_eq_true rfl) rfl) ck10_55 (Nat.le_of_ble_eq_true rfl) rfl (fun _ => ⟨_, rfl⟩) ⟨_, _, rfl⟩ ⟨Nat.le_of_ble_eq_true rfl, Nat.le_of_ble_eq_true rfl⟩ rfl hl.1 rfl (Nat.le_of_ble_eq_true rfl) dX10_here_25 ⟨Nat.le_refl 0, Nat.le_refl 0⟩) X (fun v12 t11 H lc q9 X10 => ?_)
    unfold po_X2_everyone at q9
    obtain ⟨q13, q14⟩ := q9
    rw [q13] at X10
    refine r_aload_n S dX10_here_28 rfl (lv_at hl 0 rfl) ?_
    refine r_get (K := 22) (v := .ref (G.2.2.2.1 30)) S X10 (Nat.le_of_ble_eq_true rfl) rfl lk10_21_8 (fun _ => ⟨_, rfl, rfl⟩) dX10_here_29 ?_
    refine r_getn (K := 23) S X10 (Nat.le_of_ble_eq_true rfl) rfl lk10_62_3 (fun _ => ⟨_, rfl, rfl⟩) dX10_here_32 (fun v15 z16 => ?_)
    have r17 : R (0) (1023) v15 := rd hI rfl z16
    refine r_iconst S dX10_here_35 (by decide) (fun v18 z19 => ?_)
    have r20 := R_eq z19
    refine r_ixor S dX10_here_36 (fun v21 z22 => ?_)
    have r23 := R_any v21
    refine r_iand S dX10_here_37 (fun v24 z25 => ?_)
    have r27 : R (0) (1023) v24 := i_and1 z25 q14 r23 rfl
    have e28 := i_andle z25 q14 rfl
    exact r_ret S hr hlk X10 ⟨rfl, r27⟩ rfl dX10_here_38
  ·
    have r29 : R (1) (1) v1 := ⟨by omega, by omega⟩
    refine r_aload_n S dX10_here_11 rfl (lv_at hl 0 rfl) ?_
    refine r_get (K := 22) (v := .ref (G.2.2.2.1 30)) S X (Nat.le_of_ble_eq_true rfl) rfl lk10_21_8 (fun _ => ⟨_, rfl, rfl⟩) dX10_here_12 ?_
    refine r_getn (K := 23) S X (Nat.le_of_ble_eq_true rfl) rfl lk10_62_3 (fun _ => ⟨_, rfl, rfl⟩) dX10_here_15 (fun v30 z31 => ?_)
    have r32 : R (0) (1023) v30 := rd hI rfl z31
    refine r_goto (tgt := 38) S dX10_here_18 (by decide) ?_
    exact r_ret S hr hlk X ⟨rfl, r32⟩ rfl dX10_here_38
def po_X10_around (τ : Tau)  (a0 : Int32) (r : Int32) (u : Tau) : Prop := u = τ ∧ R (0) (1023) r
set_option maxHeartbeats 4000000 in
set_option maxRecDepth 100000 in
theorem c_X10_around (l : Launch) (G : Gx) (τ : Tau) (hI : Inv τ) (a0 : Int32) (h_a0 : R (-2147483648) (2147483647) a0) : Ci l G yX10_around cX10_around 2 (some .int) 1 21 [.ref (G.2.2.2.1 22), .int a0] τ (po_X10_around τ  a0) := by
  unfold Ci
  refine C_of (own := RX10) (by decide) rfl (Nat.le_of_ble_eq_true rfl) ?_
  intro p e s m below meth c ls S hr hlk X hl
  have hl : lv_has ls 2 [(0, .ref (G.2.2.2.1 22)), (1, .int a0)] := hl
  refine r_aload_n S dX10_around_0 rfl (lv_at hl 0 rfl) ?_
  refine r_get (K := 22) (v := .ref (G.2.2.2.1 30)) S X (Nat.le_of_ble_eq_true rfl) rfl lk10_21_8 (fun _ => ⟨_, rfl, rfl⟩) dX10_around_1 ?_
  refine r_getn (K := 23) S X (Nat.le_of_ble_eq_true rfl) rfl lk10_62_3 (fun _ => ⟨_, rfl, rfl⟩) dX10_around_4 (fun v1 z2 => ?_)
  have r3 : R (0) (1023) v1 := rd hI rfl z2
  refine r_iload_n S dX10_around_7 rfl (lv_at hl 1 rfl) ?_
  refine r_ki (q_N (As := [.int v1, .int a0]) (rest := []) S X (c_X11_bit l G τ hI v1 a0 (R_of (lo := -2147483648) (hi := 2147483647) r3 rfl) h_a0) ck10_65 ⟨Nat.le_of_ble_eq_true rfl, Nat.le_of_ble_eq_true rfl⟩ rfl hl.1 rfl (Nat.le_of_ble_eq_true rfl) dX10_around_8 ⟨Nat.le_refl 0, Nat.le_refl 0⟩) X (fun v7 t6 H lc q4 X5 => ?_)
  unfold po_X11_bit at q4
  obtain ⟨q8, q9⟩ := q4
  rw [q8] at X5
  refine r_iconst S dX10_around_11 (by decide) (fun v10 z11 => ?_)
  have r12 := R_eq z11
  refine r_icmp_ne (tgt := 25) S dX10_around_12 (by decide) (fun c13 => ?_) (fun c13 => ?_)
  ·
    have r14 : R (0) (0) v7 := ⟨by omega, by omega⟩
    refine r_aload_n S dX10_around_25 rfl (lv_at hl 0 rfl) ?_
    refine r_get (K := 22) (v := .ref (G.2.2.2.1 23)) S X5 (Nat.le_of_ble_eq_true rfl) rfl lk10_12_8 (fun _ => ⟨_, rfl, rfl⟩) dX10_around_26 ?_
    refine r_ki (q_V (As := []) (rest := []) (K := 4) (ci := 2) S X5 (c_X2_everyone l G τ hI 23 (Nat.le_of_ble_eq_true rfl) rfl) ck10_55 (Nat.le_of_ble_eq_true rfl) rfl (fun _ => ⟨_, rfl⟩) ⟨_, _, rfl⟩ ⟨Nat.le_of_ble_eq_true rfl, Nat.le_of_ble_eq_true rfl⟩ rfl hl.1 rfl (Nat.le_of_ble_eq_true rfl) dX10_around_29 ⟨Nat.le_refl 0, Nat.le_refl 0⟩) X5 (fun v18 t17 H lc q15 X16 => ?_)
    unfold po_X2_everyone at q15
    obtain ⟨q19, q20⟩ := q15
    rw [q19] at X16
    refine r_aload_n S dX10_around_32 rfl (lv_at hl 0 rfl) ?_
    refine r_get (K := 22) (v := .ref (G.2.2.2.1 30)) S X16 (Nat.le_of_ble_eq_true rfl) rfl lk10_21_8 (fun _ => ⟨_, rfl, rfl⟩) dX10_around_33 ?_
    refine r_geti (K := 23) S X16 (Nat.le_of_ble_eq_true rfl) rfl lk10_62_3 (fun _ => ⟨_, rfl, rfl⟩) z2 dX10_around_36 ?_
    refine r_iconst S dX10_around_39 (by decide) (fun v21 z22 => ?_)
    have r23 := R_eq z22
    refine r_ixor S dX10_around_40 (fun v24 z25 => ?_)
    have r26 := R_any v24
    refine r_iand S dX10_around_41 (fun v27 z28 => ?_)
    have r30 : R (0) (1023) v27 := i_and1 z28 q20 r26 rfl
    have e31 := i_andle z28 q20 rfl
    exact r_ret S hr hlk X16 ⟨rfl, r30⟩ rfl dX10_around_42
  ·
    have r32 : R (1) (1) v7 := ⟨by omega, by omega⟩
    refine r_aload_n S dX10_around_15 rfl (lv_at hl 0 rfl) ?_
    refine r_get (K := 22) (v := .ref (G.2.2.2.1 30)) S X5 (Nat.le_of_ble_eq_true rfl) rfl lk10_21_8 (fun _ => ⟨_, rfl, rfl⟩) dX10_around_16 ?_
    refine r_geti (K := 23) S X5 (Nat.le_of_ble_eq_true rfl) rfl lk10_62_3 (fun _ => ⟨_, rfl, rfl⟩) z2 dX10_around_19 ?_
    refine r_goto (tgt := 42) S dX10_around_22 (by decide) ?_
    exact r_ret S hr hlk X5 ⟨rfl, r3⟩ rfl dX10_around_42
def po_X10_partedKin (τ : Tau)   (r : Int32) (u : Tau) : Prop := u = τ
set_option maxHeartbeats 4000000 in
set_option maxRecDepth 100000 in
theorem c_X10_partedKin (l : Launch) (G : Gx) (τ : Tau) (hI : Inv τ) : Ci l G yX10_partedKin cX10_partedKin 3 (some .int) 1 21 [.ref (G.2.2.2.1 22)] τ (po_X10_partedKin τ  ) := by
  unfold Ci
  refine C_of (own := RX10) (by decide) rfl (Nat.le_of_ble_eq_true rfl) ?_
  intro p e s m below meth c ls S hr hlk X hl
  have hl : lv_has ls 3 [(0, .ref (G.2.2.2.1 22))] := hl
  refine r_iconst S dX10_partedKin_0 (by decide) (fun v1 z2 => ?_)
  have r3 := R_eq z2
  refine r_istore_n (lv' := [(1, .int v1), (0, .ref (G.2.2.2.1 22))]) S dX10_partedKin_1 rfl hl (by decide) rfl (fun ls hl => ?_)
  refine r_iconst S dX10_partedKin_2 (by decide) (fun v4 z5 => ?_)
  have r6 := R_eq z5
  refine r_istore_n (lv' := [(2, .int v4), (1, .int v1), (0, .ref (G.2.2.2.1 22))]) S dX10_partedKin_3 rfl hl (by decide) rfl (fun ls hl => ?_)
  have L816 : ∀ (n : Nat) (H : Heap) (lc : List Loc) (ls : Array Slot) (i811 : Int32) (i813 : Int32), Xd G s H lc τ → R (-2147483648) (2147483647) i811 → R (0) (10) i813 → lv_has ls 3 [(0, .ref (G.2.2.2.1 22)), (1, .int i811), (2, .int i813)] → (10 - i813.toInt).toNat < n → W p l e (Rm 1 21) s m ([.ref (G.2.2.2.1 22)] : List Value).toArray below meth c H lc 0 0 (MQ below (va_Qi (po_X10_partedKin τ  ) (Bs G) G.2.2.2.2) ([.ref (G.2.2.2.1 22)] : List Value).toArray s 0 0 G.2.2.2.2) (F0 m 4 ls []) := by
    intro n
    induction n with
    | zero => intros; omega
    | succ n ih817 =>
      intro H lc ls i811 i813 X815 r812 r814 hl hm
      refine r_iload_n S dX10_partedKin_4 rfl (lv_at hl 2 rfl) ?_
      refine r_aload_n S dX10_partedKin_5 rfl (lv_at hl 0 rfl) ?_
      refine r_get (K := 22) (v := .ref (G.2.2.2.1 23)) S X815 (Nat.le_of_ble_eq_true rfl) rfl lk10_12_8 (fun _ => ⟨_, rfl, rfl⟩) dX10_partedKin_6 ?_
      refine r_getn (K := 4) S X815 (Nat.le_of_ble_eq_true rfl) rfl lk10_49_2 (fun _ => ⟨_, rfl, rfl⟩) dX10_partedKin_9 (fun v818 z819 => ?_)
      have r820 : R (0) (10) v818 := rd hI rfl z819
      refine r_icmp_ge (tgt := 61) S dX10_partedKin_12 (by decide) (fun c821 => ?_) (fun c821 => ?_)
      ·
        refine r_iload_n S dX10_partedKin_61 rfl (lv_at hl 1 rfl) ?_
        exact r_ret S hr hlk X815 rfl rfl dX10_partedKin_62
      ·
        have r822 : R (0) (9) i813 := ⟨by omega, by omega⟩
        have r823 : R (1) (10) v818 := ⟨by omega, by omega⟩
        refine r_aload_n S dX10_partedKin_15 rfl (lv_at hl 0 rfl) ?_
        refine r_get (K := 22) (v := .ref (G.2.2.2.1 30)) S X815 (Nat.le_of_ble_eq_true rfl) rfl lk10_21_8 (fun _ => ⟨_, rfl, rfl⟩) dX10_partedKin_16 ?_
        refine r_getn (K := 23) S X815 (Nat.le_of_ble_eq_true rfl) rfl lk10_62_3 (fun _ => ⟨_, rfl, rfl⟩) dX10_partedKin_19 (fun v824 z825 => ?_)
        have r826 : R (0) (1023) v824 := rd hI rfl z825
        refine r_iload_n S dX10_partedKin_22 rfl (lv_at hl 2 rfl) ?_
        refine r_ki (q_N (As := [.int v824, .int i813]) (rest := []) S X815 (c_X11_bit l G τ hI v824 i813 (R_of (lo := -2147483648) (hi := 2147483647) r826 rfl) (R_of (lo := -2147483648) (hi := 2147483647) r822 rfl)) ck10_65 ⟨Nat.le_of_ble_eq_true rfl, Nat.le_of_ble_eq_true rfl⟩ rfl hl.1 rfl (Nat.le_of_ble_eq_true rfl) dX10_partedKin_23 ⟨Nat.le_refl 0, Nat.le_refl 0⟩) X815 (fun v830 t829 H lc q827 X828 => ?_)
        unfold po_X11_bit at q827
        obtain ⟨q831, q832⟩ := q827
        rw [q831] at X828
        refine r_iconst S dX10_partedKin_26 (by decide) (fun v833 z834 => ?_)
        have r835 := R_eq z834
        refine r_icmp_ne (tgt := 55) S dX10_partedKin_27 (by decide) (fun c836 => ?_) (fun c836 => ?_)
        ·
          have r837 : R (0) (0) v830 := ⟨by omega, by omega⟩
          refine r_iinc (k := 2) S dX10_partedKin_55 hl rfl (by decide) (by decide) (fun v838 d839 ls z840 z841 hl => ?_)
          obtain ⟨e842, r843⟩ := i_add (lo := 1) (hi := 10) z840 r822 (R_eq z841) rfl
          have hl : lv_has ls 3 [(2, .int v838), (0, .ref (G.2.2.2.1 22)), (1, .int i811)] := hl
          refine r_goto (tgt := 4) S dX10_partedKin_58 (by decide) ?_
          exact ih817 _ _ _ i811 v838 X828 r812 (R_of r843 rfl) (lv_sub hl [1, 2, 0] rfl) (by omega)
        ·
          have r844 : R (1) (1) v830 := ⟨by omega, by omega⟩
          refine r_iload_n S dX10_partedKin_30 rfl (lv_at hl 1 rfl) ?_
          refine r_aload_n S dX10_partedKin_31 rfl (lv_at hl 0 rfl) ?_
          refine r_get (K := 22) (v := .ref (G.2.2.2.1 23)) S X828 (Nat.le_of_ble_eq_true rfl) rfl lk10_12_8 (fun _ => ⟨_, rfl, rfl⟩) dX10_partedKin_32 ?_
          refine r_get (K := 4) (v := .ref (G.2.2.2.1 26)) S X828 (Nat.le_of_ble_eq_true rfl) rfl lk10_69_2 (fun _ => ⟨_, rfl, rfl⟩) dX10_partedKin_35 ?_
          refine r_iload_n S dX10_partedKin_38 rfl (lv_at hl 2 rfl) ?_
          refine r_aldn (n := 10) (K := 7) S X828 (Nat.le_of_ble_eq_true rfl) rfl (fun _ => rfl) (ix_of r822 rfl) dX10_partedKin_39 (fun v845 z846 => ?_)
          have r847 : R (0) (1023) v845 := rd hI rfl z846
          refine r_aload_n S dX10_partedKin_40 rfl (lv_at hl 0 rfl) ?_
          refine r_get (K := 22) (v := .ref (G.2.2.2.1 30)) S X828 (Nat.le_of_ble_eq_true rfl) rfl lk10_21_8 (fun _ => ⟨_, rfl, rfl⟩) dX10_partedKin_41 ?_
          refine r_geti (K := 23) S X828 (Nat.le_of_ble_eq_true rfl) rfl lk10_62_3 (fun _ => ⟨_, rfl, rfl⟩) z825 dX10_partedKin_44 ?_
          refine r_iconst S dX10_partedKin_47 (by decide) (fun v848 z849 => ?_)
          have r850 := R_eq z849
          refine r_ixor S dX10_partedKin_48 (fun v851 z852 => ?_)
          have r853 := R_any v851
          refine r_iand S dX10_partedKin_49 (fun v854 z855 => ?_)
          have r857 : R (0) (1023) v854 := i_and1 z855 r847 r853 rfl
          have e858 := i_andle z855 r847 rfl
          refine r_ki (q_S (As := [.int v854]) (rest := [.int i811]) S X828 (c_J6_bitCount_0f7a4 l G τ hI v854 (R_of (lo := -2147483648) (hi := 2147483647) r857 rfl)) ck10_73 ⟨Nat.le_of_ble_eq_true rfl, Nat.le_of_ble_eq_true rfl⟩ rfl hl.1 rfl (Nat.le_of_ble_eq_true rfl) dX10_partedKin_50 ⟨Nat.le_refl 0, Nat.le_refl 0⟩) X828 (fun v862 t861 H lc q859 X860 => ?_)
          unfold po_J6_bitCount_0f7a4 at q859
          obtain ⟨q863, q864⟩ := q859
          rw [q863] at X860
          refine r_iadd S dX10_partedKin_53 (fun v865 z866 => ?_)
          have r867 := R_any v865
          refine r_istore_n (lv' := [(1, .int v865), (0, .ref (G.2.2.2.1 22)), (2, .int i813)]) S dX10_partedKin_54 rfl hl (by decide) rfl (fun ls hl => ?_)
          refine r_iinc (k := 2) S dX10_partedKin_55 hl rfl (by decide) (by decide) (fun v868 d869 ls z870 z871 hl => ?_)
          obtain ⟨e872, r873⟩ := i_add (lo := 1) (hi := 10) z870 r822 (R_eq z871) rfl
          have hl : lv_has ls 3 [(2, .int v868), (1, .int v865), (0, .ref (G.2.2.2.1 22))] := hl
          refine r_goto (tgt := 4) S dX10_partedKin_58 (by decide) ?_
          exact ih817 _ _ _ v865 v868 X860 r867 (R_of r873 rfl) (lv_sub hl [2, 1, 0] rfl) (by omega)
  exact L816 _ _ _ _ v1 v4 X (R_of r3 rfl) (R_of r6 rfl) (lv_sub hl [2, 1, 0] rfl) (Nat.lt_succ_self _)
def po_X10_spoken (τ : Tau)  (a0 a1 : Int32) (r : Int32) (u : Tau) : Prop := u = τ ∧ R (-9) (9) r
set_option maxHeartbeats 4000000 in
set_option maxRecDepth 100000 in
theorem c_X10_spoken (l : Launch) (G : Gx) (τ : Tau) (hI : Inv τ) (a0 : Int32) (a1 : Int32) (h_a0 : R (0) (9) a0) (h_a1 : R (0) (8) a1) : Ci l G yX10_spoken cX10_spoken 7 (some .int) 1 21 [.ref (G.2.2.2.1 22), .int a0, .int a1] τ (po_X10_spoken τ  a0 a1) := by
  unfold Ci
  refine C_of (own := RX10) (by decide) rfl (Nat.le_of_ble_eq_true rfl) ?_
  intro p e s m below meth c ls S hr hlk X hl
  have hl : lv_has ls 7 [(0, .ref (G.2.2.2.1 22)), (1, .int a0), (2, .int a1)] := hl
  refine r_aload_n S dX10_spoken_0 rfl (lv_at hl 0 rfl) ?_
  refine r_get (K := 22) (v := .ref (G.2.2.2.1 23)) S X (Nat.le_of_ble_eq_true rfl) rfl lk10_12_8 (fun _ => ⟨_, rfl, rfl⟩) dX10_spoken_1 ?_
  refine r_get (K := 4) (v := .ref (G.2.2.2.1 25)) S X (Nat.le_of_ble_eq_true rfl) rfl lk10_79_2 (fun _ => ⟨_, rfl, rfl⟩) dX10_spoken_4 ?_
  refine r_iload_n S dX10_spoken_7 rfl (lv_at hl 1 rfl) ?_
  refine r_aldn (n := 10) (K := 6) S X (Nat.le_of_ble_eq_true rfl) rfl (fun _ => rfl) (ix_of h_a0 rfl) dX10_spoken_8 (fun v1 z2 => ?_)
  have r3 : R (-1) (9) v1 := rd hI rfl z2
  refine r_istore_n (lv' := [(3, .int v1), (0, .ref (G.2.2.2.1 22)), (1, .int a0), (2, .int a1)]) S dX10_spoken_9 rfl hl (by decide) rfl (fun ls hl => ?_)
  refine r_iload_n S dX10_spoken_10 rfl (lv_at hl 0 rfl) ?_
  refine r_iconst S dX10_spoken_11 (by decide) (fun v4 z5 => ?_)
  have r6 := R_eq z5
  refine r_icmp_eq (tgt := 60) S dX10_spoken_12 (by decide) (fun c7 => ?_) (fun c7 => ?_)
  ·
    have r8 : R (-1) (-1) v1 := ⟨by omega, by omega⟩
    refine r_iconst S dX10_spoken_60 (by decide) (fun v9 z10 => ?_)
    have r11 := R_eq z10
    refine r_istore (lv' := [(4, .int v9), (3, .int v1), (0, .ref (G.2.2.2.1 22)), (1, .int a0), (2, .int a1)]) S dX10_spoken_61 hl (by decide) rfl (fun ls hl => ?_)
    refine r_iload S dX10_spoken_63 (lv_at hl 0 rfl) ?_
    refine r_if_eq (tgt := 72) S dX10_spoken_65 (by decide) (fun c12 => ?_) (fun c12 => ?_)
    ·
      refine r_iload_n S dX10_spoken_72 rfl (lv_at hl 3 rfl) ?_
      refine r_istore (lv' := [(5, .int a0), (4, .int v9), (3, .int v1), (0, .ref (G.2.2.2.1 22)), (1, .int a0), (2, .int a1)]) S dX10_spoken_73 hl (by decide) rfl (fun ls hl => ?_)
      refine r_iload S dX10_spoken_75 (lv_at hl 0 rfl) ?_
      refine r_bipush S dX10_spoken_77 (by decide) (fun v13 z14 => ?_)
      have r15 := R_eq z14
      refine r_imul S dX10_spoken_79 (fun v16 z17 => ?_)
      obtain ⟨e18, r19⟩ := i_mul (lo := 0) (hi := 81) z17 h_a0 r15 rfl rfl
      refine r_iload_n S dX10_spoken_80 rfl (lv_at hl 5 rfl) ?_
      refine r_iadd S dX10_spoken_81 (fun v20 z21 => ?_)
      obtain ⟨e22, r23⟩ := i_add (lo := 0) (hi := 89) z21 r19 h_a1 rfl
      refine r_istore (lv' := [(6, .int v20), (5, .int a0), (4, .int v9), (3, .int v1), (0, .ref (G.2.2.2.1 22)), (1, .int a0), (2, .int a1)]) S dX10_spoken_82 hl (by decide) rfl (fun ls hl => ?_)
      refine r_aload_n S dX10_spoken_84 rfl (lv_at hl 4 rfl) ?_
      refine r_get (K := 22) (v := .ref (G.2.2.2.1 30)) S X (Nat.le_of_ble_eq_true rfl) rfl lk10_21_8 (fun _ => ⟨_, rfl, rfl⟩) dX10_spoken_85 ?_
      refine r_get (K := 23) (v := .ref (G.2.2.2.1 33)) S X (Nat.le_of_ble_eq_true rfl) rfl lk10_82_3 (fun _ => ⟨_, rfl, rfl⟩) dX10_spoken_88 ?_
      refine r_iload S dX10_spoken_91 (lv_at hl 1 rfl) ?_
      refine r_aldn (n := 10) (K := 26) S X (Nat.le_of_ble_eq_true rfl) rfl (fun _ => rfl) (ix_of h_a0 rfl) dX10_spoken_93 (fun v24 z25 => ?_)
      have r26 : R (0) (511) v24 := rd hI rfl z25
      refine r_iload_n S dX10_spoken_94 rfl (lv_at hl 6 rfl) ?_
      refine r_ki (q_N (As := [.int v24, .int a1]) (rest := []) S X (c_X11_bit l G τ hI v24 a1 (R_of (lo := -2147483648) (hi := 2147483647) r26 rfl) (R_of (lo := -2147483648) (hi := 2147483647) h_a1 rfl)) ck10_65 ⟨Nat.le_of_ble_eq_true rfl, Nat.le_of_ble_eq_true rfl⟩ rfl hl.1 rfl (Nat.le_of_ble_eq_true rfl) dX10_spoken_95 ⟨Nat.le_refl 0, Nat.le_refl 0⟩) X (fun v30 t29 H lc q27 X28 => ?_)
      unfold po_X11_bit at q27
      obtain ⟨q31, q32⟩ := q27
      rw [q31] at X28
      refine r_iconst S dX10_spoken_98 (by decide) (fun v33 z34 => ?_)
      have r35 := R_eq z34
      refine r_icmp_ne (tgt := 115) S dX10_spoken_99 (by decide) (fun c36 => ?_) (fun c36 => ?_)
      ·
        have r37 : R (0) (0) v30 := ⟨by omega, by omega⟩
        refine r_aload_n S dX10_spoken_115 rfl (lv_at hl 4 rfl) ?_
        refine r_get (K := 22) (v := .ref (G.2.2.2.1 30)) S X28 (Nat.le_of_ble_eq_true rfl) rfl lk10_21_8 (fun _ => ⟨_, rfl, rfl⟩) dX10_spoken_116 ?_
        refine r_get (K := 23) (v := .ref (G.2.2.2.1 31)) S X28 (Nat.le_of_ble_eq_true rfl) rfl lk10_88_3 (fun _ => ⟨_, rfl, rfl⟩) dX10_spoken_119 ?_
        refine r_iload S dX10_spoken_122 (lv_at hl 0 rfl) ?_
        refine r_aldn (n := 90) (K := 24) S X28 (Nat.le_of_ble_eq_true rfl) rfl (fun _ => rfl) (ix_of r23 rfl) dX10_spoken_124 (fun v38 z39 => ?_)
        have r40 : R (-9) (9) v38 := rd hI rfl z39
        exact r_ret S hr hlk X28 ⟨rfl, r40⟩ rfl dX10_spoken_125
      ·
        have r41 : R (1) (1) v30 := ⟨by omega, by omega⟩
        refine r_aload_n S dX10_spoken_102 rfl (lv_at hl 4 rfl) ?_
        refine r_get (K := 22) (v := .ref (G.2.2.2.1 30)) S X28 (Nat.le_of_ble_eq_true rfl) rfl lk10_21_8 (fun _ => ⟨_, rfl, rfl⟩) dX10_spoken_103 ?_
        refine r_get (K := 23) (v := .ref (G.2.2.2.1 32)) S X28 (Nat.le_of_ble_eq_true rfl) rfl lk10_85_3 (fun _ => ⟨_, rfl, rfl⟩) dX10_spoken_106 ?_
        refine r_iload S dX10_spoken_109 (lv_at hl 0 rfl) ?_
        refine r_aldn (n := 90) (K := 25) S X28 (Nat.le_of_ble_eq_true rfl) rfl (fun _ => rfl) (ix_of r23 rfl) dX10_spoken_111 (fun v42 z43 => ?_)
        have r44 : R (-9) (9) v42 := rd hI rfl z43
        refine r_goto (tgt := 125) S dX10_spoken_112 (by decide) ?_
        exact r_ret S hr hlk X28 ⟨rfl, r44⟩ rfl dX10_spoken_125
    ·
      exfalso; omega
  ·
    have r45 : R (0) (9) v1 := ⟨by omega, by omega⟩
    refine r_aload_n S dX10_spoken_15 rfl (lv_at hl 1 rfl) ?_
    refine r_get (K := 22) (v := .ref (G.2.2.2.1 30)) S X (Nat.le_of_ble_eq_true rfl) rfl lk10_21_8 (fun _ => ⟨_, rfl, rfl⟩) dX10_spoken_16 ?_
    refine r_get (K := 23) (v := .ref (G.2.2.2.1 33)) S X (Nat.le_of_ble_eq_true rfl) rfl lk10_82_3 (fun _ => ⟨_, rfl, rfl⟩) dX10_spoken_19 ?_
    refine r_iload_n S dX10_spoken_22 rfl (lv_at hl 2 rfl) ?_
    refine r_aldn (n := 10) (K := 26) S X (Nat.le_of_ble_eq_true rfl) rfl (fun _ => rfl) (ix_of h_a0 rfl) dX10_spoken_23 (fun v46 z47 => ?_)
    have r48 : R (0) (511) v46 := rd hI rfl z47
    refine r_iload_n S dX10_spoken_24 rfl (lv_at hl 3 rfl) ?_
    refine r_ki (q_N (As := [.int v46, .int a1]) (rest := []) S X (c_X11_bit l G τ hI v46 a1 (R_of (lo := -2147483648) (hi := 2147483647) r48 rfl) (R_of (lo := -2147483648) (hi := 2147483647) h_a1 rfl)) ck10_65 ⟨Nat.le_of_ble_eq_true rfl, Nat.le_of_ble_eq_true rfl⟩ rfl hl.1 rfl (Nat.le_of_ble_eq_true rfl) dX10_spoken_25 ⟨Nat.le_refl 0, Nat.le_refl 0⟩) X (fun v52 t51 H lc q49 X50 => ?_)
    unfold po_X11_bit at q49
    obtain ⟨q53, q54⟩ := q49
    rw [q53] at X50
    refine r_if_ne (tgt := 60) S dX10_spoken_28 (by decide) (fun c55 => ?_) (fun c55 => ?_)
    ·
      have r56 : R (1) (1) v52 := ⟨by omega, by omega⟩
      refine r_iconst S dX10_spoken_60 (by decide) (fun v57 z58 => ?_)
      have r59 := R_eq z58
      refine r_istore (lv' := [(4, .int v57), (3, .int v1), (0, .ref (G.2.2.2.1 22)), (1, .int a0), (2, .int a1)]) S dX10_spoken_61 hl (by decide) rfl (fun ls hl => ?_)
      refine r_iload S dX10_spoken_63 (lv_at hl 0 rfl) ?_
      refine r_if_eq (tgt := 72) S dX10_spoken_65 (by decide) (fun c60 => ?_) (fun c60 => ?_)
      ·
        refine r_iload_n S dX10_spoken_72 rfl (lv_at hl 3 rfl) ?_
        refine r_istore (lv' := [(5, .int a0), (4, .int v57), (3, .int v1), (0, .ref (G.2.2.2.1 22)), (1, .int a0), (2, .int a1)]) S dX10_spoken_73 hl (by decide) rfl (fun ls hl => ?_)
        refine r_iload S dX10_spoken_75 (lv_at hl 0 rfl) ?_
        refine r_bipush S dX10_spoken_77 (by decide) (fun v61 z62 => ?_)
        have r63 := R_eq z62
        refine r_imul S dX10_spoken_79 (fun v64 z65 => ?_)
        obtain ⟨e66, r67⟩ := i_mul (lo := 0) (hi := 81) z65 h_a0 r63 rfl rfl
        refine r_iload_n S dX10_spoken_80 rfl (lv_at hl 5 rfl) ?_
        refine r_iadd S dX10_spoken_81 (fun v68 z69 => ?_)
        obtain ⟨e70, r71⟩ := i_add (lo := 0) (hi := 89) z69 r67 h_a1 rfl
        refine r_istore (lv' := [(6, .int v68), (5, .int a0), (4, .int v57), (3, .int v1), (0, .ref (G.2.2.2.1 22)), (1, .int a0), (2, .int a1)]) S dX10_spoken_82 hl (by decide) rfl (fun ls hl => ?_)
        refine r_aload_n S dX10_spoken_84 rfl (lv_at hl 4 rfl) ?_
        refine r_get (K := 22) (v := .ref (G.2.2.2.1 30)) S X50 (Nat.le_of_ble_eq_true rfl) rfl lk10_21_8 (fun _ => ⟨_, rfl, rfl⟩) dX10_spoken_85 ?_
        refine r_get (K := 23) (v := .ref (G.2.2.2.1 33)) S X50 (Nat.le_of_ble_eq_true rfl) rfl lk10_82_3 (fun _ => ⟨_, rfl, rfl⟩) dX10_spoken_88 ?_
        refine r_iload S dX10_spoken_91 (lv_at hl 1 rfl) ?_
        refine r_aldn (n := 10) (K := 26) S X50 (Nat.le_of_ble_eq_true rfl) rfl (fun _ => rfl) (ix_of h_a0 rfl) dX10_spoken_93 (fun v72 z73 => ?_)
        have r74 : R (0) (511) v72 := rd hI rfl z73
        refine r_iload_n S dX10_spoken_94 rfl (lv_at hl 6 rfl) ?_
        refine r_ki (q_N (As := [.int v72, .int a1]) (rest := []) S X50 (c_X11_bit l G τ hI v72 a1 (R_of (lo := -2147483648) (hi := 2147483647) r74 rfl) (R_of (lo := -2147483648) (hi := 2147483647) h_a1 rfl)) ck10_65 ⟨Nat.le_of_ble_eq_true rfl, Nat.le_of_ble_eq_true rfl⟩ rfl hl.1 rfl (Nat.le_of_ble_eq_true rfl) dX10_spoken_95 ⟨Nat.le_refl 0, Nat.le_refl 0⟩) X50 (fun v78 t77 H lc q75 X76 => ?_)
        unfold po_X11_bit at q75
        obtain ⟨q79, q80⟩ := q75
        rw [q79] at X76
        refine r_iconst S dX10_spoken_98 (by decide) (fun v81 z82 => ?_)
        have r83 := R_eq z82
        refine r_icmp_ne (tgt := 115) S dX10_spoken_99 (by decide) (fun c84 => ?_) (fun c84 => ?_)
        ·
          have r85 : R (0) (0) v78 := ⟨by omega, by omega⟩
          refine r_aload_n S dX10_spoken_115 rfl (lv_at hl 4 rfl) ?_
          refine r_get (K := 22) (v := .ref (G.2.2.2.1 30)) S X76 (Nat.le_of_ble_eq_true rfl) rfl lk10_21_8 (fun _ => ⟨_, rfl, rfl⟩) dX10_spoken_116 ?_
          refine r_get (K := 23) (v := .ref (G.2.2.2.1 31)) S X76 (Nat.le_of_ble_eq_true rfl) rfl lk10_88_3 (fun _ => ⟨_, rfl, rfl⟩) dX10_spoken_119 ?_
          refine r_iload S dX10_spoken_122 (lv_at hl 0 rfl) ?_
          refine r_aldn (n := 90) (K := 24) S X76 (Nat.le_of_ble_eq_true rfl) rfl (fun _ => rfl) (ix_of r71 rfl) dX10_spoken_124 (fun v86 z87 => ?_)
          have r88 : R (-9) (9) v86 := rd hI rfl z87
          exact r_ret S hr hlk X76 ⟨rfl, r88⟩ rfl dX10_spoken_125
        ·
          have r89 : R (1) (1) v78 := ⟨by omega, by omega⟩
          refine r_aload_n S dX10_spoken_102 rfl (lv_at hl 4 rfl) ?_
          refine r_get (K := 22) (v := .ref (G.2.2.2.1 30)) S X76 (Nat.le_of_ble_eq_true rfl) rfl lk10_21_8 (fun _ => ⟨_, rfl, rfl⟩) dX10_spoken_103 ?_
          refine r_get (K := 23) (v := .ref (G.2.2.2.1 32)) S X76 (Nat.le_of_ble_eq_true rfl) rfl lk10_85_3 (fun _ => ⟨_, rfl, rfl⟩) dX10_spoken_106 ?_
          refine r_iload S dX10_spoken_109 (lv_at hl 0 rfl) ?_
          refine r_aldn (n := 90) (K := 25) S X76 (Nat.le_of_ble_eq_true rfl) rfl (fun _ => rfl) (ix_of r71 rfl) dX10_spoken_111 (fun v90 z91 => ?_)
          have r92 : R (-9) (9) v90 := rd hI rfl z91
          refine r_goto (tgt := 125) S dX10_spoken_112 (by decide) ?_
          exact r_ret S hr hlk X76 ⟨rfl, r92⟩ rfl dX10_spoken_125
      ·
        exfalso; omega
    ·
      have r93 : R (0) (0) v52 := ⟨by omega, by omega⟩
      refine r_aload_n S dX10_spoken_31 rfl (lv_at hl 1 rfl) ?_
      refine r_get (K := 22) (v := .ref (G.2.2.2.1 30)) S X50 (Nat.le_of_ble_eq_true rfl) rfl lk10_21_8 (fun _ => ⟨_, rfl, rfl⟩) dX10_spoken_32 ?_
      refine r_getn (K := 23) S X50 (Nat.le_of_ble_eq_true rfl) rfl lk10_62_3 (fun _ => ⟨_, rfl, rfl⟩) dX10_spoken_35 (fun v94 z95 => ?_)
      have r96 : R (0) (1023) v94 := rd hI rfl z95
      refine r_iload_n S dX10_spoken_38 rfl (lv_at hl 2 rfl) ?_
      refine r_ki (q_N (As := [.int v94, .int a0]) (rest := []) S X50 (c_X11_bit l G τ hI v94 a0 (R_of (lo := -2147483648) (hi := 2147483647) r96 rfl) (R_of (lo := -2147483648) (hi := 2147483647) h_a0 rfl)) ck10_65 ⟨Nat.le_of_ble_eq_true rfl, Nat.le_of_ble_eq_true rfl⟩ rfl hl.1 rfl (Nat.le_of_ble_eq_true rfl) dX10_spoken_39 ⟨Nat.le_refl 0, Nat.le_refl 0⟩) X50 (fun v100 t99 H lc q97 X98 => ?_)
      unfold po_X11_bit at q97
      obtain ⟨q101, q102⟩ := q97
      rw [q101] at X98
      refine r_aload_n S dX10_spoken_42 rfl (lv_at hl 1 rfl) ?_
      refine r_get (K := 22) (v := .ref (G.2.2.2.1 30)) S X98 (Nat.le_of_ble_eq_true rfl) rfl lk10_21_8 (fun _ => ⟨_, rfl, rfl⟩) dX10_spoken_43 ?_
      refine r_geti (K := 23) S X98 (Nat.le_of_ble_eq_true rfl) rfl lk10_62_3 (fun _ => ⟨_, rfl, rfl⟩) z95 dX10_spoken_46 ?_
      refine r_iload_n S dX10_spoken_49 rfl (lv_at hl 0 rfl) ?_
      refine r_ki (q_N (As := [.int v94, .int v1]) (rest := [.int v100]) S X98 (c_X11_bit l G τ hI v94 v1 (R_of (lo := -2147483648) (hi := 2147483647) r96 rfl) (R_of (lo := -2147483648) (hi := 2147483647) r45 rfl)) ck10_65 ⟨Nat.le_of_ble_eq_true rfl, Nat.le_of_ble_eq_true rfl⟩ rfl hl.1 rfl (Nat.le_of_ble_eq_true rfl) dX10_spoken_50 ⟨Nat.le_refl 0, Nat.le_refl 0⟩) X98 (fun v106 t105 H lc q103 X104 => ?_)
      unfold po_X11_bit at q103
      obtain ⟨q107, q108⟩ := q103
      rw [q107] at X104
      refine r_icmp_ne (tgt := 60) S dX10_spoken_53 (by decide) (fun c109 => ?_) (fun c109 => ?_)
      ·
        refine r_iconst S dX10_spoken_60 (by decide) (fun v110 z111 => ?_)
        have r112 := R_eq z111
        refine r_istore (lv' := [(4, .int v110), (3, .int v1), (0, .ref (G.2.2.2.1 22)), (1, .int a0), (2, .int a1)]) S dX10_spoken_61 hl (by decide) rfl (fun ls hl => ?_)
        refine r_iload S dX10_spoken_63 (lv_at hl 0 rfl) ?_
        refine r_if_eq (tgt := 72) S dX10_spoken_65 (by decide) (fun c113 => ?_) (fun c113 => ?_)
        ·
          refine r_iload_n S dX10_spoken_72 rfl (lv_at hl 3 rfl) ?_
          refine r_istore (lv' := [(5, .int a0), (4, .int v110), (3, .int v1), (0, .ref (G.2.2.2.1 22)), (1, .int a0), (2, .int a1)]) S dX10_spoken_73 hl (by decide) rfl (fun ls hl => ?_)
          refine r_iload S dX10_spoken_75 (lv_at hl 0 rfl) ?_
          refine r_bipush S dX10_spoken_77 (by decide) (fun v114 z115 => ?_)
          have r116 := R_eq z115
          refine r_imul S dX10_spoken_79 (fun v117 z118 => ?_)
          obtain ⟨e119, r120⟩ := i_mul (lo := 0) (hi := 81) z118 h_a0 r116 rfl rfl
          refine r_iload_n S dX10_spoken_80 rfl (lv_at hl 5 rfl) ?_
          refine r_iadd S dX10_spoken_81 (fun v121 z122 => ?_)
          obtain ⟨e123, r124⟩ := i_add (lo := 0) (hi := 89) z122 r120 h_a1 rfl
          refine r_istore (lv' := [(6, .int v121), (5, .int a0), (4, .int v110), (3, .int v1), (0, .ref (G.2.2.2.1 22)), (1, .int a0), (2, .int a1)]) S dX10_spoken_82 hl (by decide) rfl (fun ls hl => ?_)
          refine r_aload_n S dX10_spoken_84 rfl (lv_at hl 4 rfl) ?_
          refine r_get (K := 22) (v := .ref (G.2.2.2.1 30)) S X104 (Nat.le_of_ble_eq_true rfl) rfl lk10_21_8 (fun _ => ⟨_, rfl, rfl⟩) dX10_spoken_85 ?_
          refine r_get (K := 23) (v := .ref (G.2.2.2.1 33)) S X104 (Nat.le_of_ble_eq_true rfl) rfl lk10_82_3 (fun _ => ⟨_, rfl, rfl⟩) dX10_spoken_88 ?_
          refine r_iload S dX10_spoken_91 (lv_at hl 1 rfl) ?_
          refine r_aldn (n := 10) (K := 26) S X104 (Nat.le_of_ble_eq_true rfl) rfl (fun _ => rfl) (ix_of h_a0 rfl) dX10_spoken_93 (fun v125 z126 => ?_)
          have r127 : R (0) (511) v125 := rd hI rfl z126
          refine r_iload_n S dX10_spoken_94 rfl (lv_at hl 6 rfl) ?_
          refine r_ki (q_N (As := [.int v125, .int a1]) (rest := []) S X104 (c_X11_bit l G τ hI v125 a1 (R_of (lo := -2147483648) (hi := 2147483647) r127 rfl) (R_of (lo := -2147483648) (hi := 2147483647) h_a1 rfl)) ck10_65 ⟨Nat.le_of_ble_eq_true rfl, Nat.le_of_ble_eq_true rfl⟩ rfl hl.1 rfl (Nat.le_of_ble_eq_true rfl) dX10_spoken_95 ⟨Nat.le_refl 0, Nat.le_refl 0⟩) X104 (fun v131 t130 H lc q128 X129 => ?_)
          unfold po_X11_bit at q128
          obtain ⟨q132, q133⟩ := q128
          rw [q132] at X129
          refine r_iconst S dX10_spoken_98 (by decide) (fun v134 z135 => ?_)
          have r136 := R_eq z135
          refine r_icmp_ne (tgt := 115) S dX10_spoken_99 (by decide) (fun c137 => ?_) (fun c137 => ?_)
          ·
            have r138 : R (0) (0) v131 := ⟨by omega, by omega⟩
            refine r_aload_n S dX10_spoken_115 rfl (lv_at hl 4 rfl) ?_
            refine r_get (K := 22) (v := .ref (G.2.2.2.1 30)) S X129 (Nat.le_of_ble_eq_true rfl) rfl lk10_21_8 (fun _ => ⟨_, rfl, rfl⟩) dX10_spoken_116 ?_
            refine r_get (K := 23) (v := .ref (G.2.2.2.1 31)) S X129 (Nat.le_of_ble_eq_true rfl) rfl lk10_88_3 (fun _ => ⟨_, rfl, rfl⟩) dX10_spoken_119 ?_
            refine r_iload S dX10_spoken_122 (lv_at hl 0 rfl) ?_
            refine r_aldn (n := 90) (K := 24) S X129 (Nat.le_of_ble_eq_true rfl) rfl (fun _ => rfl) (ix_of r124 rfl) dX10_spoken_124 (fun v139 z140 => ?_)
            have r141 : R (-9) (9) v139 := rd hI rfl z140
            exact r_ret S hr hlk X129 ⟨rfl, r141⟩ rfl dX10_spoken_125
          ·
            have r142 : R (1) (1) v131 := ⟨by omega, by omega⟩
            refine r_aload_n S dX10_spoken_102 rfl (lv_at hl 4 rfl) ?_
            refine r_get (K := 22) (v := .ref (G.2.2.2.1 30)) S X129 (Nat.le_of_ble_eq_true rfl) rfl lk10_21_8 (fun _ => ⟨_, rfl, rfl⟩) dX10_spoken_103 ?_
            refine r_get (K := 23) (v := .ref (G.2.2.2.1 32)) S X129 (Nat.le_of_ble_eq_true rfl) rfl lk10_85_3 (fun _ => ⟨_, rfl, rfl⟩) dX10_spoken_106 ?_
            refine r_iload S dX10_spoken_109 (lv_at hl 0 rfl) ?_
            refine r_aldn (n := 90) (K := 25) S X129 (Nat.le_of_ble_eq_true rfl) rfl (fun _ => rfl) (ix_of r124 rfl) dX10_spoken_111 (fun v143 z144 => ?_)
            have r145 : R (-9) (9) v143 := rd hI rfl z144
            refine r_goto (tgt := 125) S dX10_spoken_112 (by decide) ?_
            exact r_ret S hr hlk X129 ⟨rfl, r145⟩ rfl dX10_spoken_125
        ·
          exfalso; omega
      ·
        refine r_iconst S dX10_spoken_56 (by decide) (fun v146 z147 => ?_)
        have r148 := R_eq z147
        refine r_goto (tgt := 61) S dX10_spoken_57 (by decide) ?_
        refine r_istore (lv' := [(4, .int v146), (3, .int v1), (0, .ref (G.2.2.2.1 22)), (1, .int a0), (2, .int a1)]) S dX10_spoken_61 hl (by decide) rfl (fun ls hl => ?_)
        refine r_iload S dX10_spoken_63 (lv_at hl 0 rfl) ?_
        refine r_if_eq (tgt := 72) S dX10_spoken_65 (by decide) (fun c149 => ?_) (fun c149 => ?_)
        ·
          exfalso; omega
        ·
          refine r_iload_n S dX10_spoken_68 rfl (lv_at hl 1 rfl) ?_
          refine r_goto (tgt := 73) S dX10_spoken_69 (by decide) ?_
          refine r_istore (lv' := [(5, .int v1), (4, .int v146), (3, .int v1), (0, .ref (G.2.2.2.1 22)), (1, .int a0), (2, .int a1)]) S dX10_spoken_73 hl (by decide) rfl (fun ls hl => ?_)
          refine r_iload S dX10_spoken_75 (lv_at hl 0 rfl) ?_
          refine r_bipush S dX10_spoken_77 (by decide) (fun v150 z151 => ?_)
          have r152 := R_eq z151
          refine r_imul S dX10_spoken_79 (fun v153 z154 => ?_)
          obtain ⟨e155, r156⟩ := i_mul (lo := 0) (hi := 81) z154 r45 r152 rfl rfl
          refine r_iload_n S dX10_spoken_80 rfl (lv_at hl 5 rfl) ?_
          refine r_iadd S dX10_spoken_81 (fun v157 z158 => ?_)
          obtain ⟨e159, r160⟩ := i_add (lo := 0) (hi := 89) z158 r156 h_a1 rfl
          refine r_istore (lv' := [(6, .int v157), (5, .int v1), (4, .int v146), (3, .int v1), (0, .ref (G.2.2.2.1 22)), (1, .int a0), (2, .int a1)]) S dX10_spoken_82 hl (by decide) rfl (fun ls hl => ?_)
          refine r_aload_n S dX10_spoken_84 rfl (lv_at hl 4 rfl) ?_
          refine r_get (K := 22) (v := .ref (G.2.2.2.1 30)) S X104 (Nat.le_of_ble_eq_true rfl) rfl lk10_21_8 (fun _ => ⟨_, rfl, rfl⟩) dX10_spoken_85 ?_
          refine r_get (K := 23) (v := .ref (G.2.2.2.1 33)) S X104 (Nat.le_of_ble_eq_true rfl) rfl lk10_82_3 (fun _ => ⟨_, rfl, rfl⟩) dX10_spoken_88 ?_
          refine r_iload S dX10_spoken_91 (lv_at hl 1 rfl) ?_
          refine r_aldn (n := 10) (K := 26) S X104 (Nat.le_of_ble_eq_true rfl) rfl (fun _ => rfl) (ix_of r45 rfl) dX10_spoken_93 (fun v161 z162 => ?_)
          have r163 : R (0) (511) v161 := rd hI rfl z162
          refine r_iload_n S dX10_spoken_94 rfl (lv_at hl 6 rfl) ?_
          refine r_ki (q_N (As := [.int v161, .int a1]) (rest := []) S X104 (c_X11_bit l G τ hI v161 a1 (R_of (lo := -2147483648) (hi := 2147483647) r163 rfl) (R_of (lo := -2147483648) (hi := 2147483647) h_a1 rfl)) ck10_65 ⟨Nat.le_of_ble_eq_true rfl, Nat.le_of_ble_eq_true rfl⟩ rfl hl.1 rfl (Nat.le_of_ble_eq_true rfl) dX10_spoken_95 ⟨Nat.le_refl 0, Nat.le_refl 0⟩) X104 (fun v167 t166 H lc q164 X165 => ?_)
          unfold po_X11_bit at q164
          obtain ⟨q168, q169⟩ := q164
          rw [q168] at X165
          refine r_iconst S dX10_spoken_98 (by decide) (fun v170 z171 => ?_)
          have r172 := R_eq z171
          refine r_icmp_ne (tgt := 115) S dX10_spoken_99 (by decide) (fun c173 => ?_) (fun c173 => ?_)
          ·
            have r174 : R (0) (0) v167 := ⟨by omega, by omega⟩
            refine r_aload_n S dX10_spoken_115 rfl (lv_at hl 4 rfl) ?_
            refine r_get (K := 22) (v := .ref (G.2.2.2.1 30)) S X165 (Nat.le_of_ble_eq_true rfl) rfl lk10_21_8 (fun _ => ⟨_, rfl, rfl⟩) dX10_spoken_116 ?_
            refine r_get (K := 23) (v := .ref (G.2.2.2.1 31)) S X165 (Nat.le_of_ble_eq_true rfl) rfl lk10_88_3 (fun _ => ⟨_, rfl, rfl⟩) dX10_spoken_119 ?_
            refine r_iload S dX10_spoken_122 (lv_at hl 0 rfl) ?_
            refine r_aldn (n := 90) (K := 24) S X165 (Nat.le_of_ble_eq_true rfl) rfl (fun _ => rfl) (ix_of r160 rfl) dX10_spoken_124 (fun v175 z176 => ?_)
            have r177 : R (-9) (9) v175 := rd hI rfl z176
            exact r_ret S hr hlk X165 ⟨rfl, r177⟩ rfl dX10_spoken_125
          ·
            have r178 : R (1) (1) v167 := ⟨by omega, by omega⟩
            refine r_aload_n S dX10_spoken_102 rfl (lv_at hl 4 rfl) ?_
            refine r_get (K := 22) (v := .ref (G.2.2.2.1 30)) S X165 (Nat.le_of_ble_eq_true rfl) rfl lk10_21_8 (fun _ => ⟨_, rfl, rfl⟩) dX10_spoken_103 ?_
            refine r_get (K := 23) (v := .ref (G.2.2.2.1 32)) S X165 (Nat.le_of_ble_eq_true rfl) rfl lk10_85_3 (fun _ => ⟨_, rfl, rfl⟩) dX10_spoken_106 ?_
            refine r_iload S dX10_spoken_109 (lv_at hl 0 rfl) ?_
            refine r_aldn (n := 90) (K := 25) S X165 (Nat.le_of_ble_eq_true rfl) rfl (fun _ => rfl) (ix_of r160 rfl) dX10_spoken_111 (fun v179 z180 => ?_)
            have r181 : R (-9) (9) v179 := rd hI rfl z180
            refine r_goto (tgt := 125) S dX10_spoken_112 (by decide) ?_
            exact r_ret S hr hlk X165 ⟨rfl, r181⟩ rfl dX10_spoken_125
def po_X10_together (τ : Tau)  (a0 a1 : Int32) (r : Int32) (u : Tau) : Prop := u = τ
set_option maxHeartbeats 4000000 in
set_option maxRecDepth 100000 in
theorem c_X10_together (l : Launch) (G : Gx) (τ : Tau) (hI : Inv τ) (a0 : Int32) (a1 : Int32) (h_a0 : R (-2147483648) (2147483647) a0) (h_a1 : R (0) (8) a1) : Ci l G yX10_together cX10_together 6 (some .int) 2 47 [.ref (G.2.2.2.1 22), .int a0, .int a1] τ (po_X10_together τ  a0 a1) := by
  unfold Ci
  refine C_of (own := RX10) (by decide) rfl (Nat.le_of_ble_eq_true rfl) ?_
  intro p e s m below meth c ls S hr hlk X hl
  have hl : lv_has ls 6 [(0, .ref (G.2.2.2.1 22)), (1, .int a0), (2, .int a1)] := hl
  refine r_iload_n S dX10_together_0 rfl (lv_at hl 1 rfl) ?_
  refine r_aload_n S dX10_together_1 rfl (lv_at hl 0 rfl) ?_
  refine r_get (K := 22) (v := .ref (G.2.2.2.1 30)) S X (Nat.le_of_ble_eq_true rfl) rfl lk10_21_8 (fun _ => ⟨_, rfl, rfl⟩) dX10_together_2 ?_
  refine r_getn (K := 23) S X (Nat.le_of_ble_eq_true rfl) rfl lk10_91_3 (fun _ => ⟨_, rfl, rfl⟩) dX10_together_5 (fun v1 z2 => ?_)
  have r3 : R (0) (1023) v1 := rd hI rfl z2
  refine r_iconst S dX10_together_8 (by decide) (fun v4 z5 => ?_)
  have r6 := R_eq z5
  refine r_ixor S dX10_together_9 (fun v7 z8 => ?_)
  have r9 := R_any v7
  refine r_iand S dX10_together_10 (fun v10 z11 => ?_)
  have r12 := R_any v10
  refine r_istore_n (lv' := [(3, .int v10), (0, .ref (G.2.2.2.1 22)), (1, .int a0), (2, .int a1)]) S dX10_together_11 rfl hl (by decide) rfl (fun ls hl => ?_)
  refine r_iconst S dX10_together_12 (by decide) (fun v13 z14 => ?_)
  have r15 := R_eq z14
  refine r_istore (lv' := [(4, .int v13), (3, .int v10), (0, .ref (G.2.2.2.1 22)), (1, .int a0), (2, .int a1)]) S dX10_together_13 hl (by decide) rfl (fun ls hl => ?_)
  refine r_iconst S dX10_together_15 (by decide) (fun v16 z17 => ?_)
  have r18 := R_eq z17
  refine r_istore (lv' := [(5, .int v16), (4, .int v13), (3, .int v10), (0, .ref (G.2.2.2.1 22)), (1, .int a0), (2, .int a1)]) S dX10_together_16 hl (by decide) rfl (fun ls hl => ?_)
  have L335 : ∀ (n : Nat) (H : Heap) (lc : List Loc) (ls : Array Slot) (i330 : Int32) (i332 : Int32), Xd G s H lc τ → R (-2147483648) (2147483647) i330 → R (0) (10) i332 → lv_has ls 6 [(0, .ref (G.2.2.2.1 22)), (2, .int a1), (3, .int v10), (4, .int i330), (5, .int i332)] → (10 - i332.toInt).toNat < n → W p l e (Rm 2 47) s m ([.ref (G.2.2.2.1 22), .int a0, .int a1] : List Value).toArray below meth c H lc 0 0 (MQ below (va_Qi (po_X10_together τ  a0 a1) (Bs G) G.2.2.2.2) ([.ref (G.2.2.2.1 22), .int a0, .int a1] : List Value).toArray s 0 0 G.2.2.2.2) (F0 m 18 ls []) := by
    intro n
    induction n with
    | zero => intros; omega
    | succ n ih336 =>
      intro H lc ls i330 i332 X334 r331 r333 hl hm
      refine r_iload S dX10_together_18 (lv_at hl 4 rfl) ?_
      refine r_aload_n S dX10_together_20 rfl (lv_at hl 0 rfl) ?_
      refine r_get (K := 22) (v := .ref (G.2.2.2.1 23)) S X334 (Nat.le_of_ble_eq_true rfl) rfl lk10_12_8 (fun _ => ⟨_, rfl, rfl⟩) dX10_together_21 ?_
      refine r_getn (K := 4) S X334 (Nat.le_of_ble_eq_true rfl) rfl lk10_49_2 (fun _ => ⟨_, rfl, rfl⟩) dX10_together_24 (fun v337 z338 => ?_)
      have r339 : R (0) (10) v337 := rd hI rfl z338
      refine r_icmp_ge (tgt := 58) S dX10_together_27 (by decide) (fun c340 => ?_) (fun c340 => ?_)
      ·
        refine r_iload S dX10_together_58 (lv_at hl 3 rfl) ?_
        exact r_ret S hr hlk X334 rfl rfl dX10_together_60
      ·
        have r341 : R (0) (9) i332 := ⟨by omega, by omega⟩
        have r342 : R (1) (10) v337 := ⟨by omega, by omega⟩
        refine r_iload_n S dX10_together_30 rfl (lv_at hl 2 rfl) ?_
        refine r_iload S dX10_together_31 (lv_at hl 4 rfl) ?_
        refine r_ki (q_N (As := [.int v10, .int i332]) (rest := []) S X334 (c_X11_bit l G τ hI v10 i332 r12 (R_of (lo := -2147483648) (hi := 2147483647) r341 rfl)) ck10_65 ⟨Nat.le_of_ble_eq_true rfl, Nat.le_of_ble_eq_true rfl⟩ rfl hl.1 rfl (Nat.le_of_ble_eq_true rfl) dX10_together_33 ⟨Nat.le_refl 0, Nat.le_refl 0⟩) X334 (fun v346 t345 H lc q343 X344 => ?_)
        unfold po_X11_bit at q343
        obtain ⟨q347, q348⟩ := q343
        rw [q347] at X344
        refine r_iconst S dX10_together_36 (by decide) (fun v349 z350 => ?_)
        have r351 := R_eq z350
        refine r_icmp_ne (tgt := 52) S dX10_together_37 (by decide) (fun c352 => ?_) (fun c352 => ?_)
        ·
          have r353 : R (0) (0) v346 := ⟨by omega, by omega⟩
          refine r_iinc (k := 4) S dX10_together_52 hl rfl (by decide) (by decide) (fun v354 d355 ls z356 z357 hl => ?_)
          obtain ⟨e358, r359⟩ := i_add (lo := 1) (hi := 10) z356 r341 (R_eq z357) rfl
          have hl : lv_has ls 6 [(5, .int v354), (0, .ref (G.2.2.2.1 22)), (2, .int a1), (3, .int v10), (4, .int i330)] := hl
          refine r_goto (tgt := 18) S dX10_together_55 (by decide) ?_
          exact ih336 _ _ _ i330 v354 X344 r331 (R_of r359 rfl) (lv_sub hl [1, 2, 3, 4, 0] rfl) (by omega)
        ·
          have r360 : R (1) (1) v346 := ⟨by omega, by omega⟩
          refine r_iload S dX10_together_40 (lv_at hl 3 rfl) ?_
          refine r_aload_n S dX10_together_42 rfl (lv_at hl 0 rfl) ?_
          refine r_iload S dX10_together_43 (lv_at hl 4 rfl) ?_
          refine r_iload_n S dX10_together_45 rfl (lv_at hl 1 rfl) ?_
          refine r_ki (q_V (As := [.int i332, .int a1]) (rest := [.int i330]) (K := 22) (ci := 8) S X344 (c_X10_spoken l G τ hI i332 a1 r341 h_a1) ck10_94 (Nat.le_of_ble_eq_true rfl) rfl (fun _ => ⟨_, rfl⟩) ⟨_, _, rfl⟩ ⟨Nat.le_of_ble_eq_true rfl, Nat.le_of_ble_eq_true rfl⟩ rfl hl.1 rfl (Nat.le_of_ble_eq_true rfl) dX10_together_46 ⟨Nat.le_refl 0, Nat.le_refl 0⟩) X344 (fun v364 t363 H lc q361 X362 => ?_)
          unfold po_X10_spoken at q361
          obtain ⟨q365, q366⟩ := q361
          rw [q365] at X362
          refine r_iadd S dX10_together_49 (fun v367 z368 => ?_)
          have r369 := R_any v367
          refine r_istore (lv' := [(4, .int v367), (0, .ref (G.2.2.2.1 22)), (2, .int a1), (3, .int v10), (5, .int i332)]) S dX10_together_50 hl (by decide) rfl (fun ls hl => ?_)
          refine r_iinc (k := 4) S dX10_together_52 hl rfl (by decide) (by decide) (fun v370 d371 ls z372 z373 hl => ?_)
          obtain ⟨e374, r375⟩ := i_add (lo := 1) (hi := 10) z372 r341 (R_eq z373) rfl
          have hl : lv_has ls 6 [(5, .int v370), (4, .int v367), (0, .ref (G.2.2.2.1 22)), (2, .int a1), (3, .int v10)] := hl
          refine r_goto (tgt := 18) S dX10_together_55 (by decide) ?_
          exact ih336 _ _ _ v367 v370 X362 r369 (R_of r375 rfl) (lv_sub hl [2, 3, 4, 1, 0] rfl) (by omega)
  exact L335 _ _ _ _ v13 v16 X (R_of r15 rfl) (R_of r18 rfl) (lv_sub hl [3, 5, 2, 1, 0] rfl) (Nat.lt_succ_self _)
def po_X10_areFoes (τ : Tau)  (a0 a1 : Int32) (r : Int32) (u : Tau) : Prop := u = τ ∧ R (0) (1) r
set_option maxHeartbeats 4000000 in
set_option maxRecDepth 100000 in
theorem c_X10_areFoes (l : Launch) (G : Gx) (τ : Tau) (hI : Inv τ) (a0 : Int32) (a1 : Int32) (h_a0 : R (0) (9) a0) (h_a1 : R (0) (9) a1) : Ci l G yX10_areFoes cX10_areFoes 8 (some .boolean) 2 47 [.ref (G.2.2.2.1 22), .int a0, .int a1] τ (po_X10_areFoes τ  a0 a1) := by
  unfold Ci
  refine C_of (own := RX10) (by decide) rfl (Nat.le_of_ble_eq_true rfl) ?_
  intro p e s m below meth c ls S hr hlk X hl
  have hl : lv_has ls 8 [(0, .ref (G.2.2.2.1 22)), (1, .int a0), (2, .int a1)] := hl
  refine r_iconst S dX10_areFoes_0 (by decide) (fun v1 z2 => ?_)
  have r3 := R_eq z2
  refine r_istore_n (lv' := [(3, .int v1), (0, .ref (G.2.2.2.1 22)), (1, .int a0), (2, .int a1)]) S dX10_areFoes_1 rfl hl (by decide) rfl (fun ls hl => ?_)
  refine r_iconst S dX10_areFoes_2 (by decide) (fun v4 z5 => ?_)
  have r6 := R_eq z5
  refine r_istore (lv' := [(4, .int v4), (3, .int v1), (0, .ref (G.2.2.2.1 22)), (1, .int a0), (2, .int a1)]) S dX10_areFoes_3 hl (by decide) rfl (fun ls hl => ?_)
  refine r_iconst S dX10_areFoes_5 (by decide) (fun v7 z8 => ?_)
  have r9 := R_eq z8
  refine r_istore (lv' := [(5, .int v7), (4, .int v4), (3, .int v1), (0, .ref (G.2.2.2.1 22)), (1, .int a0), (2, .int a1)]) S dX10_areFoes_6 hl (by decide) rfl (fun ls hl => ?_)
  have L1229 : ∀ (n : Nat) (H : Heap) (lc : List Loc) (ls : Array Slot) (i1222 : Int32) (i1224 : Int32) (i1226 : Int32), Xd G s H lc τ → R (0) (1) i1222 → R (0) (1) i1224 → R (0) (9) i1226 → lv_has ls 8 [(0, .ref (G.2.2.2.1 22)), (1, .int a0), (2, .int a1), (3, .int i1222), (4, .int i1224), (5, .int i1226)] → (9 - i1226.toInt).toNat < n → W p l e (Rm 2 47) s m ([.ref (G.2.2.2.1 22), .int a0, .int a1] : List Value).toArray below meth c H lc 0 0 (MQ below (va_Qi (po_X10_areFoes τ  a0 a1) (Bs G) G.2.2.2.2) ([.ref (G.2.2.2.1 22), .int a0, .int a1] : List Value).toArray s 0 0 G.2.2.2.2) (F0 m 8 ls []) := by
    intro n
    induction n with
    | zero => intros; omega
    | succ n ih1230 =>
      intro H lc ls i1222 i1224 i1226 X1228 r1223 r1225 r1227 hl hm
      refine r_iload S dX10_areFoes_8 (lv_at hl 5 rfl) ?_
      refine r_aload_n S dX10_areFoes_10 rfl (lv_at hl 0 rfl) ?_
      refine r_get (K := 22) (v := .ref (G.2.2.2.1 23)) S X1228 (Nat.le_of_ble_eq_true rfl) rfl lk10_12_8 (fun _ => ⟨_, rfl, rfl⟩) dX10_areFoes_11 ?_
      refine r_getn (K := 4) S X1228 (Nat.le_of_ble_eq_true rfl) rfl lk10_52_2 (fun _ => ⟨_, rfl, rfl⟩) dX10_areFoes_14 (fun v1231 z1232 => ?_)
      have r1233 : R (0) (9) v1231 := rd hI rfl z1232
      refine r_icmp_ge (tgt := 126) S dX10_areFoes_17 (by decide) (fun c1234 => ?_) (fun c1234 => ?_)
      ·
        refine r_iload_n S dX10_areFoes_126 rfl (lv_at hl 3 rfl) ?_
        refine r_if_eq (tgt := 139) S dX10_areFoes_127 (by decide) (fun c1235 => ?_) (fun c1235 => ?_)
        ·
          have r1236 : R (0) (0) i1222 := ⟨by omega, by omega⟩
          refine r_iconst S dX10_areFoes_139 (by decide) (fun v1237 z1238 => ?_)
          have r1239 := R_eq z1238
          exact r_ret S hr hlk X1228 ⟨rfl, (R_of r1239 rfl)⟩ (nr_bool (R_of (lo := 0) (hi := 1) r1239 rfl)) dX10_areFoes_140
        ·
          have r1240 : R (1) (1) i1222 := ⟨by omega, by omega⟩
          refine r_iload S dX10_areFoes_130 (lv_at hl 4 rfl) ?_
          refine r_if_eq (tgt := 139) S dX10_areFoes_132 (by decide) (fun c1241 => ?_) (fun c1241 => ?_)
          ·
            have r1242 : R (0) (0) i1224 := ⟨by omega, by omega⟩
            refine r_iconst S dX10_areFoes_139 (by decide) (fun v1243 z1244 => ?_)
            have r1245 := R_eq z1244
            exact r_ret S hr hlk X1228 ⟨rfl, (R_of r1245 rfl)⟩ (nr_bool (R_of (lo := 0) (hi := 1) r1245 rfl)) dX10_areFoes_140
          ·
            have r1246 : R (1) (1) i1224 := ⟨by omega, by omega⟩
            refine r_iconst S dX10_areFoes_135 (by decide) (fun v1247 z1248 => ?_)
            have r1249 := R_eq z1248
            refine r_goto (tgt := 140) S dX10_areFoes_136 (by decide) ?_
            exact r_ret S hr hlk X1228 ⟨rfl, (R_of r1249 rfl)⟩ (nr_bool (R_of (lo := 0) (hi := 1) r1249 rfl)) dX10_areFoes_140
      ·
        have r1250 : R (0) (8) i1226 := ⟨by omega, by omega⟩
        have r1251 : R (1) (9) v1231 := ⟨by omega, by omega⟩
        refine r_aload_n S dX10_areFoes_20 rfl (lv_at hl 0 rfl) ?_
        refine r_iload_n S dX10_areFoes_21 rfl (lv_at hl 1 rfl) ?_
        refine r_iload S dX10_areFoes_22 (lv_at hl 5 rfl) ?_
        refine r_ki (q_V (As := [.int a0, .int i1226]) (rest := []) (K := 22) (ci := 8) S X1228 (c_X10_spoken l G τ hI a0 i1226 h_a0 r1250) ck10_94 (Nat.le_of_ble_eq_true rfl) rfl (fun _ => ⟨_, rfl⟩) ⟨_, _, rfl⟩ ⟨Nat.le_of_ble_eq_true rfl, Nat.le_of_ble_eq_true rfl⟩ rfl hl.1 rfl (Nat.le_of_ble_eq_true rfl) dX10_areFoes_24 ⟨Nat.le_refl 0, Nat.le_refl 0⟩) X1228 (fun v1255 t1254 H lc q1252 X1253 => ?_)
        unfold po_X10_spoken at q1252
        obtain ⟨q1256, q1257⟩ := q1252
        rw [q1256] at X1253
        refine r_istore (lv' := [(6, .int v1255), (0, .ref (G.2.2.2.1 22)), (1, .int a0), (2, .int a1), (3, .int i1222), (4, .int i1224), (5, .int i1226)]) S dX10_areFoes_27 hl (by decide) rfl (fun ls hl => ?_)
        refine r_aload_n S dX10_areFoes_29 rfl (lv_at hl 1 rfl) ?_
        refine r_iload_n S dX10_areFoes_30 rfl (lv_at hl 3 rfl) ?_
        refine r_iload S dX10_areFoes_31 (lv_at hl 6 rfl) ?_
        refine r_ki (q_V (As := [.int a1, .int i1226]) (rest := []) (K := 22) (ci := 8) S X1253 (c_X10_spoken l G τ hI a1 i1226 h_a1 r1250) ck10_94 (Nat.le_of_ble_eq_true rfl) rfl (fun _ => ⟨_, rfl⟩) ⟨_, _, rfl⟩ ⟨Nat.le_of_ble_eq_true rfl, Nat.le_of_ble_eq_true rfl⟩ rfl hl.1 rfl (Nat.le_of_ble_eq_true rfl) dX10_areFoes_33 ⟨Nat.le_refl 0, Nat.le_refl 0⟩) X1253 (fun v1261 t1260 H lc q1258 X1259 => ?_)
        unfold po_X10_spoken at q1258
        obtain ⟨q1262, q1263⟩ := q1258
        rw [q1262] at X1259
        refine r_istore (lv' := [(7, .int v1261), (6, .int v1255), (0, .ref (G.2.2.2.1 22)), (1, .int a0), (2, .int a1), (3, .int i1222), (4, .int i1224), (5, .int i1226)]) S dX10_areFoes_36 hl (by decide) rfl (fun ls hl => ?_)
        refine r_iload S dX10_areFoes_38 (lv_at hl 1 rfl) ?_
        refine r_abs S hl.1 kw3 kw4 kw5 cd_J9_abs_0f7a4 ⟨Nat.le_of_ble_eq_true rfl, Nat.le_of_ble_eq_true rfl⟩ ⟨Nat.le_refl 0, Nat.le_refl 0⟩ (by omega) dX10_areFoes_40 (fun v1264 h1265 => ?_)
        have r1266 : R 0 (9) v1264 := ⟨by omega, by omega⟩
        refine r_iconst S dX10_areFoes_43 (by decide) (fun v1267 z1268 => ?_)
        have r1269 := R_eq z1268
        refine r_icmp_lt (tgt := 120) S dX10_areFoes_44 (by decide) (fun c1270 => ?_) (fun c1270 => ?_)
        ·
          have r1271 : R (0) (4) v1264 := ⟨by omega, by omega⟩
          refine r_iinc (k := 7) S dX10_areFoes_120 hl rfl (by decide) (by decide) (fun v1272 d1273 ls z1274 z1275 hl => ?_)
          obtain ⟨e1276, r1277⟩ := i_add (lo := 1) (hi := 9) z1274 r1250 (R_eq z1275) rfl
          have hl : lv_has ls 8 [(5, .int v1272), (7, .int v1261), (6, .int v1255), (0, .ref (G.2.2.2.1 22)), (1, .int a0), (2, .int a1), (3, .int i1222), (4, .int i1224)] := hl
          refine r_goto (tgt := 8) S dX10_areFoes_123 (by decide) ?_
          exact ih1230 _ _ _ i1222 i1224 v1272 X1259 r1223 r1225 (R_of r1277 rfl) (lv_sub hl [3, 4, 5, 6, 7, 0] rfl) (by omega)
        ·
          have r1278 : R (5) (9) v1264 := ⟨by omega, by omega⟩
          refine r_iload S dX10_areFoes_47 (lv_at hl 0 rfl) ?_
          refine r_abs S hl.1 kw3 kw4 kw5 cd_J9_abs_0f7a4 ⟨Nat.le_of_ble_eq_true rfl, Nat.le_of_ble_eq_true rfl⟩ ⟨Nat.le_refl 0, Nat.le_refl 0⟩ (by omega) dX10_areFoes_49 (fun v1279 h1280 => ?_)
          have r1281 : R 0 (9) v1279 := ⟨by omega, by omega⟩
          refine r_iconst S dX10_areFoes_52 (by decide) (fun v1282 z1283 => ?_)
          have r1284 := R_eq z1283
          refine r_icmp_lt (tgt := 120) S dX10_areFoes_53 (by decide) (fun c1285 => ?_) (fun c1285 => ?_)
          ·
            have r1286 : R (0) (4) v1279 := ⟨by omega, by omega⟩
            refine r_iinc (k := 7) S dX10_areFoes_120 hl rfl (by decide) (by decide) (fun v1287 d1288 ls z1289 z1290 hl => ?_)
            obtain ⟨e1291, r1292⟩ := i_add (lo := 1) (hi := 9) z1289 r1250 (R_eq z1290) rfl
            have hl : lv_has ls 8 [(5, .int v1287), (7, .int v1261), (6, .int v1255), (0, .ref (G.2.2.2.1 22)), (1, .int a0), (2, .int a1), (3, .int i1222), (4, .int i1224)] := hl
            refine r_goto (tgt := 8) S dX10_areFoes_123 (by decide) ?_
            exact ih1230 _ _ _ i1222 i1224 v1287 X1259 r1223 r1225 (R_of r1292 rfl) (lv_sub hl [3, 4, 5, 6, 7, 0] rfl) (by omega)
          ·
            have r1293 : R (5) (9) v1279 := ⟨by omega, by omega⟩
            refine r_iload_n S dX10_areFoes_56 rfl (lv_at hl 5 rfl) ?_
            refine r_iload S dX10_areFoes_57 (lv_at hl 1 rfl) ?_
            refine r_if_le (tgt := 66) S dX10_areFoes_59 (by decide) (fun c1294 => ?_) (fun c1294 => ?_)
            ·
              have r1295 : R (-9) (0) v1255 := ⟨by omega, by omega⟩
              refine r_iconst S dX10_areFoes_66 (by decide) (fun v1296 z1297 => ?_)
              have r1298 := R_eq z1297
              refine r_iload S dX10_areFoes_67 (lv_at hl 0 rfl) ?_
              refine r_if_le (tgt := 76) S dX10_areFoes_69 (by decide) (fun c1299 => ?_) (fun c1299 => ?_)
              ·
                have r1300 : R (-9) (0) v1261 := ⟨by omega, by omega⟩
                refine r_iconst S dX10_areFoes_76 (by decide) (fun v1301 z1302 => ?_)
                have r1303 := R_eq z1302
                refine r_icmp_eq (tgt := 84) S dX10_areFoes_77 (by decide) (fun c1304 => ?_) (fun c1304 => ?_)
                ·
                  refine r_iconst S dX10_areFoes_84 (by decide) (fun v1305 z1306 => ?_)
                  have r1307 := R_eq z1306
                  refine r_ior S dX10_areFoes_85 (fun v1308 z1309 => ?_)
                  have r1311 : R (0) (1) v1308 := i_or 1 z1309 r1223 r1307 rfl
                  refine r_istore_n (lv' := [(3, .int v1308), (7, .int v1261), (6, .int v1255), (0, .ref (G.2.2.2.1 22)), (1, .int a0), (2, .int a1), (4, .int i1224), (5, .int i1226)]) S dX10_areFoes_86 rfl hl (by decide) rfl (fun ls hl => ?_)
                  refine r_iload S dX10_areFoes_87 (lv_at hl 6 rfl) ?_
                  refine r_iload S dX10_areFoes_89 (lv_at hl 2 rfl) ?_
                  refine r_if_le (tgt := 98) S dX10_areFoes_91 (by decide) (fun c1312 => ?_) (fun c1312 => ?_)
                  ·
                    refine r_iconst S dX10_areFoes_98 (by decide) (fun v1313 z1314 => ?_)
                    have r1315 := R_eq z1314
                    refine r_iload S dX10_areFoes_99 (lv_at hl 1 rfl) ?_
                    refine r_if_le (tgt := 108) S dX10_areFoes_101 (by decide) (fun c1316 => ?_) (fun c1316 => ?_)
                    ·
                      refine r_iconst S dX10_areFoes_108 (by decide) (fun v1317 z1318 => ?_)
                      have r1319 := R_eq z1318
                      refine r_icmp_ne (tgt := 116) S dX10_areFoes_109 (by decide) (fun c1320 => ?_) (fun c1320 => ?_)
                      ·
                        exfalso; omega
                      ·
                        refine r_iconst S dX10_areFoes_112 (by decide) (fun v1321 z1322 => ?_)
                        have r1323 := R_eq z1322
                        refine r_goto (tgt := 117) S dX10_areFoes_113 (by decide) ?_
                        refine r_ior S dX10_areFoes_117 (fun v1324 z1325 => ?_)
                        have r1327 : R (0) (1) v1324 := i_or 1 z1325 r1225 r1323 rfl
                        refine r_istore (lv' := [(4, .int v1324), (3, .int v1308), (7, .int v1261), (6, .int v1255), (0, .ref (G.2.2.2.1 22)), (1, .int a0), (2, .int a1), (5, .int i1226)]) S dX10_areFoes_118 hl (by decide) rfl (fun ls hl => ?_)
                        refine r_iinc (k := 7) S dX10_areFoes_120 hl rfl (by decide) (by decide) (fun v1328 d1329 ls z1330 z1331 hl => ?_)
                        obtain ⟨e1332, r1333⟩ := i_add (lo := 1) (hi := 9) z1330 r1250 (R_eq z1331) rfl
                        have hl : lv_has ls 8 [(5, .int v1328), (4, .int v1324), (3, .int v1308), (7, .int v1261), (6, .int v1255), (0, .ref (G.2.2.2.1 22)), (1, .int a0), (2, .int a1)] := hl
                        refine r_goto (tgt := 8) S dX10_areFoes_123 (by decide) ?_
                        exact ih1230 _ _ _ v1308 v1324 v1328 X1259 r1311 r1327 (R_of r1333 rfl) (lv_sub hl [5, 6, 7, 2, 1, 0] rfl) (by omega)
                    ·
                      exfalso; omega
                  ·
                    exfalso; omega
                ·
                  exfalso; omega
              ·
                have r1334 : R (1) (9) v1261 := ⟨by omega, by omega⟩
                refine r_iconst S dX10_areFoes_72 (by decide) (fun v1335 z1336 => ?_)
                have r1337 := R_eq z1336
                refine r_goto (tgt := 77) S dX10_areFoes_73 (by decide) ?_
                refine r_icmp_eq (tgt := 84) S dX10_areFoes_77 (by decide) (fun c1338 => ?_) (fun c1338 => ?_)
                ·
                  exfalso; omega
                ·
                  refine r_iconst S dX10_areFoes_80 (by decide) (fun v1339 z1340 => ?_)
                  have r1341 := R_eq z1340
                  refine r_goto (tgt := 85) S dX10_areFoes_81 (by decide) ?_
                  refine r_ior S dX10_areFoes_85 (fun v1342 z1343 => ?_)
                  have r1345 : R (0) (1) v1342 := i_or 1 z1343 r1223 r1341 rfl
                  refine r_istore_n (lv' := [(3, .int v1342), (7, .int v1261), (6, .int v1255), (0, .ref (G.2.2.2.1 22)), (1, .int a0), (2, .int a1), (4, .int i1224), (5, .int i1226)]) S dX10_areFoes_86 rfl hl (by decide) rfl (fun ls hl => ?_)
                  refine r_iload S dX10_areFoes_87 (lv_at hl 6 rfl) ?_
                  refine r_iload S dX10_areFoes_89 (lv_at hl 2 rfl) ?_
                  refine r_if_le (tgt := 98) S dX10_areFoes_91 (by decide) (fun c1346 => ?_) (fun c1346 => ?_)
                  ·
                    refine r_iconst S dX10_areFoes_98 (by decide) (fun v1347 z1348 => ?_)
                    have r1349 := R_eq z1348
                    refine r_iload S dX10_areFoes_99 (lv_at hl 1 rfl) ?_
                    refine r_if_le (tgt := 108) S dX10_areFoes_101 (by decide) (fun c1350 => ?_) (fun c1350 => ?_)
                    ·
                      exfalso; omega
                    ·
                      refine r_iconst S dX10_areFoes_104 (by decide) (fun v1351 z1352 => ?_)
                      have r1353 := R_eq z1352
                      refine r_goto (tgt := 109) S dX10_areFoes_105 (by decide) ?_
                      refine r_icmp_ne (tgt := 116) S dX10_areFoes_109 (by decide) (fun c1354 => ?_) (fun c1354 => ?_)
                      ·
                        refine r_iconst S dX10_areFoes_116 (by decide) (fun v1355 z1356 => ?_)
                        have r1357 := R_eq z1356
                        refine r_ior S dX10_areFoes_117 (fun v1358 z1359 => ?_)
                        have r1361 : R (0) (1) v1358 := i_or 1 z1359 r1225 r1357 rfl
                        refine r_istore (lv' := [(4, .int v1358), (3, .int v1342), (7, .int v1261), (6, .int v1255), (0, .ref (G.2.2.2.1 22)), (1, .int a0), (2, .int a1), (5, .int i1226)]) S dX10_areFoes_118 hl (by decide) rfl (fun ls hl => ?_)
                        refine r_iinc (k := 7) S dX10_areFoes_120 hl rfl (by decide) (by decide) (fun v1362 d1363 ls z1364 z1365 hl => ?_)
                        obtain ⟨e1366, r1367⟩ := i_add (lo := 1) (hi := 9) z1364 r1250 (R_eq z1365) rfl
                        have hl : lv_has ls 8 [(5, .int v1362), (4, .int v1358), (3, .int v1342), (7, .int v1261), (6, .int v1255), (0, .ref (G.2.2.2.1 22)), (1, .int a0), (2, .int a1)] := hl
                        refine r_goto (tgt := 8) S dX10_areFoes_123 (by decide) ?_
                        exact ih1230 _ _ _ v1342 v1358 v1362 X1259 r1345 r1361 (R_of r1367 rfl) (lv_sub hl [5, 6, 7, 2, 1, 0] rfl) (by omega)
                      ·
                        exfalso; omega
                  ·
                    exfalso; omega
            ·
              have r1368 : R (1) (9) v1255 := ⟨by omega, by omega⟩
              refine r_iconst S dX10_areFoes_62 (by decide) (fun v1369 z1370 => ?_)
              have r1371 := R_eq z1370
              refine r_goto (tgt := 67) S dX10_areFoes_63 (by decide) ?_
              refine r_iload S dX10_areFoes_67 (lv_at hl 0 rfl) ?_
              refine r_if_le (tgt := 76) S dX10_areFoes_69 (by decide) (fun c1372 => ?_) (fun c1372 => ?_)
              ·
                have r1373 : R (-9) (0) v1261 := ⟨by omega, by omega⟩
                refine r_iconst S dX10_areFoes_76 (by decide) (fun v1374 z1375 => ?_)
                have r1376 := R_eq z1375
                refine r_icmp_eq (tgt := 84) S dX10_areFoes_77 (by decide) (fun c1377 => ?_) (fun c1377 => ?_)
                ·
                  exfalso; omega
                ·
                  refine r_iconst S dX10_areFoes_80 (by decide) (fun v1378 z1379 => ?_)
                  have r1380 := R_eq z1379
                  refine r_goto (tgt := 85) S dX10_areFoes_81 (by decide) ?_
                  refine r_ior S dX10_areFoes_85 (fun v1381 z1382 => ?_)
                  have r1384 : R (0) (1) v1381 := i_or 1 z1382 r1223 r1380 rfl
                  refine r_istore_n (lv' := [(3, .int v1381), (7, .int v1261), (6, .int v1255), (0, .ref (G.2.2.2.1 22)), (1, .int a0), (2, .int a1), (4, .int i1224), (5, .int i1226)]) S dX10_areFoes_86 rfl hl (by decide) rfl (fun ls hl => ?_)
                  refine r_iload S dX10_areFoes_87 (lv_at hl 6 rfl) ?_
                  refine r_iload S dX10_areFoes_89 (lv_at hl 2 rfl) ?_
                  refine r_if_le (tgt := 98) S dX10_areFoes_91 (by decide) (fun c1385 => ?_) (fun c1385 => ?_)
                  ·
                    exfalso; omega
                  ·
                    refine r_iconst S dX10_areFoes_94 (by decide) (fun v1386 z1387 => ?_)
                    have r1388 := R_eq z1387
                    refine r_goto (tgt := 99) S dX10_areFoes_95 (by decide) ?_
                    refine r_iload S dX10_areFoes_99 (lv_at hl 1 rfl) ?_
                    refine r_if_le (tgt := 108) S dX10_areFoes_101 (by decide) (fun c1389 => ?_) (fun c1389 => ?_)
                    ·
                      refine r_iconst S dX10_areFoes_108 (by decide) (fun v1390 z1391 => ?_)
                      have r1392 := R_eq z1391
                      refine r_icmp_ne (tgt := 116) S dX10_areFoes_109 (by decide) (fun c1393 => ?_) (fun c1393 => ?_)
                      ·
                        refine r_iconst S dX10_areFoes_116 (by decide) (fun v1394 z1395 => ?_)
                        have r1396 := R_eq z1395
                        refine r_ior S dX10_areFoes_117 (fun v1397 z1398 => ?_)
                        have r1400 : R (0) (1) v1397 := i_or 1 z1398 r1225 r1396 rfl
                        refine r_istore (lv' := [(4, .int v1397), (3, .int v1381), (7, .int v1261), (6, .int v1255), (0, .ref (G.2.2.2.1 22)), (1, .int a0), (2, .int a1), (5, .int i1226)]) S dX10_areFoes_118 hl (by decide) rfl (fun ls hl => ?_)
                        refine r_iinc (k := 7) S dX10_areFoes_120 hl rfl (by decide) (by decide) (fun v1401 d1402 ls z1403 z1404 hl => ?_)
                        obtain ⟨e1405, r1406⟩ := i_add (lo := 1) (hi := 9) z1403 r1250 (R_eq z1404) rfl
                        have hl : lv_has ls 8 [(5, .int v1401), (4, .int v1397), (3, .int v1381), (7, .int v1261), (6, .int v1255), (0, .ref (G.2.2.2.1 22)), (1, .int a0), (2, .int a1)] := hl
                        refine r_goto (tgt := 8) S dX10_areFoes_123 (by decide) ?_
                        exact ih1230 _ _ _ v1381 v1397 v1401 X1259 r1384 r1400 (R_of r1406 rfl) (lv_sub hl [5, 6, 7, 2, 1, 0] rfl) (by omega)
                      ·
                        exfalso; omega
                    ·
                      exfalso; omega
              ·
                have r1407 : R (1) (9) v1261 := ⟨by omega, by omega⟩
                refine r_iconst S dX10_areFoes_72 (by decide) (fun v1408 z1409 => ?_)
                have r1410 := R_eq z1409
                refine r_goto (tgt := 77) S dX10_areFoes_73 (by decide) ?_
                refine r_icmp_eq (tgt := 84) S dX10_areFoes_77 (by decide) (fun c1411 => ?_) (fun c1411 => ?_)
                ·
                  refine r_iconst S dX10_areFoes_84 (by decide) (fun v1412 z1413 => ?_)
                  have r1414 := R_eq z1413
                  refine r_ior S dX10_areFoes_85 (fun v1415 z1416 => ?_)
                  have r1418 : R (0) (1) v1415 := i_or 1 z1416 r1223 r1414 rfl
                  refine r_istore_n (lv' := [(3, .int v1415), (7, .int v1261), (6, .int v1255), (0, .ref (G.2.2.2.1 22)), (1, .int a0), (2, .int a1), (4, .int i1224), (5, .int i1226)]) S dX10_areFoes_86 rfl hl (by decide) rfl (fun ls hl => ?_)
                  refine r_iload S dX10_areFoes_87 (lv_at hl 6 rfl) ?_
                  refine r_iload S dX10_areFoes_89 (lv_at hl 2 rfl) ?_
                  refine r_if_le (tgt := 98) S dX10_areFoes_91 (by decide) (fun c1419 => ?_) (fun c1419 => ?_)
                  ·
                    exfalso; omega
                  ·
                    refine r_iconst S dX10_areFoes_94 (by decide) (fun v1420 z1421 => ?_)
                    have r1422 := R_eq z1421
                    refine r_goto (tgt := 99) S dX10_areFoes_95 (by decide) ?_
                    refine r_iload S dX10_areFoes_99 (lv_at hl 1 rfl) ?_
                    refine r_if_le (tgt := 108) S dX10_areFoes_101 (by decide) (fun c1423 => ?_) (fun c1423 => ?_)
                    ·
                      exfalso; omega
                    ·
                      refine r_iconst S dX10_areFoes_104 (by decide) (fun v1424 z1425 => ?_)
                      have r1426 := R_eq z1425
                      refine r_goto (tgt := 109) S dX10_areFoes_105 (by decide) ?_
                      refine r_icmp_ne (tgt := 116) S dX10_areFoes_109 (by decide) (fun c1427 => ?_) (fun c1427 => ?_)
                      ·
                        exfalso; omega
                      ·
                        refine r_iconst S dX10_areFoes_112 (by decide) (fun v1428 z1429 => ?_)
                        have r1430 := R_eq z1429
                        refine r_goto (tgt := 117) S dX10_areFoes_113 (by decide) ?_
                        refine r_ior S dX10_areFoes_117 (fun v1431 z1432 => ?_)
                        have r1434 : R (0) (1) v1431 := i_or 1 z1432 r1225 r1430 rfl
                        refine r_istore (lv' := [(4, .int v1431), (3, .int v1415), (7, .int v1261), (6, .int v1255), (0, .ref (G.2.2.2.1 22)), (1, .int a0), (2, .int a1), (5, .int i1226)]) S dX10_areFoes_118 hl (by decide) rfl (fun ls hl => ?_)
                        refine r_iinc (k := 7) S dX10_areFoes_120 hl rfl (by decide) (by decide) (fun v1435 d1436 ls z1437 z1438 hl => ?_)
                        obtain ⟨e1439, r1440⟩ := i_add (lo := 1) (hi := 9) z1437 r1250 (R_eq z1438) rfl
                        have hl : lv_has ls 8 [(5, .int v1435), (4, .int v1431), (3, .int v1415), (7, .int v1261), (6, .int v1255), (0, .ref (G.2.2.2.1 22)), (1, .int a0), (2, .int a1)] := hl
                        refine r_goto (tgt := 8) S dX10_areFoes_123 (by decide) ?_
                        exact ih1230 _ _ _ v1415 v1431 v1435 X1259 r1418 r1434 (R_of r1440 rfl) (lv_sub hl [5, 6, 7, 2, 1, 0] rfl) (by omega)
                ·
                  exfalso; omega
  exact L1229 _ _ _ _ v1 v4 v7 X (R_of r3 rfl) (R_of r6 rfl) (R_of r9 rfl) (lv_sub hl [3, 4, 5, 2, 1, 0] rfl) (Nat.lt_succ_self _)
def po_X10_holdsFoes (τ : Tau)  (a0 : Int32) (r : Int32) (u : Tau) : Prop := u = τ ∧ R (0) (1) r
set_option maxHeartbeats 4000000 in
set_option maxRecDepth 100000 in
theorem c_X10_holdsFoes (l : Launch) (G : Gx) (τ : Tau) (hI : Inv τ) (a0 : Int32) (h_a0 : R (-2147483648) (2147483647) a0) : Ci l G yX10_holdsFoes cX10_holdsFoes 4 (some .boolean) 3 74 [.ref (G.2.2.2.1 22), .int a0] τ (po_X10_holdsFoes τ  a0) := by
  unfold Ci
  refine C_of (own := RX10) (by decide) rfl (Nat.le_of_ble_eq_true rfl) ?_
  intro p e s m below meth c ls S hr hlk X hl
  have hl : lv_has ls 4 [(0, .ref (G.2.2.2.1 22)), (1, .int a0)] := hl
  refine r_iconst S dX10_holdsFoes_0 (by decide) (fun v1 z2 => ?_)
  have r3 := R_eq z2
  refine r_istore_n (lv' := [(2, .int v1), (0, .ref (G.2.2.2.1 22)), (1, .int a0)]) S dX10_holdsFoes_1 rfl hl (by decide) rfl (fun ls hl => ?_)
  have L1942 : ∀ (n : Nat) (H : Heap) (lc : List Loc) (ls : Array Slot) (i1939 : Int32), Xd G s H lc τ → R (0) (10) i1939 → lv_has ls 4 [(0, .ref (G.2.2.2.1 22)), (1, .int a0), (2, .int i1939)] → (10 - i1939.toInt).toNat < n → W p l e (Rm 3 74) s m ([.ref (G.2.2.2.1 22), .int a0] : List Value).toArray below meth c H lc 0 0 (MQ below (va_Qi (po_X10_holdsFoes τ  a0) (Bs G) G.2.2.2.2) ([.ref (G.2.2.2.1 22), .int a0] : List Value).toArray s 0 0 G.2.2.2.2) (F0 m 2 ls []) := by
    intro n
    induction n with
    | zero => intros; omega
    | succ n ih1943 =>
      intro H lc ls i1939 X1941 r1940 hl hm
      refine r_iload_n S dX10_holdsFoes_2 rfl (lv_at hl 2 rfl) ?_
      refine r_aload_n S dX10_holdsFoes_3 rfl (lv_at hl 0 rfl) ?_
      refine r_get (K := 22) (v := .ref (G.2.2.2.1 23)) S X1941 (Nat.le_of_ble_eq_true rfl) rfl lk10_12_8 (fun _ => ⟨_, rfl, rfl⟩) dX10_holdsFoes_4 ?_
      refine r_getn (K := 4) S X1941 (Nat.le_of_ble_eq_true rfl) rfl lk10_49_2 (fun _ => ⟨_, rfl, rfl⟩) dX10_holdsFoes_7 (fun v1944 z1945 => ?_)
      have r1946 : R (0) (10) v1944 := rd hI rfl z1945
      refine r_icmp_ge (tgt := 69) S dX10_holdsFoes_10 (by decide) (fun c1947 => ?_) (fun c1947 => ?_)
      ·
        refine r_iconst S dX10_holdsFoes_69 (by decide) (fun v1948 z1949 => ?_)
        have r1950 := R_eq z1949
        exact r_ret S hr hlk X1941 ⟨rfl, (R_of r1950 rfl)⟩ (nr_bool (R_of (lo := 0) (hi := 1) r1950 rfl)) dX10_holdsFoes_70
      ·
        have r1951 : R (0) (9) i1939 := ⟨by omega, by omega⟩
        have r1952 : R (1) (10) v1944 := ⟨by omega, by omega⟩
        refine r_iload_n S dX10_holdsFoes_13 rfl (lv_at hl 2 rfl) ?_
        refine r_iconst S dX10_holdsFoes_14 (by decide) (fun v1953 z1954 => ?_)
        have r1955 := R_eq z1954
        refine r_iadd S dX10_holdsFoes_15 (fun v1956 z1957 => ?_)
        obtain ⟨e1958, r1959⟩ := i_add (lo := 1) (hi := 10) z1957 r1951 r1955 rfl
        refine r_istore_n (lv' := [(3, .int v1956), (0, .ref (G.2.2.2.1 22)), (1, .int a0), (2, .int i1939)]) S dX10_holdsFoes_16 rfl hl (by decide) rfl (fun ls hl => ?_)
        have L2020 : ∀ (n : Nat) (H : Heap) (lc : List Loc) (ls : Array Slot) (i2017 : Int32), Xd G s H lc τ → R (1) (10) i2017 → lv_has ls 4 [(0, .ref (G.2.2.2.1 22)), (1, .int a0), (2, .int i1939), (3, .int i2017)] → (10 - i2017.toInt).toNat < n → W p l e (Rm 3 74) s m ([.ref (G.2.2.2.1 22), .int a0] : List Value).toArray below meth c H lc 0 0 (MQ below (va_Qi (po_X10_holdsFoes τ  a0) (Bs G) G.2.2.2.2) ([.ref (G.2.2.2.1 22), .int a0] : List Value).toArray s 0 0 G.2.2.2.2) (F0 m 17 ls []) := by
          intro n
          induction n with
          | zero => intros; omega
          | succ n ih2021 =>
            intro H lc ls i2017 X2019 r2018 hl hm
            refine r_iload_n S dX10_holdsFoes_17 rfl (lv_at hl 3 rfl) ?_
            refine r_aload_n S dX10_holdsFoes_18 rfl (lv_at hl 0 rfl) ?_
            refine r_get (K := 22) (v := .ref (G.2.2.2.1 23)) S X2019 (Nat.le_of_ble_eq_true rfl) rfl lk10_12_8 (fun _ => ⟨_, rfl, rfl⟩) dX10_holdsFoes_19 ?_
            refine r_geti (K := 4) S X2019 (Nat.le_of_ble_eq_true rfl) rfl lk10_49_2 (fun _ => ⟨_, rfl, rfl⟩) z1945 dX10_holdsFoes_22 ?_
            refine r_icmp_ge (tgt := 63) S dX10_holdsFoes_25 (by decide) (fun c2022 => ?_) (fun c2022 => ?_)
            ·
              refine r_iinc (k := 2) S dX10_holdsFoes_63 hl rfl (by decide) (by decide) (fun v2023 d2024 ls z2025 z2026 hl => ?_)
              obtain ⟨e2027, r2028⟩ := i_add (lo := 1) (hi := 10) z2025 r1951 (R_eq z2026) rfl
              have hl : lv_has ls 4 [(2, .int v2023), (0, .ref (G.2.2.2.1 22)), (1, .int a0), (3, .int i2017)] := hl
              refine r_goto (tgt := 2) S dX10_holdsFoes_66 (by decide) ?_
              exact ih1943 _ _ _ v2023 X2019 (R_of r2028 rfl) (lv_sub hl [1, 2, 0] rfl) (by omega)
            ·
              have r2029 : R (1) (9) i2017 := ⟨by omega, by omega⟩
              have r2030 : R (2) (10) v1944 := ⟨by omega, by omega⟩
              refine r_iload_n S dX10_holdsFoes_28 rfl (lv_at hl 1 rfl) ?_
              refine r_iload_n S dX10_holdsFoes_29 rfl (lv_at hl 2 rfl) ?_
              refine r_ki (q_N (As := [.int a0, .int i1939]) (rest := []) S X2019 (c_X11_bit l G τ hI a0 i1939 h_a0 (R_of (lo := -2147483648) (hi := 2147483647) r1951 rfl)) ck10_65 ⟨Nat.le_of_ble_eq_true rfl, Nat.le_of_ble_eq_true rfl⟩ rfl hl.1 rfl (Nat.le_of_ble_eq_true rfl) dX10_holdsFoes_30 ⟨Nat.le_refl 0, Nat.le_refl 0⟩) X2019 (fun v2034 t2033 H lc q2031 X2032 => ?_)
              unfold po_X11_bit at q2031
              obtain ⟨q2035, q2036⟩ := q2031
              rw [q2035] at X2032
              refine r_iconst S dX10_holdsFoes_33 (by decide) (fun v2037 z2038 => ?_)
              have r2039 := R_eq z2038
              refine r_icmp_ne (tgt := 57) S dX10_holdsFoes_34 (by decide) (fun c2040 => ?_) (fun c2040 => ?_)
              ·
                have r2041 : R (0) (0) v2034 := ⟨by omega, by omega⟩
                refine r_iinc (k := 3) S dX10_holdsFoes_57 hl rfl (by decide) (by decide) (fun v2042 d2043 ls z2044 z2045 hl => ?_)
                obtain ⟨e2046, r2047⟩ := i_add (lo := 2) (hi := 10) z2044 r2029 (R_eq z2045) rfl
                have hl : lv_has ls 4 [(3, .int v2042), (0, .ref (G.2.2.2.1 22)), (1, .int a0), (2, .int i1939)] := hl
                refine r_goto (tgt := 17) S dX10_holdsFoes_60 (by decide) ?_
                exact ih2021 _ _ _ v2042 X2032 (R_of r2047 rfl) (lv_sub hl [1, 2, 3, 0] rfl) (by omega)
              ·
                have r2048 : R (1) (1) v2034 := ⟨by omega, by omega⟩
                refine r_iload_n S dX10_holdsFoes_37 rfl (lv_at hl 1 rfl) ?_
                refine r_iload_n S dX10_holdsFoes_38 rfl (lv_at hl 3 rfl) ?_
                refine r_ki (q_N (As := [.int a0, .int i2017]) (rest := []) S X2032 (c_X11_bit l G τ hI a0 i2017 h_a0 (R_of (lo := -2147483648) (hi := 2147483647) r2029 rfl)) ck10_65 ⟨Nat.le_of_ble_eq_true rfl, Nat.le_of_ble_eq_true rfl⟩ rfl hl.1 rfl (Nat.le_of_ble_eq_true rfl) dX10_holdsFoes_39 ⟨Nat.le_refl 0, Nat.le_refl 0⟩) X2032 (fun v2052 t2051 H lc q2049 X2050 => ?_)
                unfold po_X11_bit at q2049
                obtain ⟨q2053, q2054⟩ := q2049
                rw [q2053] at X2050
                refine r_iconst S dX10_holdsFoes_42 (by decide) (fun v2055 z2056 => ?_)
                have r2057 := R_eq z2056
                refine r_icmp_ne (tgt := 57) S dX10_holdsFoes_43 (by decide) (fun c2058 => ?_) (fun c2058 => ?_)
                ·
                  have r2059 : R (0) (0) v2052 := ⟨by omega, by omega⟩
                  refine r_iinc (k := 3) S dX10_holdsFoes_57 hl rfl (by decide) (by decide) (fun v2060 d2061 ls z2062 z2063 hl => ?_)
                  obtain ⟨e2064, r2065⟩ := i_add (lo := 2) (hi := 10) z2062 r2029 (R_eq z2063) rfl
                  have hl : lv_has ls 4 [(3, .int v2060), (0, .ref (G.2.2.2.1 22)), (1, .int a0), (2, .int i1939)] := hl
                  refine r_goto (tgt := 17) S dX10_holdsFoes_60 (by decide) ?_
                  exact ih2021 _ _ _ v2060 X2050 (R_of r2065 rfl) (lv_sub hl [1, 2, 3, 0] rfl) (by omega)
                ·
                  have r2066 : R (1) (1) v2052 := ⟨by omega, by omega⟩
                  refine r_aload_n S dX10_holdsFoes_46 rfl (lv_at hl 0 rfl) ?_
                  refine r_iload_n S dX10_holdsFoes_47 rfl (lv_at hl 2 rfl) ?_
                  refine r_iload_n S dX10_holdsFoes_48 rfl (lv_at hl 3 rfl) ?_
                  refine r_ki (q_V (As := [.int i1939, .int i2017]) (rest := []) (K := 22) (ci := 8) S X2050 (c_X10_areFoes l G τ hI i1939 i2017 r1951 (R_of (lo := 0) (hi := 9) r2029 rfl)) ck10_105 (Nat.le_of_ble_eq_true rfl) rfl (fun _ => ⟨_, rfl⟩) ⟨_, _, rfl⟩ ⟨Nat.le_of_ble_eq_true rfl, Nat.le_of_ble_eq_true rfl⟩ rfl hl.1 rfl (Nat.le_of_ble_eq_true rfl) dX10_holdsFoes_49 ⟨Nat.le_refl 0, Nat.le_refl 0⟩) X2050 (fun v2070 t2069 H lc q2067 X2068 => ?_)
                  unfold po_X10_areFoes at q2067
                  obtain ⟨q2071, q2072⟩ := q2067
                  rw [q2071] at X2068
                  refine r_if_eq (tgt := 57) S dX10_holdsFoes_52 (by decide) (fun c2073 => ?_) (fun c2073 => ?_)
                  ·
                    have r2074 : R (0) (0) v2070 := ⟨by omega, by omega⟩
                    refine r_iinc (k := 3) S dX10_holdsFoes_57 hl rfl (by decide) (by decide) (fun v2075 d2076 ls z2077 z2078 hl => ?_)
                    obtain ⟨e2079, r2080⟩ := i_add (lo := 2) (hi := 10) z2077 r2029 (R_eq z2078) rfl
                    have hl : lv_has ls 4 [(3, .int v2075), (0, .ref (G.2.2.2.1 22)), (1, .int a0), (2, .int i1939)] := hl
                    refine r_goto (tgt := 17) S dX10_holdsFoes_60 (by decide) ?_
                    exact ih2021 _ _ _ v2075 X2068 (R_of r2080 rfl) (lv_sub hl [1, 2, 3, 0] rfl) (by omega)
                  ·
                    have r2081 : R (1) (1) v2070 := ⟨by omega, by omega⟩
                    refine r_iconst S dX10_holdsFoes_55 (by decide) (fun v2082 z2083 => ?_)
                    have r2084 := R_eq z2083
                    exact r_ret S hr hlk X2068 ⟨rfl, (R_of r2084 rfl)⟩ (nr_bool (R_of (lo := 0) (hi := 1) r2084 rfl)) dX10_holdsFoes_56
        exact L2020 _ _ _ _ v1956 X1941 r1959 (lv_sub hl [1, 2, 3, 0] rfl) (Nat.lt_succ_self _)
  exact L1942 _ _ _ _ v1 X (R_of r3 rfl) (lv_sub hl [1, 2, 0] rfl) (Nat.lt_succ_self _)
def po_X10_whyStay (τ : Tau)  (a0 : Int32) (r : Int32) (u : Tau) : Prop := u = τ ∧ R (0) (4) r
set_option maxHeartbeats 4000000 in
set_option maxRecDepth 100000 in
theorem c_X10_whyStay (l : Launch) (G : Gx) (τ : Tau) (hI : Inv τ) (a0 : Int32) (h_a0 : R (-2147483648) (2147483647) a0) (hWI : WI τ) : Ci l G yX10_whyStay cX10_whyStay 2 (some .int) 4 97 [.ref (G.2.2.2.1 22), .int a0] τ (po_X10_whyStay τ  a0) := by
  unfold Ci
  refine C_of (own := RX10) (by decide) rfl (Nat.le_of_ble_eq_true rfl) ?_
  intro p e s m below meth c ls S hr hlk X hl
  have hl : lv_has ls 2 [(0, .ref (G.2.2.2.1 22)), (1, .int a0)] := hl
  refine r_iload_n S dX10_whyStay_0 rfl (lv_at hl 1 rfl) ?_
  refine r_if_eq (tgt := 15) S dX10_whyStay_1 (by decide) (fun c1 => ?_) (fun c1 => ?_)
  ·
    have r2 : R (0) (0) a0 := ⟨by omega, by omega⟩
    refine r_iconst S dX10_whyStay_15 (by decide) (fun v3 z4 => ?_)
    have r5 := R_eq z4
    exact r_ret S hr hlk X ⟨rfl, (R_of r5 rfl)⟩ rfl dX10_whyStay_16
  ·
    refine r_iload_n S dX10_whyStay_4 rfl (lv_at hl 1 rfl) ?_
    refine r_aload_n S dX10_whyStay_5 rfl (lv_at hl 0 rfl) ?_
    refine r_ki (q_V (As := []) (rest := [.int a0]) (K := 22) (ci := 8) S X (c_X10_here l G τ hI ) ck10_109 (Nat.le_of_ble_eq_true rfl) rfl (fun _ => ⟨_, rfl⟩) ⟨_, _, rfl⟩ ⟨Nat.le_of_ble_eq_true rfl, Nat.le_of_ble_eq_true rfl⟩ rfl hl.1 rfl (Nat.le_of_ble_eq_true rfl) dX10_whyStay_6 ⟨Nat.le_refl 0, Nat.le_refl 0⟩) X (fun v9 t8 H lc q6 X7 => ?_)
    unfold po_X10_here at q6
    obtain ⟨q10, q11⟩ := q6
    rw [q10] at X7
    refine r_iconst S dX10_whyStay_9 (by decide) (fun v12 z13 => ?_)
    have r14 := R_eq z13
    refine r_ixor S dX10_whyStay_10 (fun v15 z16 => ?_)
    have r17 := R_any v15
    refine r_iand S dX10_whyStay_11 (fun v18 z19 => ?_)
    have r20 := R_any v18
    refine r_if_eq (tgt := 17) S dX10_whyStay_12 (by decide) (fun c21 => ?_) (fun c21 => ?_)
    ·
      have r22 : R (0) (0) v18 := ⟨by omega, by omega⟩
      refine r_iload_n S dX10_whyStay_17 rfl (lv_at hl 1 rfl) ?_
      refine r_ki (q_S (As := [.int a0]) (rest := []) S X7 (c_J6_bitCount_0f7a4 l G τ hI a0 h_a0) ck10_73 ⟨Nat.le_of_ble_eq_true rfl, Nat.le_of_ble_eq_true rfl⟩ rfl hl.1 rfl (Nat.le_of_ble_eq_true rfl) dX10_whyStay_18 ⟨Nat.le_refl 0, Nat.le_refl 0⟩) X7 (fun v26 t25 H lc q23 X24 => ?_)
      unfold po_J6_bitCount_0f7a4 at q23
      obtain ⟨q27, q28⟩ := q23
      rw [q27] at X24
      refine r_aload_n S dX10_whyStay_21 rfl (lv_at hl 0 rfl) ?_
      refine r_get (K := 22) (v := .ref (G.2.2.2.1 23)) S X24 (Nat.le_of_ble_eq_true rfl) rfl lk10_12_8 (fun _ => ⟨_, rfl, rfl⟩) dX10_whyStay_22 ?_
      refine r_getn (K := 4) S X24 (Nat.le_of_ble_eq_true rfl) rfl lk10_112_2 (fun _ => ⟨_, rfl, rfl⟩) dX10_whyStay_25 (fun v29 z30 => ?_)
      have r31 : R (0) (8) v29 := rd hI rfl z30
      refine r_icmp_le (tgt := 33) S dX10_whyStay_28 (by decide) (fun c32 => ?_) (fun c32 => ?_)
      ·
        have r33 : R (0) (8) v26 := ⟨by omega, by omega⟩
        refine r_aload_n S dX10_whyStay_33 rfl (lv_at hl 0 rfl) ?_
        refine r_get (K := 22) (v := .ref (G.2.2.2.1 23)) S X24 (Nat.le_of_ble_eq_true rfl) rfl lk10_12_8 (fun _ => ⟨_, rfl, rfl⟩) dX10_whyStay_34 ?_
        refine r_getn (K := 4) S X24 (Nat.le_of_ble_eq_true rfl) rfl lk10_52_2 (fun _ => ⟨_, rfl, rfl⟩) dX10_whyStay_37 (fun v34 z35 => ?_)
        have r36 : R (0) (9) v34 := rd hI rfl z35
        refine r_if_eq (tgt := 62) S dX10_whyStay_40 (by decide) (fun c37 => ?_) (fun c37 => ?_)
        ·
          have r38 : R (0) (0) v34 := ⟨by omega, by omega⟩
          refine r_iconst S dX10_whyStay_62 (by decide) (fun v39 z40 => ?_)
          have r41 := R_eq z40
          exact r_ret S hr hlk X24 ⟨rfl, (R_of r41 rfl)⟩ rfl dX10_whyStay_63
        ·
          have r42 : R (1) (9) v34 := ⟨by omega, by omega⟩
          refine r_aload_n S dX10_whyStay_43 rfl (lv_at hl 0 rfl) ?_
          refine r_aload_n S dX10_whyStay_44 rfl (lv_at hl 0 rfl) ?_
          refine r_iload_n S dX10_whyStay_45 rfl (lv_at hl 1 rfl) ?_
          refine r_aload_n S dX10_whyStay_46 rfl (lv_at hl 0 rfl) ?_
          refine r_get (K := 22) (v := .ref (G.2.2.2.1 30)) S X24 (Nat.le_of_ble_eq_true rfl) rfl lk10_21_8 (fun _ => ⟨_, rfl, rfl⟩) dX10_whyStay_47 ?_
          refine r_getn (K := 23) S X24 (Nat.le_of_ble_eq_true rfl) rfl lk10_115_3 (fun _ => ⟨_, rfl, rfl⟩) dX10_whyStay_50 (fun v43 z44 => ?_)
          have r45 : R (-1) (8) v43 := rd hI rfl z44
          have r46 : R 0 8 v43 := WI_r hWI z35 z44 (R_of r42 rfl) (R_of r45 rfl)
          refine r_ki (q_V (As := [.int a0, .int v43]) (rest := [.ref (G.2.2.2.1 22)]) (K := 22) (ci := 8) S X24 (c_X10_together l G τ hI a0 v43 h_a0 r46) ck10_118 (Nat.le_of_ble_eq_true rfl) rfl (fun _ => ⟨_, rfl⟩) ⟨_, _, rfl⟩ ⟨Nat.le_of_ble_eq_true rfl, Nat.le_of_ble_eq_true rfl⟩ rfl hl.1 rfl (Nat.le_of_ble_eq_true rfl) dX10_whyStay_53 ⟨Nat.le_refl 0, Nat.le_refl 0⟩) X24 (fun v50 t49 H lc q47 X48 => ?_)
          unfold po_X10_together at q47
          have q51 := q47
          rw [q51] at X48
          have r52 := R_any v50
          refine r_ki (q_V (As := [.int v50]) (rest := []) (K := 22) (ci := 8) S X48 (c_X10_isLevel l G τ hI v50 r52) ck10_121 (Nat.le_of_ble_eq_true rfl) rfl (fun _ => ⟨_, rfl⟩) ⟨_, _, rfl⟩ ⟨Nat.le_of_ble_eq_true rfl, Nat.le_of_ble_eq_true rfl⟩ rfl hl.1 rfl (Nat.le_of_ble_eq_true rfl) dX10_whyStay_56 ⟨Nat.le_refl 0, Nat.le_refl 0⟩) X48 (fun v56 t55 H lc q53 X54 => ?_)
          unfold po_X10_isLevel at q53
          obtain ⟨q57, q58⟩ := q53
          rw [q57] at X54
          refine r_if_ne (tgt := 64) S dX10_whyStay_59 (by decide) (fun c59 => ?_) (fun c59 => ?_)
          ·
            have r60 : R (1) (1) v56 := ⟨by omega, by omega⟩
            refine r_aload_n S dX10_whyStay_64 rfl (lv_at hl 0 rfl) ?_
            refine r_iload_n S dX10_whyStay_65 rfl (lv_at hl 1 rfl) ?_
            refine r_ki (q_V (As := [.int a0]) (rest := []) (K := 22) (ci := 8) S X54 (c_X10_holdsFoes l G τ hI a0 h_a0) ck10_125 (Nat.le_of_ble_eq_true rfl) rfl (fun _ => ⟨_, rfl⟩) ⟨_, _, rfl⟩ ⟨Nat.le_of_ble_eq_true rfl, Nat.le_of_ble_eq_true rfl⟩ rfl hl.1 rfl (Nat.le_of_ble_eq_true rfl) dX10_whyStay_66 ⟨Nat.le_refl 0, Nat.le_refl 0⟩) X54 (fun v64 t63 H lc q61 X62 => ?_)
            unfold po_X10_holdsFoes at q61
            obtain ⟨q65, q66⟩ := q61
            rw [q65] at X62
            refine r_if_eq (tgt := 76) S dX10_whyStay_69 (by decide) (fun c67 => ?_) (fun c67 => ?_)
            ·
              have r68 : R (0) (0) v64 := ⟨by omega, by omega⟩
              refine r_iconst S dX10_whyStay_76 (by decide) (fun v69 z70 => ?_)
              have r71 := R_eq z70
              exact r_ret S hr hlk X62 ⟨rfl, (R_of r71 rfl)⟩ rfl dX10_whyStay_77
            ·
              have r72 : R (1) (1) v64 := ⟨by omega, by omega⟩
              refine r_iconst S dX10_whyStay_72 (by decide) (fun v73 z74 => ?_)
              have r75 := R_eq z74
              refine r_goto (tgt := 77) S dX10_whyStay_73 (by decide) ?_
              exact r_ret S hr hlk X62 ⟨rfl, (R_of r75 rfl)⟩ rfl dX10_whyStay_77
          ·
            have r76 : R (0) (0) v56 := ⟨by omega, by omega⟩
            refine r_iconst S dX10_whyStay_62 (by decide) (fun v77 z78 => ?_)
            have r79 := R_eq z78
            exact r_ret S hr hlk X54 ⟨rfl, (R_of r79 rfl)⟩ rfl dX10_whyStay_63
      ·
        have r80 : R (1) (63) v26 := ⟨by omega, by omega⟩
        refine r_iconst S dX10_whyStay_31 (by decide) (fun v81 z82 => ?_)
        have r83 := R_eq z82
        exact r_ret S hr hlk X24 ⟨rfl, (R_of r83 rfl)⟩ rfl dX10_whyStay_32
    ·
      refine r_iconst S dX10_whyStay_15 (by decide) (fun v84 z85 => ?_)
      have r86 := R_eq z85
      exact r_ret S hr hlk X7 ⟨rfl, (R_of r86 rfl)⟩ rfl dX10_whyStay_16
def po_X7_addNumber (τ : Tau)  (a0 : Int32) (u : Tau) : Prop := Inv u ∧ Fr [(1, 1)] [2] τ u ∧ ((τ 1 1).toInt ≤ 936 → (u 1 1).toInt = (τ 1 1).toInt + 4)
set_option maxHeartbeats 4000000 in
set_option maxRecDepth 100000 in
theorem c_X7_addNumber (l : Launch) (G : Gx) (τ : Tau) (hI : Inv τ) (a0 : Int32) (h_a0 : R (-2147483648) (2147483647) a0) : Cv l G yX7_addNumber cX7_addNumber 3 0 0 [.ref (G.2.2.2.1 1), .int a0] τ (po_X7_addNumber τ  a0) := by
  unfold Cv
  refine C_of (own := RX7) (by decide) rfl (Nat.le_of_ble_eq_true rfl) ?_
  intro p e s m below meth c ls S hr hlk X hl
  have hl : lv_has ls 3 [(0, .ref (G.2.2.2.1 1)), (1, .int a0)] := hl
  refine r_aload_n S dX7_addNumber_0 rfl (lv_at hl 0 rfl) ?_
  refine r_getn (K := 1) S X (Nat.le_of_ble_eq_true rfl) rfl lk7_15_7 (fun _ => ⟨_, rfl, rfl⟩) dX7_addNumber_1 (fun v1 z2 => ?_)
  have r3 : R (0) (940) v1 := rd hI rfl z2
  refine r_iconst S dX7_addNumber_4 (by decide) (fun v4 z5 => ?_)
  have r6 := R_eq z5
  refine r_iadd S dX7_addNumber_5 (fun v7 z8 => ?_)
  obtain ⟨e9, r10⟩ := i_add (lo := 4) (hi := 944) z8 r3 r6 rfl
  refine r_sipush S dX7_addNumber_6 (by decide) (fun v11 z12 => ?_)
  have r13 := R_eq z12
  refine r_icmp_le (tgt := 13) S dX7_addNumber_9 (by decide) (fun c14 => ?_) (fun c14 => ?_)
  ·
    have r15 : R (4) (940) v7 := ⟨by omega, by omega⟩
    refine r_bipush S dX7_addNumber_13 (by decide) (fun v16 z17 => ?_)
    have r18 := R_eq z17
    refine r_istore_n (lv' := [(2, .int v16), (0, .ref (G.2.2.2.1 1)), (1, .int a0)]) S dX7_addNumber_15 rfl hl (by decide) rfl (fun ls hl => ?_)
    refine r_iload_n S dX7_addNumber_16 rfl (lv_at hl 0 rfl) ?_
    refine r_if_lt (tgt := 52) S dX7_addNumber_17 (by decide) (fun c19 => ?_) (fun c19 => ?_)
    ·
      exfalso; omega
    ·
      refine r_aload_n S dX7_addNumber_20 rfl (lv_at hl 1 rfl) ?_
      refine r_get (K := 1) (v := .ref (G.2.2.2.1 2)) S X (Nat.le_of_ble_eq_true rfl) rfl lk7_9_7 (fun _ => ⟨_, rfl, rfl⟩) dX7_addNumber_21 ?_
      refine r_aload_n S dX7_addNumber_24 rfl (lv_at hl 1 rfl) ?_
      refine r_geti (K := 1) S X (Nat.le_of_ble_eq_true rfl) rfl lk7_15_7 (fun _ => ⟨_, rfl, rfl⟩) z2 dX7_addNumber_25 ?_
      refine r_iload_n S dX7_addNumber_28 rfl (lv_at hl 2 rfl) ?_
      refine r_iload_n S dX7_addNumber_29 rfl (lv_at hl 0 rfl) ?_
      refine r_iushr S dX7_addNumber_30 (fun v20 z21 => ?_)
      have r23 : R (0) (255) v20 := i_ushrc z21 h_a0 r18 rfl
      refine r_sipush S dX7_addNumber_31 (by decide) (fun v24 z25 => ?_)
      have r26 := R_eq z25
      refine r_iand S dX7_addNumber_34 (fun v27 z28 => ?_)
      have r30 : R (0) (255) v27 := i_and1 z28 r23 r26 rfl
      have e31 := i_andle z28 r23 rfl
      refine r_ast (n := 940) (K := 2) S X (Nat.le_of_ble_eq_true rfl) rfl (fun _ _ => rfl) (by omega) dX7_addNumber_35 (fun t32 H lc M33 X34 => ?_)
      have I35 := Inv_mu hI M33 (show Rg (kd 2) _ v27 from (R_of (lo := 0) (hi := 255) r30 rfl))
      have F36 : Fr [(1, 1)] [2] τ t32 := Fr_cell Fr_rfl M33 (by decide)
      refine r_aload_n S dX7_addNumber_36 rfl (lv_at hl 1 rfl) ?_
      refine r_dup S dX7_addNumber_37 rfl ?_
      refine r_geti (K := 1) S X34 (Nat.le_of_ble_eq_true rfl) rfl lk7_15_7 (fun _ => ⟨_, rfl, rfl⟩) ((M33.2 _ _ (Or.inl (by decide))).trans z2) dX7_addNumber_38 ?_
      refine r_iconst S dX7_addNumber_41 (by decide) (fun v37 z38 => ?_)
      have r39 := R_eq z38
      refine r_iadd S dX7_addNumber_42 (fun v40 z41 => ?_)
      obtain ⟨e42, r43⟩ := i_add (lo := 1) (hi := 941) z41 r3 r39 rfl
      refine r_put (K := 1) (ty := .int) S X34 (Nat.le_of_ble_eq_true rfl) rfl lk7_15_7 (fun _ => ⟨_, rfl, Nat.le_of_ble_eq_true rfl, rfl⟩) (fun _ _ _ h => by cases h; exact ⟨rfl, rfl⟩) rfl rfl dX7_addNumber_43 (fun t44 H lc M45 X46 => ?_)
      have I47 := Inv_mu I35 M45 (show Rg (kd 1) 1 v40 from (show R (0) (940) v40 from ⟨by omega, by omega⟩))
      have F48 : Fr [(1, 1)] [2] τ t44 := Fr_mu F36 M45 (by decide)
      have r49 : R (1) (940) v40 := ⟨by omega, by omega⟩
      refine r_iinc (k := 0) S dX7_addNumber_46 hl rfl (by decide) (by decide) (fun v50 d51 ls z52 z53 hl => ?_)
      obtain ⟨e54, r55⟩ := i_add (lo := 16) (hi := 16) z52 r18 (R_eq z53) rfl
      have hl : lv_has ls 3 [(2, .int v50), (0, .ref (G.2.2.2.1 1)), (1, .int a0)] := hl
      refine r_goto (tgt := 16) S dX7_addNumber_49 (by decide) ?_
      refine r_iload_n S dX7_addNumber_16 rfl (lv_at hl 0 rfl) ?_
      refine r_if_lt (tgt := 52) S dX7_addNumber_17 (by decide) (fun c56 => ?_) (fun c56 => ?_)
      ·
        exfalso; omega
      ·
        refine r_aload_n S dX7_addNumber_20 rfl (lv_at hl 1 rfl) ?_
        refine r_get (K := 1) (v := .ref (G.2.2.2.1 2)) S X46 (Nat.le_of_ble_eq_true rfl) rfl lk7_9_7 (fun _ => ⟨_, rfl, rfl⟩) dX7_addNumber_21 ?_
        refine r_aload_n S dX7_addNumber_24 rfl (lv_at hl 1 rfl) ?_
        refine r_geti (K := 1) S X46 (Nat.le_of_ble_eq_true rfl) rfl lk7_15_7 (fun _ => ⟨_, rfl, rfl⟩) M45.1 dX7_addNumber_25 ?_
        refine r_iload_n S dX7_addNumber_28 rfl (lv_at hl 2 rfl) ?_
        refine r_iload_n S dX7_addNumber_29 rfl (lv_at hl 0 rfl) ?_
        refine r_iushr S dX7_addNumber_30 (fun v57 z58 => ?_)
        have r60 : R (0) (65535) v57 := i_ushrc z58 h_a0 r55 rfl
        refine r_sipush S dX7_addNumber_31 (by decide) (fun v61 z62 => ?_)
        have r63 := R_eq z62
        refine r_iand S dX7_addNumber_34 (fun v64 z65 => ?_)
        have r67 : R (0) (255) v64 := i_and2 z65 r60 r63 rfl
        have e68 := i_andle z65 r60 rfl
        refine r_ast (n := 940) (K := 2) S X46 (Nat.le_of_ble_eq_true rfl) rfl (fun _ _ => rfl) (by omega) dX7_addNumber_35 (fun t69 H lc M70 X71 => ?_)
        have I72 := Inv_mu I47 M70 (show Rg (kd 2) _ v64 from (R_of (lo := 0) (hi := 255) r67 rfl))
        have F73 : Fr [(1, 1)] [2] τ t69 := Fr_cell F48 M70 (by decide)
        refine r_aload_n S dX7_addNumber_36 rfl (lv_at hl 1 rfl) ?_
        refine r_dup S dX7_addNumber_37 rfl ?_
        refine r_geti (K := 1) S X71 (Nat.le_of_ble_eq_true rfl) rfl lk7_15_7 (fun _ => ⟨_, rfl, rfl⟩) ((M70.2 _ _ (Or.inl (by decide))).trans M45.1) dX7_addNumber_38 ?_
        refine r_iconst S dX7_addNumber_41 (by decide) (fun v74 z75 => ?_)
        have r76 := R_eq z75
        refine r_iadd S dX7_addNumber_42 (fun v77 z78 => ?_)
        obtain ⟨e79, r80⟩ := i_add (lo := 2) (hi := 941) z78 r49 r76 rfl
        refine r_put (K := 1) (ty := .int) S X71 (Nat.le_of_ble_eq_true rfl) rfl lk7_15_7 (fun _ => ⟨_, rfl, Nat.le_of_ble_eq_true rfl, rfl⟩) (fun _ _ _ h => by cases h; exact ⟨rfl, rfl⟩) rfl rfl dX7_addNumber_43 (fun t81 H lc M82 X83 => ?_)
        have I84 := Inv_mu I72 M82 (show Rg (kd 1) 1 v77 from (show R (0) (940) v77 from ⟨by omega, by omega⟩))
        have F85 : Fr [(1, 1)] [2] τ t81 := Fr_mu F73 M82 (by decide)
        have r86 : R (2) (940) v77 := ⟨by omega, by omega⟩
        refine r_iinc (k := 0) S dX7_addNumber_46 hl rfl (by decide) (by decide) (fun v87 d88 ls z89 z90 hl => ?_)
        obtain ⟨e91, r92⟩ := i_add (lo := 8) (hi := 8) z89 r55 (R_eq z90) rfl
        have hl : lv_has ls 3 [(2, .int v87), (0, .ref (G.2.2.2.1 1)), (1, .int a0)] := hl
        refine r_goto (tgt := 16) S dX7_addNumber_49 (by decide) ?_
        refine r_iload_n S dX7_addNumber_16 rfl (lv_at hl 0 rfl) ?_
        refine r_if_lt (tgt := 52) S dX7_addNumber_17 (by decide) (fun c93 => ?_) (fun c93 => ?_)
        ·
          exfalso; omega
        ·
          refine r_aload_n S dX7_addNumber_20 rfl (lv_at hl 1 rfl) ?_
          refine r_get (K := 1) (v := .ref (G.2.2.2.1 2)) S X83 (Nat.le_of_ble_eq_true rfl) rfl lk7_9_7 (fun _ => ⟨_, rfl, rfl⟩) dX7_addNumber_21 ?_
          refine r_aload_n S dX7_addNumber_24 rfl (lv_at hl 1 rfl) ?_
          refine r_geti (K := 1) S X83 (Nat.le_of_ble_eq_true rfl) rfl lk7_15_7 (fun _ => ⟨_, rfl, rfl⟩) M82.1 dX7_addNumber_25 ?_
          refine r_iload_n S dX7_addNumber_28 rfl (lv_at hl 2 rfl) ?_
          refine r_iload_n S dX7_addNumber_29 rfl (lv_at hl 0 rfl) ?_
          refine r_iushr S dX7_addNumber_30 (fun v94 z95 => ?_)
          have r97 : R (0) (16777215) v94 := i_ushrc z95 h_a0 r92 rfl
          refine r_sipush S dX7_addNumber_31 (by decide) (fun v98 z99 => ?_)
          have r100 := R_eq z99
          refine r_iand S dX7_addNumber_34 (fun v101 z102 => ?_)
          have r104 : R (0) (255) v101 := i_and2 z102 r97 r100 rfl
          have e105 := i_andle z102 r97 rfl
          refine r_ast (n := 940) (K := 2) S X83 (Nat.le_of_ble_eq_true rfl) rfl (fun _ _ => rfl) (by omega) dX7_addNumber_35 (fun t106 H lc M107 X108 => ?_)
          have I109 := Inv_mu I84 M107 (show Rg (kd 2) _ v101 from (R_of (lo := 0) (hi := 255) r104 rfl))
          have F110 : Fr [(1, 1)] [2] τ t106 := Fr_cell F85 M107 (by decide)
          refine r_aload_n S dX7_addNumber_36 rfl (lv_at hl 1 rfl) ?_
          refine r_dup S dX7_addNumber_37 rfl ?_
          refine r_geti (K := 1) S X108 (Nat.le_of_ble_eq_true rfl) rfl lk7_15_7 (fun _ => ⟨_, rfl, rfl⟩) ((M107.2 _ _ (Or.inl (by decide))).trans M82.1) dX7_addNumber_38 ?_
          refine r_iconst S dX7_addNumber_41 (by decide) (fun v111 z112 => ?_)
          have r113 := R_eq z112
          refine r_iadd S dX7_addNumber_42 (fun v114 z115 => ?_)
          obtain ⟨e116, r117⟩ := i_add (lo := 3) (hi := 941) z115 r86 r113 rfl
          refine r_put (K := 1) (ty := .int) S X108 (Nat.le_of_ble_eq_true rfl) rfl lk7_15_7 (fun _ => ⟨_, rfl, Nat.le_of_ble_eq_true rfl, rfl⟩) (fun _ _ _ h => by cases h; exact ⟨rfl, rfl⟩) rfl rfl dX7_addNumber_43 (fun t118 H lc M119 X120 => ?_)
          have I121 := Inv_mu I109 M119 (show Rg (kd 1) 1 v114 from (show R (0) (940) v114 from ⟨by omega, by omega⟩))
          have F122 : Fr [(1, 1)] [2] τ t118 := Fr_mu F110 M119 (by decide)
          have r123 : R (3) (940) v114 := ⟨by omega, by omega⟩
          refine r_iinc (k := 0) S dX7_addNumber_46 hl rfl (by decide) (by decide) (fun v124 d125 ls z126 z127 hl => ?_)
          obtain ⟨e128, r129⟩ := i_add (lo := 0) (hi := 0) z126 r92 (R_eq z127) rfl
          have hl : lv_has ls 3 [(2, .int v124), (0, .ref (G.2.2.2.1 1)), (1, .int a0)] := hl
          refine r_goto (tgt := 16) S dX7_addNumber_49 (by decide) ?_
          refine r_iload_n S dX7_addNumber_16 rfl (lv_at hl 0 rfl) ?_
          refine r_if_lt (tgt := 52) S dX7_addNumber_17 (by decide) (fun c130 => ?_) (fun c130 => ?_)
          ·
            exfalso; omega
          ·
            refine r_aload_n S dX7_addNumber_20 rfl (lv_at hl 1 rfl) ?_
            refine r_get (K := 1) (v := .ref (G.2.2.2.1 2)) S X120 (Nat.le_of_ble_eq_true rfl) rfl lk7_9_7 (fun _ => ⟨_, rfl, rfl⟩) dX7_addNumber_21 ?_
            refine r_aload_n S dX7_addNumber_24 rfl (lv_at hl 1 rfl) ?_
            refine r_geti (K := 1) S X120 (Nat.le_of_ble_eq_true rfl) rfl lk7_15_7 (fun _ => ⟨_, rfl, rfl⟩) M119.1 dX7_addNumber_25 ?_
            refine r_iload_n S dX7_addNumber_28 rfl (lv_at hl 2 rfl) ?_
            refine r_iload_n S dX7_addNumber_29 rfl (lv_at hl 0 rfl) ?_
            refine r_iushr S dX7_addNumber_30 (fun v131 z132 => ?_)
            have r133 := R_any v131
            refine r_sipush S dX7_addNumber_31 (by decide) (fun v134 z135 => ?_)
            have r136 := R_eq z135
            refine r_iand S dX7_addNumber_34 (fun v137 z138 => ?_)
            have r140 : R (0) (255) v137 := i_and2 z138 r133 r136 rfl
            refine r_ast (n := 940) (K := 2) S X120 (Nat.le_of_ble_eq_true rfl) rfl (fun _ _ => rfl) (by omega) dX7_addNumber_35 (fun t141 H lc M142 X143 => ?_)
            have I144 := Inv_mu I121 M142 (show Rg (kd 2) _ v137 from (R_of (lo := 0) (hi := 255) r140 rfl))
            have F145 : Fr [(1, 1)] [2] τ t141 := Fr_cell F122 M142 (by decide)
            refine r_aload_n S dX7_addNumber_36 rfl (lv_at hl 1 rfl) ?_
            refine r_dup S dX7_addNumber_37 rfl ?_
            refine r_geti (K := 1) S X143 (Nat.le_of_ble_eq_true rfl) rfl lk7_15_7 (fun _ => ⟨_, rfl, rfl⟩) ((M142.2 _ _ (Or.inl (by decide))).trans M119.1) dX7_addNumber_38 ?_
            refine r_iconst S dX7_addNumber_41 (by decide) (fun v146 z147 => ?_)
            have r148 := R_eq z147
            refine r_iadd S dX7_addNumber_42 (fun v149 z150 => ?_)
            obtain ⟨e151, r152⟩ := i_add (lo := 4) (hi := 941) z150 r123 r148 rfl
            refine r_put (K := 1) (ty := .int) S X143 (Nat.le_of_ble_eq_true rfl) rfl lk7_15_7 (fun _ => ⟨_, rfl, Nat.le_of_ble_eq_true rfl, rfl⟩) (fun _ _ _ h => by cases h; exact ⟨rfl, rfl⟩) rfl rfl dX7_addNumber_43 (fun t153 H lc M154 X155 => ?_)
            have I156 := Inv_mu I144 M154 (show Rg (kd 1) 1 v149 from (show R (0) (940) v149 from ⟨by omega, by omega⟩))
            have F157 : Fr [(1, 1)] [2] τ t153 := Fr_mu F145 M154 (by decide)
            have r158 : R (4) (940) v149 := ⟨by omega, by omega⟩
            refine r_iinc (k := 0) S dX7_addNumber_46 hl rfl (by decide) (by decide) (fun v159 d160 ls z161 z162 hl => ?_)
            obtain ⟨e163, r164⟩ := i_add (lo := -8) (hi := -8) z161 r129 (R_eq z162) rfl
            have hl : lv_has ls 3 [(2, .int v159), (0, .ref (G.2.2.2.1 1)), (1, .int a0)] := hl
            refine r_goto (tgt := 16) S dX7_addNumber_49 (by decide) ?_
            refine r_iload_n S dX7_addNumber_16 rfl (lv_at hl 0 rfl) ?_
            refine r_if_lt (tgt := 52) S dX7_addNumber_17 (by decide) (fun c165 => ?_) (fun c165 => ?_)
            ·
              exact r_vret S hr hlk X155 ⟨I156, F157, (by have h1_0 := congrArg Int32.toInt M154.1; have h2_0 := congrArg Int32.toInt z2; omega)⟩ dX7_addNumber_52
            ·
              exfalso; omega
  ·
    have r166 : R (941) (944) v7 := ⟨by omega, by omega⟩
    exact r_vret S hr hlk X ⟨hI, Fr_rfl, (by have h1_0 := congrArg Int32.toInt z2; have h2_0 := congrArg Int32.toInt z2; omega)⟩ dX7_addNumber_12
def po_X7_pairAt (τ : Tau)  (a0 : Int32) (r : Int32) (u : Tau) : Prop := u = τ ∧ R (0) (65535) r
set_option maxHeartbeats 4000000 in
set_option maxRecDepth 100000 in
theorem c_X7_pairAt (l : Launch) (G : Gx) (τ : Tau) (hI : Inv τ) (a0 : Int32) (h_a0 : R (0) (400) a0) : Ci l G yX7_pairAt cX7_pairAt 2 (some .int) 0 0 [.ref (G.2.2.2.1 1), .int a0] τ (po_X7_pairAt τ  a0) := by
  unfold Ci
  refine C_of (own := RX7) (by decide) rfl (Nat.le_of_ble_eq_true rfl) ?_
  intro p e s m below meth c ls S hr hlk X hl
  have hl : lv_has ls 2 [(0, .ref (G.2.2.2.1 1)), (1, .int a0)] := hl
  refine r_iload_n S dX7_pairAt_0 rfl (lv_at hl 1 rfl) ?_
  refine r_if_lt (tgt := 13) S dX7_pairAt_1 (by decide) (fun c1 => ?_) (fun c1 => ?_)
  ·
    exfalso; omega
  ·
    refine r_iload_n S dX7_pairAt_4 rfl (lv_at hl 1 rfl) ?_
    refine r_iconst S dX7_pairAt_5 (by decide) (fun v2 z3 => ?_)
    have r4 := R_eq z3
    refine r_iadd S dX7_pairAt_6 (fun v5 z6 => ?_)
    obtain ⟨e7, r8⟩ := i_add (lo := 1) (hi := 401) z6 h_a0 r4 rfl
    refine r_sipush S dX7_pairAt_7 (by decide) (fun v9 z10 => ?_)
    have r11 := R_eq z10
    refine r_icmp_lt (tgt := 17) S dX7_pairAt_10 (by decide) (fun c12 => ?_) (fun c12 => ?_)
    ·
      refine r_aload_n S dX7_pairAt_17 rfl (lv_at hl 0 rfl) ?_
      refine r_get (K := 1) (v := .ref (G.2.2.2.1 2)) S X (Nat.le_of_ble_eq_true rfl) rfl lk7_9_7 (fun _ => ⟨_, rfl, rfl⟩) dX7_pairAt_18 ?_
      refine r_iload_n S dX7_pairAt_21 rfl (lv_at hl 1 rfl) ?_
      refine r_aldn (n := 940) (K := 2) S X (Nat.le_of_ble_eq_true rfl) rfl (fun _ => rfl) (ix_of h_a0 rfl) dX7_pairAt_22 (fun v13 z14 => ?_)
      have r15 : R (0) (255) v13 := rd hI rfl z14
      refine r_sipush S dX7_pairAt_23 (by decide) (fun v16 z17 => ?_)
      have r18 := R_eq z17
      refine r_imul S dX7_pairAt_26 (fun v19 z20 => ?_)
      obtain ⟨e21, r22⟩ := i_mul (lo := 0) (hi := 65280) z20 r15 r18 rfl rfl
      refine r_aload_n S dX7_pairAt_27 rfl (lv_at hl 0 rfl) ?_
      refine r_get (K := 1) (v := .ref (G.2.2.2.1 2)) S X (Nat.le_of_ble_eq_true rfl) rfl lk7_9_7 (fun _ => ⟨_, rfl, rfl⟩) dX7_pairAt_28 ?_
      refine r_iload_n S dX7_pairAt_31 rfl (lv_at hl 1 rfl) ?_
      refine r_iconst S dX7_pairAt_32 (by decide) (fun v23 z24 => ?_)
      have r25 := R_eq z24
      refine r_iadd S dX7_pairAt_33 (fun v26 z27 => ?_)
      obtain ⟨e28, r29⟩ := i_add (lo := 1) (hi := 401) z27 h_a0 r25 rfl
      refine r_aldn (n := 940) (K := 2) S X (Nat.le_of_ble_eq_true rfl) rfl (fun _ => rfl) (ix_of r29 rfl) dX7_pairAt_34 (fun v30 z31 => ?_)
      have r32 : R (0) (255) v30 := rd hI rfl z31
      refine r_iadd S dX7_pairAt_35 (fun v33 z34 => ?_)
      obtain ⟨e35, r36⟩ := i_add (lo := 0) (hi := 65535) z34 r22 r32 rfl
      exact r_ret S hr hlk X ⟨rfl, r36⟩ rfl dX7_pairAt_36
    ·
      exfalso; omega
def po_X7_step (τ : Tau)   (u : Tau) : Prop := Inv u ∧ Fr [(1, 3), (1, 4), (1, 5), (1, 7), (1, 8)] [] τ u
set_option maxHeartbeats 4000000 in
set_option maxRecDepth 100000 in
theorem c_X7_step (l : Launch) (G : Gx) (τ : Tau) (hI : Inv τ) : Cv l G yX7_step cX7_step 5 0 0 [.ref (G.2.2.2.1 1)] τ (po_X7_step τ  ) := by
  unfold Cv
  refine C_of (own := RX7) (by decide) rfl (Nat.le_of_ble_eq_true rfl) ?_
  intro p e s m below meth c ls S hr hlk X hl
  have hl : lv_has ls 5 [(0, .ref (G.2.2.2.1 1))] := hl
  refine r_aload_n S dX7_step_0 rfl (lv_at hl 0 rfl) ?_
  refine r_getn (K := 1) S X (Nat.le_of_ble_eq_true rfl) rfl lk7_15_7 (fun _ => ⟨_, rfl, rfl⟩) dX7_step_1 (fun v1 z2 => ?_)
  have r3 : R (0) (940) v1 := rd hI rfl z2
  refine r_aload_n S dX7_step_4 rfl (lv_at hl 0 rfl) ?_
  refine r_getn (K := 1) S X (Nat.le_of_ble_eq_true rfl) rfl lk7_19_7 (fun _ => ⟨_, rfl, rfl⟩) dX7_step_5 (fun v4 z5 => ?_)
  have r6 : R (0) (900) v4 := rd hI rfl z5
  have J13 : ∀ (H : Heap) (lc : List Loc) (ls : Array Slot) (i11 : Int32), Xd G s H lc τ → R (0) (900) i11 → lv_has ls 5 [(0, .ref (G.2.2.2.1 1))] → W p l e (Rm 0 0) s m ([.ref (G.2.2.2.1 1)] : List Value).toArray below meth c H lc 0 0 (MQ below (va_Qv (po_X7_step τ  ) (Bs G) G.2.2.2.2) ([.ref (G.2.2.2.1 1)] : List Value).toArray s 0 0 G.2.2.2.2) (F0 m 22 ls [.int i11]) := by
    intro H lc ls i11 X10 r12 hl
    refine r_istore_n (lv' := [(1, .int i11), (0, .ref (G.2.2.2.1 1))]) S dX7_step_22 rfl hl (by decide) rfl (fun ls hl => ?_)
    refine r_aload_n S dX7_step_23 rfl (lv_at hl 1 rfl) ?_
    refine r_aload_n S dX7_step_24 rfl (lv_at hl 1 rfl) ?_
    refine r_getn (K := 1) S X10 (Nat.le_of_ble_eq_true rfl) rfl lk7_22_7 (fun _ => ⟨_, rfl, rfl⟩) dX7_step_25 (fun v14 z15 => ?_)
    have r16 : R (0) (940) v14 := rd hI rfl z15
    refine r_put (K := 1) (ty := .int) S X10 (Nat.le_of_ble_eq_true rfl) rfl lk7_28_7 (fun _ => ⟨_, rfl, Nat.le_of_ble_eq_true rfl, rfl⟩) (fun _ _ _ h => by cases h; exact ⟨rfl, rfl⟩) rfl rfl dX7_step_28 (fun t17 H lc M18 X19 => ?_)
    have I20 := Inv_mu hI M18 (show Rg (kd 1) 3 v14 from (R_of (lo := 0) (hi := 940) r16 rfl))
    have F21 : Fr [(1, 3), (1, 4), (1, 5), (1, 7), (1, 8)] [] τ t17 := Fr_mu Fr_rfl M18 (by decide)
    have L309 : ∀ (n : Nat) (t299 : Tau) (H : Heap) (lc : List Loc) (ls : Array Slot) (f306 : Int32), Xd G s H lc t299 → Inv t299 → Fr [(1, 3), (1, 4), (1, 5), (1, 7), (1, 8)] [] τ t299 → t299 1 1 = v1 → t299 1 2 = v4 → t299 1 4 = v14 → t299 1 3 = f306 → R (0) (940) f306 → lv_has ls 5 [(0, .ref (G.2.2.2.1 1)), (1, .int i11)] → (940 - f306.toInt).toNat < n → W p l e (Rm 0 0) s m ([.ref (G.2.2.2.1 1)] : List Value).toArray below meth c H lc 0 0 (MQ below (va_Qv (po_X7_step τ  ) (Bs G) G.2.2.2.2) ([.ref (G.2.2.2.1 1)] : List Value).toArray s 0 0 G.2.2.2.2) (F0 m 31 ls []) := by
      intro n
      induction n with
      | zero => intros; omega
      | succ n ih310 =>
        intro t299 H lc ls f306 X302 I300 F301 z303 z304 z305 z308 r307 hl hm
        refine r_aload_n S dX7_step_31 rfl (lv_at hl 0 rfl) ?_
        refine r_geti (K := 1) S X302 (Nat.le_of_ble_eq_true rfl) rfl lk7_28_7 (fun _ => ⟨_, rfl, rfl⟩) z308 dX7_step_32 ?_
        refine r_iload_n S dX7_step_35 rfl (lv_at hl 1 rfl) ?_
        have J355 : ∀ (H : Heap) (lc : List Loc) (ls : Array Slot), Xd G s H lc t299 → lv_has ls 5 [(0, .ref (G.2.2.2.1 1)), (1, .int i11)] → W p l e (Rm 0 0) s m ([.ref (G.2.2.2.1 1)] : List Value).toArray below meth c H lc 0 0 (MQ below (va_Qv (po_X7_step τ  ) (Bs G) G.2.2.2.2) ([.ref (G.2.2.2.1 1)] : List Value).toArray s 0 0 G.2.2.2.2) (F0 m 80 ls []) := by
          intro H lc ls X354 hl
          refine r_aload_n S dX7_step_80 rfl (lv_at hl 0 rfl) ?_
          refine r_geti (K := 1) S X354 (Nat.le_of_ble_eq_true rfl) rfl lk7_28_7 (fun _ => ⟨_, rfl, rfl⟩) z308 dX7_step_81 ?_
          refine r_iload_n S dX7_step_84 rfl (lv_at hl 1 rfl) ?_
          refine r_icmp_lt (tgt := 114) S dX7_step_85 (by decide) (fun c356 => ?_) (fun c356 => ?_)
          ·
            have r357 : R (0) (899) f306 := ⟨by omega, by omega⟩
            have r358 : R (1) (900) i11 := ⟨by omega, by omega⟩
            refine r_iconst S dX7_step_114 (by decide) (fun v359 z360 => ?_)
            have r361 := R_eq z360
            refine r_istore_n (lv' := [(2, .int v359), (0, .ref (G.2.2.2.1 1)), (1, .int i11)]) S dX7_step_115 rfl hl (by decide) rfl (fun ls hl => ?_)
            refine r_iconst S dX7_step_116 (by decide) (fun v362 z363 => ?_)
            have r364 := R_eq z363
            refine r_istore_n (lv' := [(3, .int v362), (2, .int v359), (0, .ref (G.2.2.2.1 1)), (1, .int i11)]) S dX7_step_117 rfl hl (by decide) rfl (fun ls hl => ?_)
            refine r_aload_n S dX7_step_118 rfl (lv_at hl 2 rfl) ?_
            refine lv_lconst S.1.1 S.1.2.1 dX7_step_119 rfl ?_
            refine lv_topl (fun j365 _ => ?_)
            refine r_putJ (K := 1) S X354 (Nat.le_of_ble_eq_true rfl) rfl lk7_34_7 (fun _ => ⟨_, rfl, Nat.le_of_ble_eq_true rfl, rfl⟩) (fun _ _ _ h => by cases h; exact ⟨rfl, rfl⟩) dX7_step_120 (fun H lc X366 => ?_)
            refine r_aload_n S dX7_step_123 rfl (lv_at hl 2 rfl) ?_
            refine r_iconst S dX7_step_124 (by decide) (fun v367 z368 => ?_)
            have r369 := R_eq z368
            refine r_put (K := 1) (ty := .int) S X366 (Nat.le_of_ble_eq_true rfl) rfl lk7_38_7 (fun _ => ⟨_, rfl, Nat.le_of_ble_eq_true rfl, rfl⟩) (fun _ _ _ h => by cases h; exact ⟨rfl, rfl⟩) rfl rfl dX7_step_125 (fun t370 H lc M371 X372 => ?_)
            have I373 := Inv_mu I300 M371 (R_any v367)
            have F374 : Fr [(1, 3), (1, 4), (1, 5), (1, 7), (1, 8)] [] τ t370 := Fr_mu F301 M371 (by decide)
            refine r_aload_n S dX7_step_128 rfl (lv_at hl 2 rfl) ?_
            refine r_aload_n S dX7_step_129 rfl (lv_at hl 2 rfl) ?_
            refine r_geti (K := 1) S X372 (Nat.le_of_ble_eq_true rfl) rfl lk7_28_7 (fun _ => ⟨_, rfl, rfl⟩) ((M371.2 _ _ (Or.inr (by decide))).trans z308) dX7_step_130 ?_
            refine r_put (K := 1) (ty := .int) S X372 (Nat.le_of_ble_eq_true rfl) rfl lk7_22_7 (fun _ => ⟨_, rfl, Nat.le_of_ble_eq_true rfl, rfl⟩) (fun _ _ _ h => by cases h; exact ⟨rfl, rfl⟩) rfl rfl dX7_step_133 (fun t375 H lc M376 X377 => ?_)
            have I378 := Inv_mu I373 M376 (show Rg (kd 1) 4 f306 from (R_of (lo := 0) (hi := 940) r357 rfl))
            have F379 : Fr [(1, 3), (1, 4), (1, 5), (1, 7), (1, 8)] [] τ t375 := Fr_mu F374 M376 (by decide)
            have L21006 : ∀ (n : Nat) (t20993 : Tau) (H : Heap) (lc : List Loc) (ls : Array Slot) (i20989 : Int32) (i20991 : Int32) (f21000 : Int32) (f21003 : Int32), Xd G s H lc t20993 → Inv t20993 → Fr [(1, 3), (1, 4), (1, 5), (1, 7), (1, 8)] [] τ t20993 → R (-2147483648) (2147483647) i20989 → R (-2147483648) (2147483647) i20991 → t20993 1 1 = v1 → t20993 1 2 = v4 → t20993 1 3 = f306 → t20993 1 7 = f21000 → R (-2147483648) (2147483647) f21000 → t20993 1 4 = f21003 → R (0) (940) f21003 → lv_has ls 5 [(0, .ref (G.2.2.2.1 1)), (2, .int i20989), (3, .int i20991)] → (940 - f21003.toInt).toNat < n → W p l e (Rm 0 0) s m ([.ref (G.2.2.2.1 1)] : List Value).toArray below meth c H lc 0 0 (MQ below (va_Qv (po_X7_step τ  ) (Bs G) G.2.2.2.2) ([.ref (G.2.2.2.1 1)] : List Value).toArray s 0 0 G.2.2.2.2) (F0 m 136 ls []) := by
              intro n
              induction n with
              | zero => intros; omega
              | succ n ih21007 =>
                intro t20993 H lc ls i20989 i20991 f21000 f21003 X20996 I20994 F20995 r20990 r20992 z20997 z20998 z20999 z21002 r21001 z21005 r21004 hl hm
                refine r_aload_n S dX7_step_136 rfl (lv_at hl 0 rfl) ?_
                refine r_geti (K := 1) S X20996 (Nat.le_of_ble_eq_true rfl) rfl lk7_22_7 (fun _ => ⟨_, rfl, rfl⟩) z21005 dX7_step_137 ?_
                refine r_aload_n S dX7_step_140 rfl (lv_at hl 0 rfl) ?_
                refine r_geti (K := 1) S X20996 (Nat.le_of_ble_eq_true rfl) rfl lk7_15_7 (fun _ => ⟨_, rfl, rfl⟩) z20997 dX7_step_141 ?_
                have J21235 : ∀ (H : Heap) (lc : List Loc) (ls : Array Slot), Xd G s H lc t20993 → lv_has ls 5 [(0, .ref (G.2.2.2.1 1)), (2, .int i20989), (3, .int i20991)] → W p l e (Rm 0 0) s m ([.ref (G.2.2.2.1 1)] : List Value).toArray below meth c H lc 0 0 (MQ below (va_Qv (po_X7_step τ  ) (Bs G) G.2.2.2.2) ([.ref (G.2.2.2.1 1)] : List Value).toArray s 0 0 G.2.2.2.2) (F0 m 246 ls []) := by
                  intro H lc ls X21234 hl
                  refine r_aload_n S dX7_step_246 rfl (lv_at hl 0 rfl) ?_
                  refine r_iconst S dX7_step_247 (by decide) (fun v21236 z21237 => ?_)
                  have r21238 := R_eq z21237
                  refine r_put (K := 1) (ty := .int) S X21234 (Nat.le_of_ble_eq_true rfl) rfl lk7_31_7 (fun _ => ⟨_, rfl, Nat.le_of_ble_eq_true rfl, rfl⟩) (fun _ _ _ h => by cases h; exact ⟨rfl, rfl⟩) rfl rfl dX7_step_248 (fun t21239 H lc M21240 X21241 => ?_)
                  have I21242 := Inv_mu I20994 M21240 (show Rg (kd 1) 5 v21236 from (R_of (lo := 0) (hi := 4) r21238 rfl))
                  have F21243 : Fr [(1, 3), (1, 4), (1, 5), (1, 7), (1, 8)] [] τ t21239 := Fr_mu F20995 M21240 (by decide)
                  refine r_iload_n S dX7_step_251 rfl (lv_at hl 1 rfl) ?_
                  have J21393 : ∀ (H : Heap) (lc : List Loc) (ls : Array Slot), Xd G s H lc t21239 → lv_has ls 5 [(0, .ref (G.2.2.2.1 1)), (2, .int i20989), (3, .int i20991)] → W p l e (Rm 0 0) s m ([.ref (G.2.2.2.1 1)] : List Value).toArray below meth c H lc 0 0 (MQ below (va_Qv (po_X7_step τ  ) (Bs G) G.2.2.2.2) ([.ref (G.2.2.2.1 1)] : List Value).toArray s 0 0 G.2.2.2.2) (F0 m 360 ls []) := by
                    intro H lc ls X21392 hl
                    refine r_iload_n S dX7_step_360 rfl (lv_at hl 2 rfl) ?_
                    have J21411 : ∀ (H : Heap) (lc : List Loc) (ls : Array Slot), Xd G s H lc t21239 → lv_has ls 5 [(0, .ref (G.2.2.2.1 1)), (2, .int i20989), (3, .int i20991)] → W p l e (Rm 0 0) s m ([.ref (G.2.2.2.1 1)] : List Value).toArray below meth c H lc 0 0 (MQ below (va_Qv (po_X7_step τ  ) (Bs G) G.2.2.2.2) ([.ref (G.2.2.2.1 1)] : List Value).toArray s 0 0 G.2.2.2.2) (F0 m 378 ls []) := by
                      intro H lc ls X21410 hl
                      refine r_iload_n S dX7_step_378 rfl (lv_at hl 1 rfl) ?_
                      refine r_if_ne (tgt := 392) S dX7_step_379 (by decide) (fun c21412 => ?_) (fun c21412 => ?_)
                      ·
                        exact r_vret S hr hlk X21410 ⟨I21242, F21243⟩ dX7_step_392
                      ·
                        have r21413 : R (0) (0) i20989 := ⟨by omega, by omega⟩
                        refine r_iload_n S dX7_step_382 rfl (lv_at hl 2 rfl) ?_
                        refine r_iconst S dX7_step_383 (by decide) (fun v21414 z21415 => ?_)
                        have r21416 := R_eq z21415
                        refine r_icmp_gt (tgt := 392) S dX7_step_384 (by decide) (fun c21417 => ?_) (fun c21417 => ?_)
                        ·
                          have r21418 : R (3) (2147483647) i20991 := ⟨by omega, by omega⟩
                          exact r_vret S hr hlk X21410 ⟨I21242, F21243⟩ dX7_step_392
                        ·
                          have r21419 : R (-2147483648) (2) i20991 := ⟨by omega, by omega⟩
                          refine r_aload_n S dX7_step_387 rfl (lv_at hl 0 rfl) ?_
                          refine r_iconst S dX7_step_388 (by decide) (fun v21420 z21421 => ?_)
                          have r21422 := R_eq z21421
                          refine r_put (K := 1) (ty := .int) S X21410 (Nat.le_of_ble_eq_true rfl) rfl lk7_31_7 (fun _ => ⟨_, rfl, Nat.le_of_ble_eq_true rfl, rfl⟩) (fun _ _ _ h => by cases h; exact ⟨rfl, rfl⟩) rfl rfl dX7_step_389 (fun t21423 H lc M21424 X21425 => ?_)
                          have I21426 := Inv_mu I21242 M21424 (show Rg (kd 1) 5 v21420 from (R_of (lo := 0) (hi := 4) r21422 rfl))
                          have F21427 : Fr [(1, 3), (1, 4), (1, 5), (1, 7), (1, 8)] [] τ t21423 := Fr_mu F21243 M21424 (by decide)
                          exact r_vret S hr hlk X21425 ⟨I21426, F21427⟩ dX7_step_392
                    refine r_if_ne (tgt := 378) S dX7_step_361 (by decide) (fun c21428 => ?_) (fun c21428 => ?_)
                    ·
                      exact J21411 _ _ _ X21392 (lv_sub hl [0, 1, 2] rfl)
                    ·
                      have r21429 : R (0) (0) i20991 := ⟨by omega, by omega⟩
                      refine r_iload_n S dX7_step_364 rfl (lv_at hl 1 rfl) ?_
                      refine r_bipush S dX7_step_365 (by decide) (fun v21430 z21431 => ?_)
                      have r21432 := R_eq z21431
                      refine r_icmp_gt (tgt := 378) S dX7_step_367 (by decide) (fun c21433 => ?_) (fun c21433 => ?_)
                      ·
                        have r21434 : R (8) (2147483647) i20989 := ⟨by omega, by omega⟩
                        exact J21411 _ _ _ X21392 (lv_sub hl [0, 1, 2] rfl)
                      ·
                        have r21435 : R (-2147483648) (7) i20989 := ⟨by omega, by omega⟩
                        refine r_aload_n S dX7_step_370 rfl (lv_at hl 0 rfl) ?_
                        refine r_iconst S dX7_step_371 (by decide) (fun v21436 z21437 => ?_)
                        have r21438 := R_eq z21437
                        refine r_put (K := 1) (ty := .int) S X21392 (Nat.le_of_ble_eq_true rfl) rfl lk7_31_7 (fun _ => ⟨_, rfl, Nat.le_of_ble_eq_true rfl, rfl⟩) (fun _ _ _ h => by cases h; exact ⟨rfl, rfl⟩) rfl rfl dX7_step_372 (fun t21439 H lc M21440 X21441 => ?_)
                        have I21442 := Inv_mu I21242 M21440 (show Rg (kd 1) 5 v21436 from (R_of (lo := 0) (hi := 4) r21438 rfl))
                        have F21443 : Fr [(1, 3), (1, 4), (1, 5), (1, 7), (1, 8)] [] τ t21439 := Fr_mu F21243 M21440 (by decide)
                        refine r_goto (tgt := 392) S dX7_step_375 (by decide) ?_
                        exact r_vret S hr hlk X21441 ⟨I21442, F21443⟩ dX7_step_392
                  refine r_if_ne (tgt := 360) S dX7_step_252 (by decide) (fun c21444 => ?_) (fun c21444 => ?_)
                  ·
                    exact J21393 _ _ _ X21241 (lv_sub hl [0, 1, 2] rfl)
                  ·
                    have r21445 : R (0) (0) i20989 := ⟨by omega, by omega⟩
                    refine r_iload_n S dX7_step_255 rfl (lv_at hl 2 rfl) ?_
                    refine r_if_ne (tgt := 360) S dX7_step_256 (by decide) (fun c21446 => ?_) (fun c21446 => ?_)
                    ·
                      exact J21393 _ _ _ X21241 (lv_sub hl [0, 1, 2] rfl)
                    ·
                      have r21447 : R (0) (0) i20991 := ⟨by omega, by omega⟩
                      refine r_aload_n S dX7_step_259 rfl (lv_at hl 0 rfl) ?_
                      refine r_aload_n S dX7_step_260 rfl (lv_at hl 0 rfl) ?_
                      refine r_get (K := 1) (v := .ref (G.2.2.2.1 2)) S X21241 (Nat.le_of_ble_eq_true rfl) rfl lk7_9_7 (fun _ => ⟨_, rfl, rfl⟩) dX7_step_261 ?_
                      refine r_aload_n S dX7_step_264 rfl (lv_at hl 0 rfl) ?_
                      refine r_geti (K := 1) S X21241 (Nat.le_of_ble_eq_true rfl) rfl lk7_28_7 (fun _ => ⟨_, rfl, rfl⟩) ((M21240.2 _ _ (Or.inr (by decide))).trans z20999) dX7_step_265 ?_
                      refine r_aldn (n := 940) (K := 2) S X21241 (Nat.le_of_ble_eq_true rfl) rfl (fun _ => rfl) (ix_of r357 rfl) dX7_step_268 (fun v21448 z21449 => ?_)
                      have r21450 : R (0) (255) v21448 := rd I21242 rfl z21449
                      refine r_put (K := 1) (ty := .int) S X21241 (Nat.le_of_ble_eq_true rfl) rfl lk7_43_7 (fun _ => ⟨_, rfl, Nat.le_of_ble_eq_true rfl, rfl⟩) (fun _ _ _ h => by cases h; exact ⟨rfl, rfl⟩) rfl rfl dX7_step_269 (fun t21451 H lc M21452 X21453 => ?_)
                      have I21454 := Inv_mu I21242 M21452 (R_any v21448)
                      have F21455 : Fr [(1, 3), (1, 4), (1, 5), (1, 7), (1, 8)] [] τ t21451 := Fr_mu F21243 M21452 (by decide)
                      refine r_aload_n S dX7_step_272 rfl (lv_at hl 0 rfl) ?_
                      refine r_aload_n S dX7_step_273 rfl (lv_at hl 0 rfl) ?_
                      refine r_geti (K := 1) S X21453 (Nat.le_of_ble_eq_true rfl) rfl lk7_28_7 (fun _ => ⟨_, rfl, rfl⟩) ((M21452.2 _ _ (Or.inr (by decide))).trans ((M21240.2 _ _ (Or.inr (by decide))).trans z20999)) dX7_step_274 ?_
                      refine r_iconst S dX7_step_277 (by decide) (fun v21456 z21457 => ?_)
                      have r21458 := R_eq z21457
                      refine r_iadd S dX7_step_278 (fun v21459 z21460 => ?_)
                      obtain ⟨e21461, r21462⟩ := i_add (lo := 1) (hi := 900) z21460 r357 r21458 rfl
                      refine r_put (K := 1) (ty := .int) S X21453 (Nat.le_of_ble_eq_true rfl) rfl lk7_22_7 (fun _ => ⟨_, rfl, Nat.le_of_ble_eq_true rfl, rfl⟩) (fun _ _ _ h => by cases h; exact ⟨rfl, rfl⟩) rfl rfl dX7_step_279 (fun t21463 H lc M21464 X21465 => ?_)
                      have I21466 := Inv_mu I21454 M21464 (show Rg (kd 1) 4 v21459 from (R_of (lo := 0) (hi := 940) r21462 rfl))
                      have F21467 : Fr [(1, 3), (1, 4), (1, 5), (1, 7), (1, 8)] [] τ t21463 := Fr_mu F21455 M21464 (by decide)
                      refine r_aload_n S dX7_step_282 rfl (lv_at hl 0 rfl) ?_
                      refine r_geti (K := 1) S X21465 (Nat.le_of_ble_eq_true rfl) rfl lk7_43_7 (fun _ => ⟨_, rfl, rfl⟩) ((M21464.2 _ _ (Or.inr (by decide))).trans M21452.1) dX7_step_283 ?_
                      refine r_bipush S dX7_step_286 (by decide) (fun v21468 z21469 => ?_)
                      have r21470 := R_eq z21469
                      have J21498 : ∀ (H : Heap) (lc : List Loc) (ls : Array Slot) (i21496 : Int32), Xd G s H lc t21463 → R (0) (1) i21496 → lv_has ls 5 [(0, .ref (G.2.2.2.1 1))] → W p l e (Rm 0 0) s m ([.ref (G.2.2.2.1 1)] : List Value).toArray below meth c H lc 0 0 (MQ below (va_Qv (po_X7_step τ  ) (Bs G) G.2.2.2.2) ([.ref (G.2.2.2.1 1)] : List Value).toArray s 0 0 G.2.2.2.2) (F0 m 314 ls [.int i21496]) := by
                        intro H lc ls i21496 X21495 r21497 hl
                        refine r_istore (lv' := [(4, .int i21496), (0, .ref (G.2.2.2.1 1))]) S dX7_step_314 hl (by decide) rfl (fun ls hl => ?_)
                        refine r_aload_n S dX7_step_316 rfl (lv_at hl 1 rfl) ?_
                        refine r_iload S dX7_step_317 (lv_at hl 0 rfl) ?_
                        refine r_if_ne (tgt := 349) S dX7_step_319 (by decide) (fun c21499 => ?_) (fun c21499 => ?_)
                        ·
                          have r21500 : R (1) (1) i21496 := ⟨by omega, by omega⟩
                          refine r_iconst S dX7_step_349 (by decide) (fun v21501 z21502 => ?_)
                          have r21503 := R_eq z21502
                          refine r_goto (tgt := 354) S dX7_step_350 (by decide) ?_
                          refine r_put (K := 1) (ty := .int) S X21495 (Nat.le_of_ble_eq_true rfl) rfl lk7_31_7 (fun _ => ⟨_, rfl, Nat.le_of_ble_eq_true rfl, rfl⟩) (fun _ _ _ h => by cases h; exact ⟨rfl, rfl⟩) rfl rfl dX7_step_354 (fun t21504 H lc M21505 X21506 => ?_)
                          have I21507 := Inv_mu I21466 M21505 (show Rg (kd 1) 5 v21501 from (R_of (lo := 0) (hi := 4) r21503 rfl))
                          have F21508 : Fr [(1, 3), (1, 4), (1, 5), (1, 7), (1, 8)] [] τ t21504 := Fr_mu F21467 M21505 (by decide)
                          refine r_goto (tgt := 392) S dX7_step_357 (by decide) ?_
                          exact r_vret S hr hlk X21506 ⟨I21507, F21508⟩ dX7_step_392
                        ·
                          have r21509 : R (0) (0) i21496 := ⟨by omega, by omega⟩
                          refine r_aload_n S dX7_step_322 rfl (lv_at hl 1 rfl) ?_
                          refine r_geti (K := 1) S X21495 (Nat.le_of_ble_eq_true rfl) rfl lk7_43_7 (fun _ => ⟨_, rfl, rfl⟩) ((M21464.2 _ _ (Or.inr (by decide))).trans M21452.1) dX7_step_323 ?_
                          refine r_bipush S dX7_step_326 (by decide) (fun v21510 z21511 => ?_)
                          have r21512 := R_eq z21511
                          refine r_icmp_eq (tgt := 349) S dX7_step_328 (by decide) (fun c21513 => ?_) (fun c21513 => ?_)
                          ·
                            have r21514 : R (59) (59) v21448 := ⟨by omega, by omega⟩
                            refine r_iconst S dX7_step_349 (by decide) (fun v21515 z21516 => ?_)
                            have r21517 := R_eq z21516
                            refine r_goto (tgt := 354) S dX7_step_350 (by decide) ?_
                            refine r_put (K := 1) (ty := .int) S X21495 (Nat.le_of_ble_eq_true rfl) rfl lk7_31_7 (fun _ => ⟨_, rfl, Nat.le_of_ble_eq_true rfl, rfl⟩) (fun _ _ _ h => by cases h; exact ⟨rfl, rfl⟩) rfl rfl dX7_step_354 (fun t21518 H lc M21519 X21520 => ?_)
                            have I21521 := Inv_mu I21466 M21519 (show Rg (kd 1) 5 v21515 from (R_of (lo := 0) (hi := 4) r21517 rfl))
                            have F21522 : Fr [(1, 3), (1, 4), (1, 5), (1, 7), (1, 8)] [] τ t21518 := Fr_mu F21467 M21519 (by decide)
                            refine r_goto (tgt := 392) S dX7_step_357 (by decide) ?_
                            exact r_vret S hr hlk X21520 ⟨I21521, F21522⟩ dX7_step_392
                          ·
                            refine r_aload_n S dX7_step_331 rfl (lv_at hl 1 rfl) ?_
                            refine r_geti (K := 1) S X21495 (Nat.le_of_ble_eq_true rfl) rfl lk7_43_7 (fun _ => ⟨_, rfl, rfl⟩) ((M21464.2 _ _ (Or.inr (by decide))).trans M21452.1) dX7_step_332 ?_
                            refine r_bipush S dX7_step_335 (by decide) (fun v21523 z21524 => ?_)
                            have r21525 := R_eq z21524
                            refine r_icmp_eq (tgt := 349) S dX7_step_337 (by decide) (fun c21526 => ?_) (fun c21526 => ?_)
                            ·
                              have r21527 : R (40) (40) v21448 := ⟨by omega, by omega⟩
                              refine r_iconst S dX7_step_349 (by decide) (fun v21528 z21529 => ?_)
                              have r21530 := R_eq z21529
                              refine r_goto (tgt := 354) S dX7_step_350 (by decide) ?_
                              refine r_put (K := 1) (ty := .int) S X21495 (Nat.le_of_ble_eq_true rfl) rfl lk7_31_7 (fun _ => ⟨_, rfl, Nat.le_of_ble_eq_true rfl, rfl⟩) (fun _ _ _ h => by cases h; exact ⟨rfl, rfl⟩) rfl rfl dX7_step_354 (fun t21531 H lc M21532 X21533 => ?_)
                              have I21534 := Inv_mu I21466 M21532 (show Rg (kd 1) 5 v21528 from (R_of (lo := 0) (hi := 4) r21530 rfl))
                              have F21535 : Fr [(1, 3), (1, 4), (1, 5), (1, 7), (1, 8)] [] τ t21531 := Fr_mu F21467 M21532 (by decide)
                              refine r_goto (tgt := 392) S dX7_step_357 (by decide) ?_
                              exact r_vret S hr hlk X21533 ⟨I21534, F21535⟩ dX7_step_392
                            ·
                              refine r_aload_n S dX7_step_340 rfl (lv_at hl 1 rfl) ?_
                              refine r_geti (K := 1) S X21495 (Nat.le_of_ble_eq_true rfl) rfl lk7_43_7 (fun _ => ⟨_, rfl, rfl⟩) ((M21464.2 _ _ (Or.inr (by decide))).trans M21452.1) dX7_step_341 ?_
                              refine r_bipush S dX7_step_344 (by decide) (fun v21536 z21537 => ?_)
                              have r21538 := R_eq z21537
                              refine r_icmp_ne (tgt := 353) S dX7_step_346 (by decide) (fun c21539 => ?_) (fun c21539 => ?_)
                              ·
                                refine r_iconst S dX7_step_353 (by decide) (fun v21540 z21541 => ?_)
                                have r21542 := R_eq z21541
                                refine r_put (K := 1) (ty := .int) S X21495 (Nat.le_of_ble_eq_true rfl) rfl lk7_31_7 (fun _ => ⟨_, rfl, Nat.le_of_ble_eq_true rfl, rfl⟩) (fun _ _ _ h => by cases h; exact ⟨rfl, rfl⟩) rfl rfl dX7_step_354 (fun t21543 H lc M21544 X21545 => ?_)
                                have I21546 := Inv_mu I21466 M21544 (show Rg (kd 1) 5 v21540 from (R_of (lo := 0) (hi := 4) r21542 rfl))
                                have F21547 : Fr [(1, 3), (1, 4), (1, 5), (1, 7), (1, 8)] [] τ t21543 := Fr_mu F21467 M21544 (by decide)
                                refine r_goto (tgt := 392) S dX7_step_357 (by decide) ?_
                                exact r_vret S hr hlk X21545 ⟨I21546, F21547⟩ dX7_step_392
                              ·
                                have r21548 : R (41) (41) v21448 := ⟨by omega, by omega⟩
                                refine r_iconst S dX7_step_349 (by decide) (fun v21549 z21550 => ?_)
                                have r21551 := R_eq z21550
                                refine r_goto (tgt := 354) S dX7_step_350 (by decide) ?_
                                refine r_put (K := 1) (ty := .int) S X21495 (Nat.le_of_ble_eq_true rfl) rfl lk7_31_7 (fun _ => ⟨_, rfl, Nat.le_of_ble_eq_true rfl, rfl⟩) (fun _ _ _ h => by cases h; exact ⟨rfl, rfl⟩) rfl rfl dX7_step_354 (fun t21552 H lc M21553 X21554 => ?_)
                                have I21555 := Inv_mu I21466 M21553 (show Rg (kd 1) 5 v21549 from (R_of (lo := 0) (hi := 4) r21551 rfl))
                                have F21556 : Fr [(1, 3), (1, 4), (1, 5), (1, 7), (1, 8)] [] τ t21552 := Fr_mu F21467 M21553 (by decide)
                                refine r_goto (tgt := 392) S dX7_step_357 (by decide) ?_
                                exact r_vret S hr hlk X21554 ⟨I21555, F21556⟩ dX7_step_392
                      have J21573 : ∀ (H : Heap) (lc : List Loc) (ls : Array Slot), Xd G s H lc t21463 → lv_has ls 5 [(0, .ref (G.2.2.2.1 1))] → W p l e (Rm 0 0) s m ([.ref (G.2.2.2.1 1)] : List Value).toArray below meth c H lc 0 0 (MQ below (va_Qv (po_X7_step τ  ) (Bs G) G.2.2.2.2) ([.ref (G.2.2.2.1 1)] : List Value).toArray s 0 0 G.2.2.2.2) (F0 m 309 ls []) := by
                        intro H lc ls X21572 hl
                        refine r_iconst S dX7_step_309 (by decide) (fun v21574 z21575 => ?_)
                        have r21576 := R_eq z21575
                        refine r_goto (tgt := 314) S dX7_step_310 (by decide) ?_
                        exact J21498 _ _ _ v21574 X21572 (R_of r21576 rfl) (lv_sub hl [0] rfl)
                      refine r_icmp_eq (tgt := 309) S dX7_step_288 (by decide) (fun c21577 => ?_) (fun c21577 => ?_)
                      ·
                        have r21578 : R (60) (60) v21448 := ⟨by omega, by omega⟩
                        exact J21573 _ _ _ X21465 (lv_sub hl [0] rfl)
                      ·
                        refine r_aload_n S dX7_step_291 rfl (lv_at hl 0 rfl) ?_
                        refine r_geti (K := 1) S X21465 (Nat.le_of_ble_eq_true rfl) rfl lk7_43_7 (fun _ => ⟨_, rfl, rfl⟩) ((M21464.2 _ _ (Or.inr (by decide))).trans M21452.1) dX7_step_292 ?_
                        refine r_bipush S dX7_step_295 (by decide) (fun v21579 z21580 => ?_)
                        have r21581 := R_eq z21580
                        refine r_icmp_eq (tgt := 309) S dX7_step_297 (by decide) (fun c21582 => ?_) (fun c21582 => ?_)
                        ·
                          have r21583 : R (61) (61) v21448 := ⟨by omega, by omega⟩
                          exact J21573 _ _ _ X21465 (lv_sub hl [0] rfl)
                        ·
                          refine r_aload_n S dX7_step_300 rfl (lv_at hl 0 rfl) ?_
                          refine r_geti (K := 1) S X21465 (Nat.le_of_ble_eq_true rfl) rfl lk7_43_7 (fun _ => ⟨_, rfl, rfl⟩) ((M21464.2 _ _ (Or.inr (by decide))).trans M21452.1) dX7_step_301 ?_
                          refine r_bipush S dX7_step_304 (by decide) (fun v21584 z21585 => ?_)
                          have r21586 := R_eq z21585
                          refine r_icmp_ne (tgt := 313) S dX7_step_306 (by decide) (fun c21587 => ?_) (fun c21587 => ?_)
                          ·
                            refine r_iconst S dX7_step_313 (by decide) (fun v21588 z21589 => ?_)
                            have r21590 := R_eq z21589
                            exact J21498 _ _ _ v21588 X21465 (R_of r21590 rfl) (lv_sub hl [0] rfl)
                          ·
                            have r21591 : R (62) (62) v21448 := ⟨by omega, by omega⟩
                            exact J21573 _ _ _ X21465 (lv_sub hl [0] rfl)
                refine r_icmp_ge (tgt := 246) S dX7_step_144 (by decide) (fun c21592 => ?_) (fun c21592 => ?_)
                ·
                  exact J21235 _ _ _ X20996 (lv_sub hl [0, 1, 2] rfl)
                ·
                  have r21593 : R (0) (939) f21003 := ⟨by omega, by omega⟩
                  have r21594 : R (1) (940) v1 := ⟨by omega, by omega⟩
                  refine r_aload_n S dX7_step_147 rfl (lv_at hl 0 rfl) ?_
                  refine r_get (K := 1) (v := .ref (G.2.2.2.1 2)) S X20996 (Nat.le_of_ble_eq_true rfl) rfl lk7_9_7 (fun _ => ⟨_, rfl, rfl⟩) dX7_step_148 ?_
                  refine r_aload_n S dX7_step_151 rfl (lv_at hl 0 rfl) ?_
                  refine r_geti (K := 1) S X20996 (Nat.le_of_ble_eq_true rfl) rfl lk7_22_7 (fun _ => ⟨_, rfl, rfl⟩) z21005 dX7_step_152 ?_
                  refine r_aldn (n := 940) (K := 2) S X20996 (Nat.le_of_ble_eq_true rfl) rfl (fun _ => rfl) (ix_of r21593 rfl) dX7_step_155 (fun v21595 z21596 => ?_)
                  have r21597 : R (0) (255) v21595 := rd I20994 rfl z21596
                  refine r_istore (lv' := [(4, .int v21595), (0, .ref (G.2.2.2.1 1)), (2, .int i20989), (3, .int i20991)]) S dX7_step_156 hl (by decide) rfl (fun ls hl => ?_)
                  refine r_iload S dX7_step_158 (lv_at hl 0 rfl) ?_
                  refine r_bipush S dX7_step_160 (by decide) (fun v21598 z21599 => ?_)
                  have r21600 := R_eq z21599
                  have J21696 : ∀ (t21681 : Tau) (H : Heap) (lc : List Loc) (ls : Array Slot) (i21685 : Int32) (i21687 : Int32) (i21693 : Int32), Xd G s H lc t21681 → Inv t21681 → Fr [(1, 3), (1, 4), (1, 5), (1, 7), (1, 8)] [] τ t21681 → R (-2147483648) (2147483647) i21685 → R (-2147483648) (2147483647) i21687 → t21681 1 1 = v1 → t21681 1 2 = v4 → t21681 1 3 = f306 → t21681 1 4 = f21003 → R (-2147483648) (2147483647) i21693 → t21681 1 7 = i21693 → lv_has ls 5 [(0, .ref (G.2.2.2.1 1)), (2, .int i21685), (3, .int i21687)] → W p l e (Rm 0 0) s m ([.ref (G.2.2.2.1 1)] : List Value).toArray below meth c H lc 0 0 (MQ below (va_Qv (po_X7_step τ  ) (Bs G) G.2.2.2.2) ([.ref (G.2.2.2.1 1)] : List Value).toArray s 0 0 G.2.2.2.2) (F0 m 233 ls []) := by
                    intro t21681 H lc ls i21685 i21687 i21693 X21684 I21682 F21683 r21686 r21688 z21689 z21690 z21691 z21692 r21694 z21695 hl
                    refine r_aload_n S dX7_step_233 rfl (lv_at hl 0 rfl) ?_
                    refine r_dup S dX7_step_234 rfl ?_
                    refine r_geti (K := 1) S X21684 (Nat.le_of_ble_eq_true rfl) rfl lk7_22_7 (fun _ => ⟨_, rfl, rfl⟩) z21692 dX7_step_235 ?_
                    refine r_iconst S dX7_step_238 (by decide) (fun v21697 z21698 => ?_)
                    have r21699 := R_eq z21698
                    refine r_iadd S dX7_step_239 (fun v21700 z21701 => ?_)
                    obtain ⟨e21702, r21703⟩ := i_add (lo := 1) (hi := 940) z21701 r21593 r21699 rfl
                    refine r_put (K := 1) (ty := .int) S X21684 (Nat.le_of_ble_eq_true rfl) rfl lk7_22_7 (fun _ => ⟨_, rfl, Nat.le_of_ble_eq_true rfl, rfl⟩) (fun _ _ _ h => by cases h; exact ⟨rfl, rfl⟩) rfl rfl dX7_step_240 (fun t21704 H lc M21705 X21706 => ?_)
                    have I21707 := Inv_mu I21682 M21705 (show Rg (kd 1) 4 v21700 from (R_of (lo := 0) (hi := 940) r21703 rfl))
                    have F21708 : Fr [(1, 3), (1, 4), (1, 5), (1, 7), (1, 8)] [] τ t21704 := Fr_mu F21683 M21705 (by decide)
                    refine r_goto (tgt := 136) S dX7_step_243 (by decide) ?_
                    exact ih21007 t21704 _ _ _ i21685 i21687 i21693 v21700 X21706 I21707 F21708 r21686 r21688 ((M21705.2 _ _ (Or.inr (by decide))).trans z21689) ((M21705.2 _ _ (Or.inr (by decide))).trans z21690) ((M21705.2 _ _ (Or.inr (by decide))).trans z21691) ((M21705.2 _ _ (Or.inr (by decide))).trans z21695) ⟨by omega, by omega⟩ M21705.1 ⟨by omega, by omega⟩ (lv_sub hl [0, 1, 2] rfl) (by omega)
                  have J21745 : ∀ (H : Heap) (lc : List Loc) (ls : Array Slot), Xd G s H lc t20993 → R (0) (255) v21595 → lv_has ls 5 [(0, .ref (G.2.2.2.1 1)), (2, .int i20989), (3, .int i20991), (4, .int v21595)] → W p l e (Rm 0 0) s m ([.ref (G.2.2.2.1 1)] : List Value).toArray below meth c H lc 0 0 (MQ below (va_Qv (po_X7_step τ  ) (Bs G) G.2.2.2.2) ([.ref (G.2.2.2.1 1)] : List Value).toArray s 0 0 G.2.2.2.2) (F0 m 199 ls []) := by
                    intro H lc ls X21743 r21744 hl
                    refine r_iload S dX7_step_199 (lv_at hl 3 rfl) ?_
                    refine r_bipush S dX7_step_201 (by decide) (fun v21746 z21747 => ?_)
                    have r21748 := R_eq z21747
                    refine r_icmp_lt (tgt := 246) S dX7_step_203 (by decide) (fun c21749 => ?_) (fun c21749 => ?_)
                    ·
                      have r21750 : R (0) (47) v21595 := ⟨by omega, by omega⟩
                      exact J21235 _ _ _ X21743 (lv_sub hl [0, 1, 2] rfl)
                    ·
                      have r21751 : R (48) (255) v21595 := ⟨by omega, by omega⟩
                      refine r_iload S dX7_step_206 (lv_at hl 3 rfl) ?_
                      refine r_bipush S dX7_step_208 (by decide) (fun v21752 z21753 => ?_)
                      have r21754 := R_eq z21753
                      refine r_icmp_gt (tgt := 246) S dX7_step_210 (by decide) (fun c21755 => ?_) (fun c21755 => ?_)
                      ·
                        have r21756 : R (58) (255) v21595 := ⟨by omega, by omega⟩
                        exact J21235 _ _ _ X21743 (lv_sub hl [0, 1, 2] rfl)
                      ·
                        have r21757 : R (48) (57) v21595 := ⟨by omega, by omega⟩
                        refine r_iinc (k := 2) S dX7_step_213 hl rfl (by decide) (by decide) (fun v21758 d21759 ls z21760 z21761 hl => ?_)
                        have r21762 := R_any v21758
                        have hl : lv_has ls 5 [(3, .int v21758), (0, .ref (G.2.2.2.1 1)), (2, .int i20989), (4, .int v21595)] := hl
                        refine r_aload_n S dX7_step_216 rfl (lv_at hl 1 rfl) ?_
                        refine r_aload_n S dX7_step_217 rfl (lv_at hl 1 rfl) ?_
                        refine r_geti (K := 1) S X21743 (Nat.le_of_ble_eq_true rfl) rfl lk7_38_7 (fun _ => ⟨_, rfl, rfl⟩) z21002 dX7_step_218 ?_
                        refine r_bipush S dX7_step_221 (by decide) (fun v21763 z21764 => ?_)
                        have r21765 := R_eq z21764
                        refine r_imul S dX7_step_223 (fun v21766 z21767 => ?_)
                        have r21768 := R_any v21766
                        refine r_iload S dX7_step_224 (lv_at hl 3 rfl) ?_
                        refine r_bipush S dX7_step_226 (by decide) (fun v21769 z21770 => ?_)
                        have r21771 := R_eq z21770
                        refine r_isub S dX7_step_228 (fun v21772 z21773 => ?_)
                        obtain ⟨e21774, r21775⟩ := i_sub (lo := 0) (hi := 9) z21773 r21757 r21771 rfl
                        refine r_iadd S dX7_step_229 (fun v21776 z21777 => ?_)
                        have r21778 := R_any v21776
                        refine r_put (K := 1) (ty := .int) S X21743 (Nat.le_of_ble_eq_true rfl) rfl lk7_38_7 (fun _ => ⟨_, rfl, Nat.le_of_ble_eq_true rfl, rfl⟩) (fun _ _ _ h => by cases h; exact ⟨rfl, rfl⟩) rfl rfl dX7_step_230 (fun t21779 H lc M21780 X21781 => ?_)
                        have I21782 := Inv_mu I20994 M21780 (R_any v21776)
                        have F21783 : Fr [(1, 3), (1, 4), (1, 5), (1, 7), (1, 8)] [] τ t21779 := Fr_mu F20995 M21780 (by decide)
                        exact J21696 t21779 _ _ _ i20989 v21758 v21776 X21781 I21782 F21783 r20990 r21762 ((M21780.2 _ _ (Or.inr (by decide))).trans z20997) ((M21780.2 _ _ (Or.inr (by decide))).trans z20998) ((M21780.2 _ _ (Or.inr (by decide))).trans z20999) ((M21780.2 _ _ (Or.inr (by decide))).trans z21005) r21778 M21780.1 (lv_sub hl [1, 2, 0] rfl)
                  refine r_icmp_lt (tgt := 199) S dX7_step_162 (by decide) (fun c21784 => ?_) (fun c21784 => ?_)
                  ·
                    have r21785 : R (0) (96) v21595 := ⟨by omega, by omega⟩
                    exact J21745 _ _ _ X20996 (R_of r21785 rfl) (lv_sub hl [1, 2, 3, 0] rfl)
                  ·
                    have r21786 : R (97) (255) v21595 := ⟨by omega, by omega⟩
                    refine r_iload S dX7_step_165 (lv_at hl 0 rfl) ?_
                    refine r_bipush S dX7_step_167 (by decide) (fun v21787 z21788 => ?_)
                    have r21789 := R_eq z21788
                    refine r_icmp_gt (tgt := 199) S dX7_step_169 (by decide) (fun c21790 => ?_) (fun c21790 => ?_)
                    ·
                      have r21791 : R (123) (255) v21595 := ⟨by omega, by omega⟩
                      exact J21745 _ _ _ X20996 (R_of r21791 rfl) (lv_sub hl [1, 2, 3, 0] rfl)
                    ·
                      have r21792 : R (97) (122) v21595 := ⟨by omega, by omega⟩
                      refine r_iinc (k := 2) S dX7_step_172 hl rfl (by decide) (by decide) (fun v21793 d21794 ls z21795 z21796 hl => ?_)
                      have r21797 := R_any v21793
                      have hl : lv_has ls 5 [(2, .int v21793), (4, .int v21595), (0, .ref (G.2.2.2.1 1)), (3, .int i20991)] := hl
                      refine r_aload_n S dX7_step_175 rfl (lv_at hl 2 rfl) ?_
                      refine r_aload_n S dX7_step_176 rfl (lv_at hl 2 rfl) ?_
                      refine r_getJ (K := 1) S X20996 (Nat.le_of_ble_eq_true rfl) rfl lk7_34_7 (fun _ => ⟨_, rfl, rfl⟩) dX7_step_177 (fun j21798 => ?_)
                      refine lv_ldc2 S.1.1 S.1.2.1 S.1.2.2.2.1 (S.1.2.2.2.2 _ kw6) dX7_step_180 ?_
                      refine lv_topl (fun j21799 _ => ?_)
                      refine lv_lmul S.1.1 S.1.2.1 dX7_step_183 ?_
                      refine lv_topl (fun j21800 _ => ?_)
                      refine r_iload S dX7_step_184 (lv_at hl 1 rfl) ?_
                      refine r_bipush S dX7_step_186 (by decide) (fun v21801 z21802 => ?_)
                      have r21803 := R_eq z21802
                      refine r_isub S dX7_step_188 (fun v21804 z21805 => ?_)
                      obtain ⟨e21806, r21807⟩ := i_sub (lo := 0) (hi := 25) z21805 r21792 r21803 rfl
                      refine r_iconst S dX7_step_189 (by decide) (fun v21808 z21809 => ?_)
                      have r21810 := R_eq z21809
                      refine r_iadd S dX7_step_190 (fun v21811 z21812 => ?_)
                      obtain ⟨e21813, r21814⟩ := i_add (lo := 1) (hi := 26) z21812 r21807 r21810 rfl
                      refine lv_i2l S.1.1 S.1.2.1 dX7_step_191 rfl ?_
                      refine lv_topl (fun j21815 _ => ?_)
                      refine lv_ladd S.1.1 S.1.2.1 dX7_step_192 ?_
                      refine lv_topl (fun j21816 _ => ?_)
                      refine r_putJ (K := 1) S X20996 (Nat.le_of_ble_eq_true rfl) rfl lk7_34_7 (fun _ => ⟨_, rfl, Nat.le_of_ble_eq_true rfl, rfl⟩) (fun _ _ _ h => by cases h; exact ⟨rfl, rfl⟩) dX7_step_193 (fun H lc X21817 => ?_)
                      refine r_goto (tgt := 233) S dX7_step_196 (by decide) ?_
                      exact J21696 t20993 _ _ _ v21793 i20991 f21000 X21817 I20994 F20995 r21797 r20992 z20997 z20998 z20999 z21005 r21001 z21002 (lv_sub hl [2, 0, 3] rfl)
            exact L21006 _ t375 _ _ _ v359 v362 v367 f306 X377 I378 F379 (R_of r361 rfl) (R_of r364 rfl) ((M376.2 _ _ (Or.inr (by decide))).trans ((M371.2 _ _ (Or.inr (by decide))).trans z303)) ((M376.2 _ _ (Or.inr (by decide))).trans ((M371.2 _ _ (Or.inr (by decide))).trans z304)) ((M376.2 _ _ (Or.inr (by decide))).trans ((M371.2 _ _ (Or.inr (by decide))).trans z308)) ((M376.2 _ _ (Or.inr (by decide))).trans M371.1) ⟨by omega, by omega⟩ M376.1 ⟨by omega, by omega⟩ (lv_sub hl [2, 1, 0] rfl) (Nat.lt_succ_self _)
          ·
            refine r_aload_n S dX7_step_88 rfl (lv_at hl 0 rfl) ?_
            refine r_iload_n S dX7_step_89 rfl (lv_at hl 1 rfl) ?_
            refine r_put (K := 1) (ty := .int) S X354 (Nat.le_of_ble_eq_true rfl) rfl lk7_28_7 (fun _ => ⟨_, rfl, Nat.le_of_ble_eq_true rfl, rfl⟩) (fun _ _ _ h => by cases h; exact ⟨rfl, rfl⟩) rfl rfl dX7_step_90 (fun t21818 H lc M21819 X21820 => ?_)
            have I21821 := Inv_mu I300 M21819 (show Rg (kd 1) 3 i11 from (R_of (lo := 0) (hi := 940) r12 rfl))
            have F21822 : Fr [(1, 3), (1, 4), (1, 5), (1, 7), (1, 8)] [] τ t21818 := Fr_mu F301 M21819 (by decide)
            refine r_aload_n S dX7_step_93 rfl (lv_at hl 0 rfl) ?_
            refine r_aload_n S dX7_step_94 rfl (lv_at hl 0 rfl) ?_
            refine r_geti (K := 1) S X21820 (Nat.le_of_ble_eq_true rfl) rfl lk7_15_7 (fun _ => ⟨_, rfl, rfl⟩) ((M21819.2 _ _ (Or.inr (by decide))).trans z303) dX7_step_95 ?_
            refine r_aload_n S dX7_step_98 rfl (lv_at hl 0 rfl) ?_
            refine r_geti (K := 1) S X21820 (Nat.le_of_ble_eq_true rfl) rfl lk7_19_7 (fun _ => ⟨_, rfl, rfl⟩) ((M21819.2 _ _ (Or.inr (by decide))).trans z304) dX7_step_99 ?_
            refine r_icmp_le (tgt := 109) S dX7_step_102 (by decide) (fun c21823 => ?_) (fun c21823 => ?_)
            ·
              have r21824 : R (0) (900) v1 := ⟨by omega, by omega⟩
              refine r_iconst S dX7_step_109 (by decide) (fun v21825 z21826 => ?_)
              have r21827 := R_eq z21826
              refine r_put (K := 1) (ty := .int) S X21820 (Nat.le_of_ble_eq_true rfl) rfl lk7_31_7 (fun _ => ⟨_, rfl, Nat.le_of_ble_eq_true rfl, rfl⟩) (fun _ _ _ h => by cases h; exact ⟨rfl, rfl⟩) rfl rfl dX7_step_110 (fun t21828 H lc M21829 X21830 => ?_)
              have I21831 := Inv_mu I21821 M21829 (show Rg (kd 1) 5 v21825 from (R_of (lo := 0) (hi := 4) r21827 rfl))
              have F21832 : Fr [(1, 3), (1, 4), (1, 5), (1, 7), (1, 8)] [] τ t21828 := Fr_mu F21822 M21829 (by decide)
              exact r_vret S hr hlk X21830 ⟨I21831, F21832⟩ dX7_step_113
            ·
              have r21833 : R (1) (940) v1 := ⟨by omega, by omega⟩
              refine r_iconst S dX7_step_105 (by decide) (fun v21834 z21835 => ?_)
              have r21836 := R_eq z21835
              refine r_goto (tgt := 110) S dX7_step_106 (by decide) ?_
              refine r_put (K := 1) (ty := .int) S X21820 (Nat.le_of_ble_eq_true rfl) rfl lk7_31_7 (fun _ => ⟨_, rfl, Nat.le_of_ble_eq_true rfl, rfl⟩) (fun _ _ _ h => by cases h; exact ⟨rfl, rfl⟩) rfl rfl dX7_step_110 (fun t21837 H lc M21838 X21839 => ?_)
              have I21840 := Inv_mu I21821 M21838 (show Rg (kd 1) 5 v21834 from (R_of (lo := 0) (hi := 4) r21836 rfl))
              have F21841 : Fr [(1, 3), (1, 4), (1, 5), (1, 7), (1, 8)] [] τ t21837 := Fr_mu F21822 M21838 (by decide)
              exact r_vret S hr hlk X21839 ⟨I21840, F21841⟩ dX7_step_113
        refine r_icmp_ge (tgt := 80) S dX7_step_36 (by decide) (fun c21842 => ?_) (fun c21842 => ?_)
        ·
          exact J355 _ _ _ X302 (lv_sub hl [0, 1] rfl)
        ·
          have r21843 : R (0) (899) f306 := ⟨by omega, by omega⟩
          have r21844 : R (1) (900) i11 := ⟨by omega, by omega⟩
          refine r_aload_n S dX7_step_39 rfl (lv_at hl 0 rfl) ?_
          refine r_get (K := 1) (v := .ref (G.2.2.2.1 2)) S X302 (Nat.le_of_ble_eq_true rfl) rfl lk7_9_7 (fun _ => ⟨_, rfl, rfl⟩) dX7_step_40 ?_
          refine r_aload_n S dX7_step_43 rfl (lv_at hl 0 rfl) ?_
          refine r_geti (K := 1) S X302 (Nat.le_of_ble_eq_true rfl) rfl lk7_28_7 (fun _ => ⟨_, rfl, rfl⟩) z308 dX7_step_44 ?_
          refine r_aldn (n := 940) (K := 2) S X302 (Nat.le_of_ble_eq_true rfl) rfl (fun _ => rfl) (ix_of r21843 rfl) dX7_step_47 (fun v21845 z21846 => ?_)
          have r21847 : R (0) (255) v21845 := rd I300 rfl z21846
          refine r_bipush S dX7_step_48 (by decide) (fun v21848 z21849 => ?_)
          have r21850 := R_eq z21849
          have J21862 : ∀ (H : Heap) (lc : List Loc) (ls : Array Slot), Xd G s H lc t299 → lv_has ls 5 [(0, .ref (G.2.2.2.1 1)), (1, .int i11)] → W p l e (Rm 0 0) s m ([.ref (G.2.2.2.1 1)] : List Value).toArray below meth c H lc 0 0 (MQ below (va_Qv (po_X7_step τ  ) (Bs G) G.2.2.2.2) ([.ref (G.2.2.2.1 1)] : List Value).toArray s 0 0 G.2.2.2.2) (F0 m 67 ls []) := by
            intro H lc ls X21861 hl
            refine r_aload_n S dX7_step_67 rfl (lv_at hl 0 rfl) ?_
            refine r_dup S dX7_step_68 rfl ?_
            refine r_geti (K := 1) S X21861 (Nat.le_of_ble_eq_true rfl) rfl lk7_28_7 (fun _ => ⟨_, rfl, rfl⟩) z308 dX7_step_69 ?_
            refine r_iconst S dX7_step_72 (by decide) (fun v21863 z21864 => ?_)
            have r21865 := R_eq z21864
            refine r_iadd S dX7_step_73 (fun v21866 z21867 => ?_)
            obtain ⟨e21868, r21869⟩ := i_add (lo := 1) (hi := 900) z21867 r21843 r21865 rfl
            refine r_put (K := 1) (ty := .int) S X21861 (Nat.le_of_ble_eq_true rfl) rfl lk7_28_7 (fun _ => ⟨_, rfl, Nat.le_of_ble_eq_true rfl, rfl⟩) (fun _ _ _ h => by cases h; exact ⟨rfl, rfl⟩) rfl rfl dX7_step_74 (fun t21870 H lc M21871 X21872 => ?_)
            have I21873 := Inv_mu I300 M21871 (show Rg (kd 1) 3 v21866 from (R_of (lo := 0) (hi := 940) r21869 rfl))
            have F21874 : Fr [(1, 3), (1, 4), (1, 5), (1, 7), (1, 8)] [] τ t21870 := Fr_mu F301 M21871 (by decide)
            refine r_goto (tgt := 31) S dX7_step_77 (by decide) ?_
            exact ih310 t21870 _ _ _ v21866 X21872 I21873 F21874 ((M21871.2 _ _ (Or.inr (by decide))).trans z303) ((M21871.2 _ _ (Or.inr (by decide))).trans z304) ((M21871.2 _ _ (Or.inr (by decide))).trans z305) M21871.1 ⟨by omega, by omega⟩ (lv_sub hl [0, 1] rfl) (by omega)
          refine r_icmp_eq (tgt := 67) S dX7_step_50 (by decide) (fun c21875 => ?_) (fun c21875 => ?_)
          ·
            have r21876 : R (32) (32) v21845 := ⟨by omega, by omega⟩
            exact J21862 _ _ _ X302 (lv_sub hl [0, 1] rfl)
          ·
            refine r_aload_n S dX7_step_53 rfl (lv_at hl 0 rfl) ?_
            refine r_get (K := 1) (v := .ref (G.2.2.2.1 2)) S X302 (Nat.le_of_ble_eq_true rfl) rfl lk7_9_7 (fun _ => ⟨_, rfl, rfl⟩) dX7_step_54 ?_
            refine r_aload_n S dX7_step_57 rfl (lv_at hl 0 rfl) ?_
            refine r_geti (K := 1) S X302 (Nat.le_of_ble_eq_true rfl) rfl lk7_28_7 (fun _ => ⟨_, rfl, rfl⟩) z308 dX7_step_58 ?_
            refine r_aldn (n := 940) (K := 2) S X302 (Nat.le_of_ble_eq_true rfl) rfl (fun _ => rfl) (ix_of r21843 rfl) dX7_step_61 (fun v21877 z21878 => ?_)
            have r21879 : R (0) (255) v21877 := rd I300 rfl z21878
            refine r_bipush S dX7_step_62 (by decide) (fun v21880 z21881 => ?_)
            have r21882 := R_eq z21881
            refine r_icmp_ne (tgt := 80) S dX7_step_64 (by decide) (fun c21883 => ?_) (fun c21883 => ?_)
            ·
              exact J355 _ _ _ X302 (lv_sub hl [0, 1] rfl)
            ·
              have r21884 : R (10) (10) v21877 := ⟨by omega, by omega⟩
              exact J21862 _ _ _ X302 (lv_sub hl [0, 1] rfl)
    exact L309 _ t17 _ _ _ v14 X19 I20 F21 ((M18.2 _ _ (Or.inr (by decide))).trans z2) ((M18.2 _ _ (Or.inr (by decide))).trans z5) ((M18.2 _ _ (Or.inr (by decide))).trans z15) M18.1 ⟨by omega, by omega⟩ (lv_sub hl [1, 0] rfl) (Nat.lt_succ_self _)
  refine r_icmp_ge (tgt := 18) S dX7_step_8 (by decide) (fun c21885 => ?_) (fun c21885 => ?_)
  ·
    refine r_aload_n S dX7_step_18 rfl (lv_at hl 0 rfl) ?_
    refine r_geti (K := 1) S X (Nat.le_of_ble_eq_true rfl) rfl lk7_19_7 (fun _ => ⟨_, rfl, rfl⟩) z5 dX7_step_19 ?_
    exact J13 _ _ _ v4 X r6 (lv_sub hl [0] rfl)
  ·
    have r21886 : R (0) (899) v1 := ⟨by omega, by omega⟩
    have r21887 : R (1) (900) v4 := ⟨by omega, by omega⟩
    refine r_aload_n S dX7_step_11 rfl (lv_at hl 0 rfl) ?_
    refine r_geti (K := 1) S X (Nat.le_of_ble_eq_true rfl) rfl lk7_15_7 (fun _ => ⟨_, rfl, rfl⟩) z2 dX7_step_12 ?_
    refine r_goto (tgt := 22) S dX7_step_15 (by decide) ?_
    exact J13 _ _ _ v1 X (R_of r21886 rfl) (lv_sub hl [0] rfl)
def po_X7_open (τ : Tau)  (a0 : Int32) (u : Tau) : Prop := Inv u ∧ Fr [(1, 2), (1, 3), (1, 4), (1, 5), (1, 7), (1, 8)] [] τ u
set_option maxHeartbeats 4000000 in
set_option maxRecDepth 100000 in
theorem c_X7_open (l : Launch) (G : Gx) (τ : Tau) (hI : Inv τ) (a0 : Int32) (h_a0 : R (0) (900) a0) : Cv l G yX7_open cX7_open 2 1 24 [.ref (G.2.2.2.1 1), .int a0] τ (po_X7_open τ  a0) := by
  unfold Cv
  refine C_of (own := RX7) (by decide) rfl (Nat.le_of_ble_eq_true rfl) ?_
  intro p e s m below meth c ls S hr hlk X hl
  have hl : lv_has ls 2 [(0, .ref (G.2.2.2.1 1)), (1, .int a0)] := hl
  refine r_aload_n S dX7_open_0 rfl (lv_at hl 0 rfl) ?_
  refine r_iload_n S dX7_open_1 rfl (lv_at hl 1 rfl) ?_
  refine r_put (K := 1) (ty := .int) S X (Nat.le_of_ble_eq_true rfl) rfl lk7_19_7 (fun _ => ⟨_, rfl, Nat.le_of_ble_eq_true rfl, rfl⟩) (fun _ _ _ h => by cases h; exact ⟨rfl, rfl⟩) rfl rfl dX7_open_2 (fun t1 H lc M2 X3 => ?_)
  have I4 := Inv_mu hI M2 (show Rg (kd 1) 2 a0 from (R_of (lo := 0) (hi := 900) h_a0 rfl))
  have F5 : Fr [(1, 2), (1, 3), (1, 4), (1, 5), (1, 7), (1, 8)] [] τ t1 := Fr_mu Fr_rfl M2 (by decide)
  refine r_aload_n S dX7_open_5 rfl (lv_at hl 0 rfl) ?_
  refine r_iconst S dX7_open_6 (by decide) (fun v6 z7 => ?_)
  have r8 := R_eq z7
  refine r_put (K := 1) (ty := .int) S X3 (Nat.le_of_ble_eq_true rfl) rfl lk7_22_7 (fun _ => ⟨_, rfl, Nat.le_of_ble_eq_true rfl, rfl⟩) (fun _ _ _ h => by cases h; exact ⟨rfl, rfl⟩) rfl rfl dX7_open_7 (fun t9 H lc M10 X11 => ?_)
  have I12 := Inv_mu I4 M10 (show Rg (kd 1) 4 v6 from (R_of (lo := 0) (hi := 940) r8 rfl))
  have F13 : Fr [(1, 2), (1, 3), (1, 4), (1, 5), (1, 7), (1, 8)] [] τ t9 := Fr_mu F5 M10 (by decide)
  refine r_aload_n S dX7_open_10 rfl (lv_at hl 0 rfl) ?_
  refine r_kv (q_V (As := []) (rest := []) (K := 1) (ci := 7) S X11 (c_X7_step l G t9 I12 ) ck7_25 (Nat.le_of_ble_eq_true rfl) rfl (fun _ => ⟨_, rfl⟩) ⟨_, _, rfl⟩ ⟨Nat.le_of_ble_eq_true rfl, Nat.le_of_ble_eq_true rfl⟩ rfl hl.1 rfl (Nat.le_of_ble_eq_true rfl) dX7_open_11 ⟨Nat.le_refl 0, Nat.le_refl 0⟩) X11 (fun t16 H lc q14 X15 => ?_)
  unfold po_X7_step at q14
  obtain ⟨q17, q18⟩ := q14
  have F19 : Fr [(1, 2), (1, 3), (1, 4), (1, 5), (1, 7), (1, 8)] [] τ t16 := Fr_call F13 q18 (by decide)
  exact r_vret S hr hlk X15 ⟨q17, F19⟩ dX7_open_14
def po_X7_is (τ : Tau)   (r : Int32) (u : Tau) : Prop := u = τ ∧ R (0) (1) r
set_option maxHeartbeats 4000000 in
set_option maxRecDepth 100000 in
theorem c_X7_is (l : Launch) (G : Gx) (τ : Tau) (hI : Inv τ) (a0 : Nat) (h_a0 : a0 < 24) : Ci l G yX7_is cX7_is 2 (some .boolean) 0 0 [.ref (G.2.2.2.1 1), .ref (G.2.2.1 a0)] τ (po_X7_is τ  ) := by
  unfold Ci
  refine C_of (own := RX7) (by decide) rfl (Nat.le_of_ble_eq_true rfl) ?_
  intro p e s m below meth c ls S hr hlk X hl
  have hl : lv_has ls 2 [(0, .ref (G.2.2.2.1 1)), (1, .ref (G.2.2.1 a0))] := hl
  refine r_aload_n S dX7_is_0 rfl (lv_at hl 0 rfl) ?_
  refine r_getn (K := 1) S X (Nat.le_of_ble_eq_true rfl) rfl lk7_31_7 (fun _ => ⟨_, rfl, rfl⟩) dX7_is_1 (fun v1 z2 => ?_)
  have r3 : R (0) (4) v1 := rd hI rfl z2
  refine r_iconst S dX7_is_4 (by decide) (fun v4 z5 => ?_)
  have r6 := R_eq z5
  refine r_icmp_ne (tgt := 24) S dX7_is_5 (by decide) (fun c7 => ?_) (fun c7 => ?_)
  ·
    refine r_iconst S dX7_is_24 (by decide) (fun v8 z9 => ?_)
    have r10 := R_eq z9
    exact r_ret S hr hlk X ⟨rfl, (R_of r10 rfl)⟩ (nr_bool (R_of (lo := 0) (hi := 1) r10 rfl)) dX7_is_25
  ·
    have r11 : R (2) (2) v1 := ⟨by omega, by omega⟩
    refine r_aload_n S dX7_is_8 rfl (lv_at hl 0 rfl) ?_
    refine r_getJ (K := 1) S X (Nat.le_of_ble_eq_true rfl) rfl lk7_34_7 (fun _ => ⟨_, rfl, rfl⟩) dX7_is_9 (fun j12 => ?_)
    refine r_aload_n S dX7_is_12 rfl (lv_at hl 1 rfl) ?_
    refine r_wsp S X h_a0 kw7 dX7_is_13 (fun j13 => ?_)
    refine r_lcmp S dX7_is_16 (fun v14 r15 => ?_)
    refine r_if_ne (tgt := 24) S dX7_is_17 (by decide) (fun c16 => ?_) (fun c16 => ?_)
    ·
      refine r_iconst S dX7_is_24 (by decide) (fun v17 z18 => ?_)
      have r19 := R_eq z18
      exact r_ret S hr hlk X ⟨rfl, (R_of r19 rfl)⟩ (nr_bool (R_of (lo := 0) (hi := 1) r19 rfl)) dX7_is_25
    ·
      have r20 : R (0) (0) v14 := ⟨by omega, by omega⟩
      refine r_iconst S dX7_is_20 (by decide) (fun v21 z22 => ?_)
      have r23 := R_eq z22
      refine r_goto (tgt := 25) S dX7_is_21 (by decide) ?_
      exact r_ret S hr hlk X ⟨rfl, (R_of r23 rfl)⟩ (nr_bool (R_of (lo := 0) (hi := 1) r23 rfl)) dX7_is_25
def po_X7_isSigned (τ : Tau)  (a0 : Int32) (r : Int32) (u : Tau) : Prop := u = τ ∧ R (0) (1) r
set_option maxHeartbeats 4000000 in
set_option maxRecDepth 100000 in
theorem c_X7_isSigned (l : Launch) (G : Gx) (τ : Tau) (hI : Inv τ) (a0 : Int32) (h_a0 : R (0) (65535) a0) : Ci l G yX7_isSigned cX7_isSigned 2 (some .boolean) 0 0 [.ref (G.2.2.2.1 1), .int a0] τ (po_X7_isSigned τ  a0) := by
  unfold Ci
  refine C_of (own := RX7) (by decide) rfl (Nat.le_of_ble_eq_true rfl) ?_
  intro p e s m below meth c ls S hr hlk X hl
  have hl : lv_has ls 2 [(0, .ref (G.2.2.2.1 1)), (1, .int a0)] := hl
  refine r_aload_n S dX7_isSigned_0 rfl (lv_at hl 0 rfl) ?_
  refine r_getn (K := 1) S X (Nat.le_of_ble_eq_true rfl) rfl lk7_31_7 (fun _ => ⟨_, rfl, rfl⟩) dX7_isSigned_1 (fun v1 z2 => ?_)
  have r3 : R (0) (4) v1 := rd hI rfl z2
  refine r_iconst S dX7_isSigned_4 (by decide) (fun v4 z5 => ?_)
  have r6 := R_eq z5
  refine r_icmp_ne (tgt := 20) S dX7_isSigned_5 (by decide) (fun c7 => ?_) (fun c7 => ?_)
  ·
    have r8 : R (0) (3) v1 := ⟨by omega, by omega⟩
    refine r_iconst S dX7_isSigned_20 (by decide) (fun v9 z10 => ?_)
    have r11 := R_eq z10
    exact r_ret S hr hlk X ⟨rfl, (R_of r11 rfl)⟩ (nr_bool (R_of (lo := 0) (hi := 1) r11 rfl)) dX7_isSigned_21
  ·
    have r12 : R (4) (4) v1 := ⟨by omega, by omega⟩
    refine r_aload_n S dX7_isSigned_8 rfl (lv_at hl 0 rfl) ?_
    refine r_getn (K := 1) S X (Nat.le_of_ble_eq_true rfl) rfl lk7_43_7 (fun _ => ⟨_, rfl, rfl⟩) dX7_isSigned_9 (fun v13 z14 => ?_)
    have r16 := R_any v13
    refine r_iload_n S dX7_isSigned_12 rfl (lv_at hl 1 rfl) ?_
    refine r_icmp_ne (tgt := 20) S dX7_isSigned_13 (by decide) (fun c17 => ?_) (fun c17 => ?_)
    ·
      refine r_iconst S dX7_isSigned_20 (by decide) (fun v18 z19 => ?_)
      have r20 := R_eq z19
      exact r_ret S hr hlk X ⟨rfl, (R_of r20 rfl)⟩ (nr_bool (R_of (lo := 0) (hi := 1) r20 rfl)) dX7_isSigned_21
    ·
      have r21 : R (0) (65535) v13 := ⟨by omega, by omega⟩
      refine r_iconst S dX7_isSigned_16 (by decide) (fun v22 z23 => ?_)
      have r24 := R_eq z23
      refine r_goto (tgt := 21) S dX7_isSigned_17 (by decide) ?_
      exact r_ret S hr hlk X ⟨rfl, (R_of r24 rfl)⟩ (nr_bool (R_of (lo := 0) (hi := 1) r24 rfl)) dX7_isSigned_21
