def po_X11_bit (τ : Tau)  (a0 a1 : Int32)   (r : Int32) (u : Tau) : Prop := u = τ ∧ R (0) (1) r
set_option maxHeartbeats 4000000 in
set_option maxRecDepth 100000 in
theorem c_X11_bit (l : Launch) (G : Gx) (τ : Tau) (hI : Inv τ) (a0 : Int32) (a1 : Int32) (h_a0 : R (-2147483648) (2147483647) a0) (h_a1 : R (-2147483648) (2147483647) a1) : Ci l G yX11_bit cX11_bit 2 (some .int) 0 0 [.int a0, .int a1] τ (po_X11_bit τ  a0 a1  ) := by
  unfold Ci
  refine C_of (own := RX11) (by decide) rfl (Nat.le_of_ble_eq_true rfl) ?_
  intro p e s m below meth c ls S hr hlk X hl
  have hl : lv_has ls 2 [(0, .int a0), (1, .int a1)] := hl
  refine r_iload_n S dX11_bit_0 rfl (lv_at hl 0 rfl) ?_
  refine r_iload_n S dX11_bit_1 rfl (lv_at hl 1 rfl) ?_
  refine r_ishr S dX11_bit_2 (fun v1 z2 => ?_)
  have r3 := R_any v1
  refine r_iconst S dX11_bit_3 (by decide) (fun v4 z5 => ?_)
  have r6 := R_eq z5
  refine r_iand S dX11_bit_4 (fun v7 z8 => ?_)
  have r10 : R (0) (1) v7 := i_and2 z8 r3 r6 rfl
  exact r_ret S hr hlk X ⟨rfl, r10⟩ rfl dX11_bit_5
def po_J6_bitCount_0f7a4 (τ : Tau)  (a0 : Int32)   (r : Int32) (u : Tau) : Prop := u = τ ∧ R (0) (63) r
set_option maxHeartbeats 4000000 in
set_option maxRecDepth 100000 in
theorem c_J6_bitCount_0f7a4 (l : Launch) (G : Gx) (τ : Tau) (hI : Inv τ) (a0 : Int32) (h_a0 : R (-2147483648) (2147483647) a0) : Ci l G yJ6_bitCount_0f7a4 cJ6_bitCount_0f7a4 1 (some .int) 0 0 [.int a0] τ (po_J6_bitCount_0f7a4 τ  a0  ) := by
  unfold Ci
  refine C_of (own := RJ6) (by decide) rfl (Nat.le_of_ble_eq_true rfl) ?_
  intro p e s m below meth c ls S hr hlk X hl
  have hl : lv_has ls 1 [(0, .int a0)] := hl
  refine r_iload_n S dJ6_bitCount_0f7a4_0 rfl (lv_at hl 0 rfl) ?_
  refine r_iload_n S dJ6_bitCount_0f7a4_1 rfl (lv_at hl 0 rfl) ?_
  refine r_iconst S dJ6_bitCount_0f7a4_2 (by decide) (fun v1 z2 => ?_)
  have r3 := R_eq z2
  refine r_iushr S dJ6_bitCount_0f7a4_3 (fun v4 z5 => ?_)
  have r7 : R (0) (2147483647) v4 := i_ushrc z5 h_a0 r3 rfl
  refine lv_ldcw S.1.1 S.1.2.1 S.1.2.2.2.1 (S.1.2.2.2.2 _ kw0) dJ6_bitCount_0f7a4_4 ?_
  refine lv_topi (fun v8 z9 => ?_)
  have r10 : R (1431655765) (1431655765) v8 := by rw [z9]; decide
  have e11 : v8.toInt = 1431655765 := by omega
  refine r_iand S dJ6_bitCount_0f7a4_7 (fun v12 z13 => ?_)
  have r15 : R (0) (1431655765) v12 := i_and2 z13 r7 r10 rfl
  have e16 := i_andle z13 r7 rfl
  refine r_isub S dJ6_bitCount_0f7a4_8 (fun v17 z18 => ?_)
  have r19 := R_any v17
  refine r_istore_n (lv' := [(0, .int v17)]) S dJ6_bitCount_0f7a4_9 rfl hl (by decide) rfl (fun ls hl => ?_)
  refine r_iload_n S dJ6_bitCount_0f7a4_10 rfl (lv_at hl 0 rfl) ?_
  refine lv_ldcw S.1.1 S.1.2.1 S.1.2.2.2.1 (S.1.2.2.2.2 _ kw1) dJ6_bitCount_0f7a4_11 ?_
  refine lv_topi (fun v20 z21 => ?_)
  have r22 : R (858993459) (858993459) v20 := by rw [z21]; decide
  have e23 : v20.toInt = 858993459 := by omega
  refine r_iand S dJ6_bitCount_0f7a4_14 (fun v24 z25 => ?_)
  have r27 : R (0) (858993459) v24 := i_and2 z25 r19 r22 rfl
  refine r_iload_n S dJ6_bitCount_0f7a4_15 rfl (lv_at hl 0 rfl) ?_
  refine r_iconst S dJ6_bitCount_0f7a4_16 (by decide) (fun v28 z29 => ?_)
  have r30 := R_eq z29
  refine r_iushr S dJ6_bitCount_0f7a4_17 (fun v31 z32 => ?_)
  have r34 : R (0) (1073741823) v31 := i_ushrc z32 r19 r30 rfl
  refine lv_ldcw S.1.1 S.1.2.1 S.1.2.2.2.1 (S.1.2.2.2.2 _ kw1) dJ6_bitCount_0f7a4_18 ?_
  refine lv_topi (fun v35 z36 => ?_)
  have r37 : R (858993459) (858993459) v35 := by rw [z36]; decide
  have e38 : v35.toInt = 858993459 := by omega
  refine r_iand S dJ6_bitCount_0f7a4_21 (fun v39 z40 => ?_)
  have r42 : R (0) (858993459) v39 := i_and2 z40 r34 r37 rfl
  have e43 := i_andle z40 r34 rfl
  refine r_iadd S dJ6_bitCount_0f7a4_22 (fun v44 z45 => ?_)
  obtain ⟨e46, r47⟩ := i_add (lo := 0) (hi := 1717986918) z45 r27 r42 rfl
  refine r_istore_n (lv' := [(0, .int v44)]) S dJ6_bitCount_0f7a4_23 rfl hl (by decide) rfl (fun ls hl => ?_)
  refine r_iload_n S dJ6_bitCount_0f7a4_24 rfl (lv_at hl 0 rfl) ?_
  refine r_iload_n S dJ6_bitCount_0f7a4_25 rfl (lv_at hl 0 rfl) ?_
  refine r_iconst S dJ6_bitCount_0f7a4_26 (by decide) (fun v48 z49 => ?_)
  have r50 := R_eq z49
  refine r_iushr S dJ6_bitCount_0f7a4_27 (fun v51 z52 => ?_)
  have r54 : R (0) (1717986918) v51 := i_ushr z52 r47 r50 rfl
  refine r_iadd S dJ6_bitCount_0f7a4_28 (fun v55 z56 => ?_)
  have r57 := R_any v55
  refine lv_ldcw S.1.1 S.1.2.1 S.1.2.2.2.1 (S.1.2.2.2.2 _ kw2) dJ6_bitCount_0f7a4_29 ?_
  refine lv_topi (fun v58 z59 => ?_)
  have r60 : R (252645135) (252645135) v58 := by rw [z59]; decide
  have e61 : v58.toInt = 252645135 := by omega
  refine r_iand S dJ6_bitCount_0f7a4_32 (fun v62 z63 => ?_)
  have r65 : R (0) (252645135) v62 := i_and2 z63 r57 r60 rfl
  refine r_istore_n (lv' := [(0, .int v62)]) S dJ6_bitCount_0f7a4_33 rfl hl (by decide) rfl (fun ls hl => ?_)
  refine r_iload_n S dJ6_bitCount_0f7a4_34 rfl (lv_at hl 0 rfl) ?_
  refine r_iload_n S dJ6_bitCount_0f7a4_35 rfl (lv_at hl 0 rfl) ?_
  refine r_bipush S dJ6_bitCount_0f7a4_36 (by decide) (fun v66 z67 => ?_)
  have r68 := R_eq z67
  refine r_iushr S dJ6_bitCount_0f7a4_38 (fun v69 z70 => ?_)
  have r72 : R (0) (252645135) v69 := i_ushr z70 r65 r68 rfl
  refine r_iadd S dJ6_bitCount_0f7a4_39 (fun v73 z74 => ?_)
  obtain ⟨e75, r76⟩ := i_add (lo := 0) (hi := 505290270) z74 r65 r72 rfl
  refine r_istore_n (lv' := [(0, .int v73)]) S dJ6_bitCount_0f7a4_40 rfl hl (by decide) rfl (fun ls hl => ?_)
  refine r_iload_n S dJ6_bitCount_0f7a4_41 rfl (lv_at hl 0 rfl) ?_
  refine r_iload_n S dJ6_bitCount_0f7a4_42 rfl (lv_at hl 0 rfl) ?_
  refine r_bipush S dJ6_bitCount_0f7a4_43 (by decide) (fun v77 z78 => ?_)
  have r79 := R_eq z78
  refine r_iushr S dJ6_bitCount_0f7a4_45 (fun v80 z81 => ?_)
  have r83 : R (0) (505290270) v80 := i_ushr z81 r76 r79 rfl
  refine r_iadd S dJ6_bitCount_0f7a4_46 (fun v84 z85 => ?_)
  obtain ⟨e86, r87⟩ := i_add (lo := 0) (hi := 1010580540) z85 r76 r83 rfl
  refine r_istore_n (lv' := [(0, .int v84)]) S dJ6_bitCount_0f7a4_47 rfl hl (by decide) rfl (fun ls hl => ?_)
  refine r_iload_n S dJ6_bitCount_0f7a4_48 rfl (lv_at hl 0 rfl) ?_
  refine r_bipush S dJ6_bitCount_0f7a4_49 (by decide) (fun v88 z89 => ?_)
  have r90 := R_eq z89
  refine r_iand S dJ6_bitCount_0f7a4_51 (fun v91 z92 => ?_)
  have r94 : R (0) (63) v91 := i_and2 z92 r87 r90 rfl
  have e95 := i_andle z92 r87 rfl
  exact r_ret S hr hlk X ⟨rfl, r94⟩ rfl dJ6_bitCount_0f7a4_52
def po_fill_parent (τ : Tau) (k : Nat) (a1 : Int32)   (u : Tau) : Prop := Inv u ∧ Fr [] [k] τ u
set_option maxHeartbeats 4000000 in
set_option maxRecDepth 100000 in
theorem c_fill_parent (l : Launch) (G : Gx) (τ : Tau) (hI : Inv τ) (k : Nat) (hk_k : k < NC) (hkd_k : kd k = 6) (a1 : Int32) (h_a1 : R (-1) (9) a1) : Cv l G yJ7_fill_53178 cJ7_fill_53178 4 0 0 [.ref (G.2.2.2.1 k), .int a1] τ (po_fill_parent τ k a1  ) := by
  unfold Cv
  refine C_of (own := RJ7) (by decide) rfl (Nat.le_of_ble_eq_true rfl) ?_
  intro p e s m below meth c ls S hr hlk X hl
  have hl : lv_has ls 4 [(0, .ref (G.2.2.2.1 k)), (1, .int a1)] := hl
  refine r_iconst S dJ7_fill_53178_0 (by decide) (fun v1 z2 => ?_)
  have r3 := R_eq z2
  refine r_istore_n (lv' := [(2, .int v1), (0, .ref (G.2.2.2.1 k)), (1, .int a1)]) S dJ7_fill_53178_1 rfl hl (by decide) rfl (fun ls hl => ?_)
  refine r_aload_n S dJ7_fill_53178_2 rfl (lv_at hl 1 rfl) ?_
  refine r_alen (x := (0, .inl fun _ => 0)) (n := 10) (K := 6) (t0 := 0) S X hk_k hkd_k (fun _ => ⟨_, rfl⟩) rfl (by decide) dJ7_fill_53178_3 (fun v4 z5 => ?_)
  have r6 := R_eq z5
  refine r_istore_n (lv' := [(3, .int v4), (2, .int v1), (0, .ref (G.2.2.2.1 k)), (1, .int a1)]) S dJ7_fill_53178_4 rfl hl (by decide) rfl (fun ls hl => ?_)
  have L156 : ∀ (n : Nat) (t152 : Tau) (H : Heap) (lc : List Loc) (ls : Array Slot) (i150 : Int32), Xd G s H lc t152 → Inv t152 → Fr [] [k] τ t152 → R (0) (10) i150 → lv_has ls 4 [(0, .ref (G.2.2.2.1 k)), (1, .int a1), (2, .int i150), (3, .int v4)] → (10 - i150.toInt).toNat < n → W p l e (Rm 0 0) s m ([.ref (G.2.2.2.1 k), .int a1] : List Value).toArray below meth c H lc 0 0 (MQ below (va_Qv (po_fill_parent τ k a1  ) (Bs G) G.2.2.2.2) ([.ref (G.2.2.2.1 k), .int a1] : List Value).toArray s 0 0 G.2.2.2.2) (F0 m 5 ls []) := by
    intro n
    induction n with
    | zero => intros; omega
    | succ n ih157 =>
      intro t152 H lc ls i150 X155 I153 F154 r151 hl hm
      refine r_iload_n S dJ7_fill_53178_5 rfl (lv_at hl 2 rfl) ?_
      refine r_iload_n S dJ7_fill_53178_6 rfl (lv_at hl 3 rfl) ?_
      refine r_icmp_ge (tgt := 20) S dJ7_fill_53178_7 (by decide) (fun c158 => ?_) (fun c158 => ?_)
      ·
        have r159 : R (10) (10) i150 := ⟨by omega, by omega⟩
        exact r_vret S hr hlk X155 ⟨I153, F154⟩ dJ7_fill_53178_20
      ·
        have r160 : R (0) (9) i150 := ⟨by omega, by omega⟩
        refine r_aload_n S dJ7_fill_53178_10 rfl (lv_at hl 0 rfl) ?_
        refine r_iload_n S dJ7_fill_53178_11 rfl (lv_at hl 2 rfl) ?_
        refine r_iload_n S dJ7_fill_53178_12 rfl (lv_at hl 1 rfl) ?_
        refine r_ast (n := 10) (K := 6) S X155 hk_k hkd_k (fun _ _ => rfl) (ix_of r160 rfl) dJ7_fill_53178_13 (fun t161 H lc M162 X163 => ?_)
        have I164 := Inv_mu I153 M162 (show Rg (kd k) _ a1 from by rw [hkd_k]; exact (R_of (lo := -1) (hi := 9) h_a1 rfl))
        have F165 : Fr [] [k] τ t161 := Fr_cell F154 M162 (by simp [fz])
        refine r_iinc (k := 2) S dJ7_fill_53178_14 hl rfl (by decide) (by decide) (fun v166 d167 ls z168 z169 hl => ?_)
        obtain ⟨e170, r171⟩ := i_add (lo := 1) (hi := 10) z168 r160 (R_eq z169) rfl
        have hl : lv_has ls 4 [(2, .int v166), (0, .ref (G.2.2.2.1 k)), (1, .int a1), (3, .int v4)] := hl
        refine r_goto (tgt := 5) S dJ7_fill_53178_17 (by decide) ?_
        exact ih157 t161 _ _ _ v166 X163 I164 F165 (R_of r171 rfl) (lv_sub hl [1, 2, 0, 3] rfl) (by omega)
  exact L156 _ τ _ _ _ v1 X hI Fr_rfl (R_of r3 rfl) (lv_sub hl [2, 3, 1, 0] rfl) (Nat.lt_succ_self _)
def po_fill_kin (τ : Tau) (k : Nat) (a1 : Int32)   (u : Tau) : Prop := Inv u ∧ Fr [] [k] τ u
set_option maxHeartbeats 4000000 in
set_option maxRecDepth 100000 in
theorem c_fill_kin (l : Launch) (G : Gx) (τ : Tau) (hI : Inv τ) (k : Nat) (hk_k : k < NC) (hkd_k : kd k = 7) (a1 : Int32) (h_a1 : R (0) (1023) a1) : Cv l G yJ7_fill_53178 cJ7_fill_53178 4 0 0 [.ref (G.2.2.2.1 k), .int a1] τ (po_fill_kin τ k a1  ) := by
  unfold Cv
  refine C_of (own := RJ7) (by decide) rfl (Nat.le_of_ble_eq_true rfl) ?_
  intro p e s m below meth c ls S hr hlk X hl
  have hl : lv_has ls 4 [(0, .ref (G.2.2.2.1 k)), (1, .int a1)] := hl
  refine r_iconst S dJ7_fill_53178_0 (by decide) (fun v1 z2 => ?_)
  have r3 := R_eq z2
  refine r_istore_n (lv' := [(2, .int v1), (0, .ref (G.2.2.2.1 k)), (1, .int a1)]) S dJ7_fill_53178_1 rfl hl (by decide) rfl (fun ls hl => ?_)
  refine r_aload_n S dJ7_fill_53178_2 rfl (lv_at hl 1 rfl) ?_
  refine r_alen (x := (0, .inl fun _ => 0)) (n := 10) (K := 7) (t0 := 0) S X hk_k hkd_k (fun _ => ⟨_, rfl⟩) rfl (by decide) dJ7_fill_53178_3 (fun v4 z5 => ?_)
  have r6 := R_eq z5
  refine r_istore_n (lv' := [(3, .int v4), (2, .int v1), (0, .ref (G.2.2.2.1 k)), (1, .int a1)]) S dJ7_fill_53178_4 rfl hl (by decide) rfl (fun ls hl => ?_)
  have L156 : ∀ (n : Nat) (t152 : Tau) (H : Heap) (lc : List Loc) (ls : Array Slot) (i150 : Int32), Xd G s H lc t152 → Inv t152 → Fr [] [k] τ t152 → R (0) (10) i150 → lv_has ls 4 [(0, .ref (G.2.2.2.1 k)), (1, .int a1), (2, .int i150), (3, .int v4)] → (10 - i150.toInt).toNat < n → W p l e (Rm 0 0) s m ([.ref (G.2.2.2.1 k), .int a1] : List Value).toArray below meth c H lc 0 0 (MQ below (va_Qv (po_fill_kin τ k a1  ) (Bs G) G.2.2.2.2) ([.ref (G.2.2.2.1 k), .int a1] : List Value).toArray s 0 0 G.2.2.2.2) (F0 m 5 ls []) := by
    intro n
    induction n with
    | zero => intros; omega
    | succ n ih157 =>
      intro t152 H lc ls i150 X155 I153 F154 r151 hl hm
      refine r_iload_n S dJ7_fill_53178_5 rfl (lv_at hl 2 rfl) ?_
      refine r_iload_n S dJ7_fill_53178_6 rfl (lv_at hl 3 rfl) ?_
      refine r_icmp_ge (tgt := 20) S dJ7_fill_53178_7 (by decide) (fun c158 => ?_) (fun c158 => ?_)
      ·
        have r159 : R (10) (10) i150 := ⟨by omega, by omega⟩
        exact r_vret S hr hlk X155 ⟨I153, F154⟩ dJ7_fill_53178_20
      ·
        have r160 : R (0) (9) i150 := ⟨by omega, by omega⟩
        refine r_aload_n S dJ7_fill_53178_10 rfl (lv_at hl 0 rfl) ?_
        refine r_iload_n S dJ7_fill_53178_11 rfl (lv_at hl 2 rfl) ?_
        refine r_iload_n S dJ7_fill_53178_12 rfl (lv_at hl 1 rfl) ?_
        refine r_ast (n := 10) (K := 7) S X155 hk_k hkd_k (fun _ _ => rfl) (ix_of r160 rfl) dJ7_fill_53178_13 (fun t161 H lc M162 X163 => ?_)
        have I164 := Inv_mu I153 M162 (show Rg (kd k) _ a1 from by rw [hkd_k]; exact (R_of (lo := 0) (hi := 1023) h_a1 rfl))
        have F165 : Fr [] [k] τ t161 := Fr_cell F154 M162 (by simp [fz])
        refine r_iinc (k := 2) S dJ7_fill_53178_14 hl rfl (by decide) (by decide) (fun v166 d167 ls z168 z169 hl => ?_)
        obtain ⟨e170, r171⟩ := i_add (lo := 1) (hi := 10) z168 r160 (R_eq z169) rfl
        have hl : lv_has ls 4 [(2, .int v166), (0, .ref (G.2.2.2.1 k)), (1, .int a1), (3, .int v4)] := hl
        refine r_goto (tgt := 5) S dJ7_fill_53178_17 (by decide) ?_
        exact ih157 t161 _ _ _ v166 X163 I164 F165 (R_of r171 rfl) (lv_sub hl [1, 2, 0, 3] rfl) (by omega)
  exact L156 _ τ _ _ _ v1 X hI Fr_rfl (R_of r3 rfl) (lv_sub hl [2, 3, 1, 0] rfl) (Nat.lt_succ_self _)
def po_fill_opinion (τ : Tau) (k : Nat) (a1 : Int32)   (u : Tau) : Prop := Inv u ∧ Fr [] [k] τ u
set_option maxHeartbeats 4000000 in
set_option maxRecDepth 100000 in
theorem c_fill_opinion (l : Launch) (G : Gx) (τ : Tau) (hI : Inv τ) (k : Nat) (hk_k : k < NC) (hkd_k : kd k = 8) (a1 : Int32) (h_a1 : R (-9) (9) a1) : Cv l G yJ7_fill_53178 cJ7_fill_53178 4 0 0 [.ref (G.2.2.2.1 k), .int a1] τ (po_fill_opinion τ k a1  ) := by
  unfold Cv
  refine C_of (own := RJ7) (by decide) rfl (Nat.le_of_ble_eq_true rfl) ?_
  intro p e s m below meth c ls S hr hlk X hl
  have hl : lv_has ls 4 [(0, .ref (G.2.2.2.1 k)), (1, .int a1)] := hl
  refine r_iconst S dJ7_fill_53178_0 (by decide) (fun v1 z2 => ?_)
  have r3 := R_eq z2
  refine r_istore_n (lv' := [(2, .int v1), (0, .ref (G.2.2.2.1 k)), (1, .int a1)]) S dJ7_fill_53178_1 rfl hl (by decide) rfl (fun ls hl => ?_)
  refine r_aload_n S dJ7_fill_53178_2 rfl (lv_at hl 1 rfl) ?_
  refine r_alen (x := (0, .inl fun _ => 0)) (n := 90) (K := 8) (t0 := 0) S X hk_k hkd_k (fun _ => ⟨_, rfl⟩) rfl (by decide) dJ7_fill_53178_3 (fun v4 z5 => ?_)
  have r6 := R_eq z5
  refine r_istore_n (lv' := [(3, .int v4), (2, .int v1), (0, .ref (G.2.2.2.1 k)), (1, .int a1)]) S dJ7_fill_53178_4 rfl hl (by decide) rfl (fun ls hl => ?_)
  have L318 : ∀ (n : Nat) (t314 : Tau) (H : Heap) (lc : List Loc) (ls : Array Slot) (i312 : Int32), Xd G s H lc t314 → Inv t314 → Fr [] [k] τ t314 → R (0) (90) i312 → lv_has ls 4 [(0, .ref (G.2.2.2.1 k)), (1, .int a1), (2, .int i312), (3, .int v4)] → (90 - i312.toInt).toNat < n → W p l e (Rm 0 0) s m ([.ref (G.2.2.2.1 k), .int a1] : List Value).toArray below meth c H lc 0 0 (MQ below (va_Qv (po_fill_opinion τ k a1  ) (Bs G) G.2.2.2.2) ([.ref (G.2.2.2.1 k), .int a1] : List Value).toArray s 0 0 G.2.2.2.2) (F0 m 5 ls []) := by
    intro n
    induction n with
    | zero => intros; omega
    | succ n ih319 =>
      intro t314 H lc ls i312 X317 I315 F316 r313 hl hm
      refine r_iload_n S dJ7_fill_53178_5 rfl (lv_at hl 2 rfl) ?_
      refine r_iload_n S dJ7_fill_53178_6 rfl (lv_at hl 3 rfl) ?_
      refine r_icmp_ge (tgt := 20) S dJ7_fill_53178_7 (by decide) (fun c320 => ?_) (fun c320 => ?_)
      ·
        have r321 : R (90) (90) i312 := ⟨by omega, by omega⟩
        exact r_vret S hr hlk X317 ⟨I315, F316⟩ dJ7_fill_53178_20
      ·
        have r322 : R (0) (89) i312 := ⟨by omega, by omega⟩
        refine r_aload_n S dJ7_fill_53178_10 rfl (lv_at hl 0 rfl) ?_
        refine r_iload_n S dJ7_fill_53178_11 rfl (lv_at hl 2 rfl) ?_
        refine r_iload_n S dJ7_fill_53178_12 rfl (lv_at hl 1 rfl) ?_
        refine r_ast (n := 90) (K := 8) S X317 hk_k hkd_k (fun _ _ => rfl) (ix_of r322 rfl) dJ7_fill_53178_13 (fun t323 H lc M324 X325 => ?_)
        have I326 := Inv_mu I315 M324 (show Rg (kd k) _ a1 from by rw [hkd_k]; exact (R_of (lo := -9) (hi := 9) h_a1 rfl))
        have F327 : Fr [] [k] τ t323 := Fr_cell F316 M324 (by simp [fz])
        refine r_iinc (k := 2) S dJ7_fill_53178_14 hl rfl (by decide) (by decide) (fun v328 d329 ls z330 z331 hl => ?_)
        obtain ⟨e332, r333⟩ := i_add (lo := 1) (hi := 90) z330 r322 (R_eq z331) rfl
        have hl : lv_has ls 4 [(2, .int v328), (0, .ref (G.2.2.2.1 k)), (1, .int a1), (3, .int v4)] := hl
        refine r_goto (tgt := 5) S dJ7_fill_53178_17 (by decide) ?_
        exact ih319 t323 _ _ _ v328 X325 I326 F327 (R_of r333 rfl) (lv_sub hl [1, 2, 0, 3] rfl) (by omega)
  exact L318 _ τ _ _ _ v1 X hI Fr_rfl (R_of r3 rfl) (lv_sub hl [2, 3, 1, 0] rfl) (Nat.lt_succ_self _)
def po_fill_lies (τ : Tau) (k : Nat) (a1 : Int32)   (u : Tau) : Prop := Inv u ∧ Fr [] [k] τ u
set_option maxHeartbeats 4000000 in
set_option maxRecDepth 100000 in
theorem c_fill_lies (l : Launch) (G : Gx) (τ : Tau) (hI : Inv τ) (k : Nat) (hk_k : k < NC) (hkd_k : kd k = 26) (a1 : Int32) (h_a1 : R (0) (511) a1) : Cv l G yJ7_fill_53178 cJ7_fill_53178 4 0 0 [.ref (G.2.2.2.1 k), .int a1] τ (po_fill_lies τ k a1  ) := by
  unfold Cv
  refine C_of (own := RJ7) (by decide) rfl (Nat.le_of_ble_eq_true rfl) ?_
  intro p e s m below meth c ls S hr hlk X hl
  have hl : lv_has ls 4 [(0, .ref (G.2.2.2.1 k)), (1, .int a1)] := hl
  refine r_iconst S dJ7_fill_53178_0 (by decide) (fun v1 z2 => ?_)
  have r3 := R_eq z2
  refine r_istore_n (lv' := [(2, .int v1), (0, .ref (G.2.2.2.1 k)), (1, .int a1)]) S dJ7_fill_53178_1 rfl hl (by decide) rfl (fun ls hl => ?_)
  refine r_aload_n S dJ7_fill_53178_2 rfl (lv_at hl 1 rfl) ?_
  refine r_alen (x := (0, .inl fun _ => 0)) (n := 10) (K := 26) (t0 := 0) S X hk_k hkd_k (fun _ => ⟨_, rfl⟩) rfl (by decide) dJ7_fill_53178_3 (fun v4 z5 => ?_)
  have r6 := R_eq z5
  refine r_istore_n (lv' := [(3, .int v4), (2, .int v1), (0, .ref (G.2.2.2.1 k)), (1, .int a1)]) S dJ7_fill_53178_4 rfl hl (by decide) rfl (fun ls hl => ?_)
  have L156 : ∀ (n : Nat) (t152 : Tau) (H : Heap) (lc : List Loc) (ls : Array Slot) (i150 : Int32), Xd G s H lc t152 → Inv t152 → Fr [] [k] τ t152 → R (0) (10) i150 → lv_has ls 4 [(0, .ref (G.2.2.2.1 k)), (1, .int a1), (2, .int i150), (3, .int v4)] → (10 - i150.toInt).toNat < n → W p l e (Rm 0 0) s m ([.ref (G.2.2.2.1 k), .int a1] : List Value).toArray below meth c H lc 0 0 (MQ below (va_Qv (po_fill_lies τ k a1  ) (Bs G) G.2.2.2.2) ([.ref (G.2.2.2.1 k), .int a1] : List Value).toArray s 0 0 G.2.2.2.2) (F0 m 5 ls []) := by
    intro n
    induction n with
    | zero => intros; omega
    | succ n ih157 =>
      intro t152 H lc ls i150 X155 I153 F154 r151 hl hm
      refine r_iload_n S dJ7_fill_53178_5 rfl (lv_at hl 2 rfl) ?_
      refine r_iload_n S dJ7_fill_53178_6 rfl (lv_at hl 3 rfl) ?_
      refine r_icmp_ge (tgt := 20) S dJ7_fill_53178_7 (by decide) (fun c158 => ?_) (fun c158 => ?_)
      ·
        have r159 : R (10) (10) i150 := ⟨by omega, by omega⟩
        exact r_vret S hr hlk X155 ⟨I153, F154⟩ dJ7_fill_53178_20
      ·
        have r160 : R (0) (9) i150 := ⟨by omega, by omega⟩
        refine r_aload_n S dJ7_fill_53178_10 rfl (lv_at hl 0 rfl) ?_
        refine r_iload_n S dJ7_fill_53178_11 rfl (lv_at hl 2 rfl) ?_
        refine r_iload_n S dJ7_fill_53178_12 rfl (lv_at hl 1 rfl) ?_
        refine r_ast (n := 10) (K := 26) S X155 hk_k hkd_k (fun _ _ => rfl) (ix_of r160 rfl) dJ7_fill_53178_13 (fun t161 H lc M162 X163 => ?_)
        have I164 := Inv_mu I153 M162 (show Rg (kd k) _ a1 from by rw [hkd_k]; exact (R_of (lo := 0) (hi := 511) h_a1 rfl))
        have F165 : Fr [] [k] τ t161 := Fr_cell F154 M162 (by simp [fz])
        refine r_iinc (k := 2) S dJ7_fill_53178_14 hl rfl (by decide) (by decide) (fun v166 d167 ls z168 z169 hl => ?_)
        obtain ⟨e170, r171⟩ := i_add (lo := 1) (hi := 10) z168 r160 (R_eq z169) rfl
        have hl : lv_has ls 4 [(2, .int v166), (0, .ref (G.2.2.2.1 k)), (1, .int a1), (3, .int v4)] := hl
        refine r_goto (tgt := 5) S dJ7_fill_53178_17 (by decide) ?_
        exact ih157 t161 _ _ _ v166 X163 I164 F165 (R_of r171 rfl) (lv_sub hl [1, 2, 0, 3] rfl) (by omega)
  exact L156 _ τ _ _ _ v1 X hI Fr_rfl (R_of r3 rfl) (lv_sub hl [2, 3, 1, 0] rfl) (Nat.lt_succ_self _)
def po_fill_rides (τ : Tau) (k : Nat) (a1 : Int32)   (u : Tau) : Prop := Inv u ∧ Fr [] [k] τ u
set_option maxHeartbeats 4000000 in
set_option maxRecDepth 100000 in
theorem c_fill_rides (l : Launch) (G : Gx) (τ : Tau) (hI : Inv τ) (k : Nat) (hk_k : k < NC) (hkd_k : kd k = 27) (a1 : Int32) (h_a1 : R (-2147483648) (2147483647) a1) : Cv l G yJ7_fill_53178 cJ7_fill_53178 4 0 0 [.ref (G.2.2.2.1 k), .int a1] τ (po_fill_rides τ k a1  ) := by
  unfold Cv
  refine C_of (own := RJ7) (by decide) rfl (Nat.le_of_ble_eq_true rfl) ?_
  intro p e s m below meth c ls S hr hlk X hl
  have hl : lv_has ls 4 [(0, .ref (G.2.2.2.1 k)), (1, .int a1)] := hl
  refine r_iconst S dJ7_fill_53178_0 (by decide) (fun v1 z2 => ?_)
  have r3 := R_eq z2
  refine r_istore_n (lv' := [(2, .int v1), (0, .ref (G.2.2.2.1 k)), (1, .int a1)]) S dJ7_fill_53178_1 rfl hl (by decide) rfl (fun ls hl => ?_)
  refine r_aload_n S dJ7_fill_53178_2 rfl (lv_at hl 1 rfl) ?_
  refine r_alen (x := (0, .inl fun _ => 0)) (n := 10) (K := 27) (t0 := 0) S X hk_k hkd_k (fun _ => ⟨_, rfl⟩) rfl (by decide) dJ7_fill_53178_3 (fun v4 z5 => ?_)
  have r6 := R_eq z5
  refine r_istore_n (lv' := [(3, .int v4), (2, .int v1), (0, .ref (G.2.2.2.1 k)), (1, .int a1)]) S dJ7_fill_53178_4 rfl hl (by decide) rfl (fun ls hl => ?_)
  have L156 : ∀ (n : Nat) (t152 : Tau) (H : Heap) (lc : List Loc) (ls : Array Slot) (i150 : Int32), Xd G s H lc t152 → Inv t152 → Fr [] [k] τ t152 → R (0) (10) i150 → lv_has ls 4 [(0, .ref (G.2.2.2.1 k)), (1, .int a1), (2, .int i150), (3, .int v4)] → (10 - i150.toInt).toNat < n → W p l e (Rm 0 0) s m ([.ref (G.2.2.2.1 k), .int a1] : List Value).toArray below meth c H lc 0 0 (MQ below (va_Qv (po_fill_rides τ k a1  ) (Bs G) G.2.2.2.2) ([.ref (G.2.2.2.1 k), .int a1] : List Value).toArray s 0 0 G.2.2.2.2) (F0 m 5 ls []) := by
    intro n
    induction n with
    | zero => intros; omega
    | succ n ih157 =>
      intro t152 H lc ls i150 X155 I153 F154 r151 hl hm
      refine r_iload_n S dJ7_fill_53178_5 rfl (lv_at hl 2 rfl) ?_
      refine r_iload_n S dJ7_fill_53178_6 rfl (lv_at hl 3 rfl) ?_
      refine r_icmp_ge (tgt := 20) S dJ7_fill_53178_7 (by decide) (fun c158 => ?_) (fun c158 => ?_)
      ·
        have r159 : R (10) (10) i150 := ⟨by omega, by omega⟩
        exact r_vret S hr hlk X155 ⟨I153, F154⟩ dJ7_fill_53178_20
      ·
        have r160 : R (0) (9) i150 := ⟨by omega, by omega⟩
        refine r_aload_n S dJ7_fill_53178_10 rfl (lv_at hl 0 rfl) ?_
        refine r_iload_n S dJ7_fill_53178_11 rfl (lv_at hl 2 rfl) ?_
        refine r_iload_n S dJ7_fill_53178_12 rfl (lv_at hl 1 rfl) ?_
        refine r_ast (n := 10) (K := 27) S X155 hk_k hkd_k (fun _ _ => rfl) (ix_of r160 rfl) dJ7_fill_53178_13 (fun t161 H lc M162 X163 => ?_)
        have I164 := Inv_mu I153 M162 (show Rg (kd k) _ a1 by rw [hkd_k]; exact R_any _)
        have F165 : Fr [] [k] τ t161 := Fr_cell F154 M162 (by simp [fz])
        refine r_iinc (k := 2) S dJ7_fill_53178_14 hl rfl (by decide) (by decide) (fun v166 d167 ls z168 z169 hl => ?_)
        obtain ⟨e170, r171⟩ := i_add (lo := 1) (hi := 10) z168 r160 (R_eq z169) rfl
        have hl : lv_has ls 4 [(2, .int v166), (0, .ref (G.2.2.2.1 k)), (1, .int a1), (3, .int v4)] := hl
        refine r_goto (tgt := 5) S dJ7_fill_53178_17 (by decide) ?_
        exact ih157 t161 _ _ _ v166 X163 I164 F165 (R_of r171 rfl) (lv_sub hl [1, 2, 0, 3] rfl) (by omega)
  exact L156 _ τ _ _ _ v1 X hI Fr_rfl (R_of r3 rfl) (lv_sub hl [2, 3, 1, 0] rfl) (Nat.lt_succ_self _)
def po_fill_mates (τ : Tau) (k : Nat) (a1 : Int32)   (u : Tau) : Prop := Inv u ∧ Fr [] [k] τ u
set_option maxHeartbeats 4000000 in
set_option maxRecDepth 100000 in
theorem c_fill_mates (l : Launch) (G : Gx) (τ : Tau) (hI : Inv τ) (k : Nat) (hk_k : k < NC) (hkd_k : kd k = 36) (a1 : Int32) (h_a1 : R (-1) (9) a1) : Cv l G yJ7_fill_53178 cJ7_fill_53178 4 0 0 [.ref (G.2.2.2.1 k), .int a1] τ (po_fill_mates τ k a1  ) := by
  unfold Cv
  refine C_of (own := RJ7) (by decide) rfl (Nat.le_of_ble_eq_true rfl) ?_
  intro p e s m below meth c ls S hr hlk X hl
  have hl : lv_has ls 4 [(0, .ref (G.2.2.2.1 k)), (1, .int a1)] := hl
  refine r_iconst S dJ7_fill_53178_0 (by decide) (fun v1 z2 => ?_)
  have r3 := R_eq z2
  refine r_istore_n (lv' := [(2, .int v1), (0, .ref (G.2.2.2.1 k)), (1, .int a1)]) S dJ7_fill_53178_1 rfl hl (by decide) rfl (fun ls hl => ?_)
  refine r_aload_n S dJ7_fill_53178_2 rfl (lv_at hl 1 rfl) ?_
  refine r_alen (x := (0, .inl fun _ => 0)) (n := 10) (K := 36) (t0 := 0) S X hk_k hkd_k (fun _ => ⟨_, rfl⟩) rfl (by decide) dJ7_fill_53178_3 (fun v4 z5 => ?_)
  have r6 := R_eq z5
  refine r_istore_n (lv' := [(3, .int v4), (2, .int v1), (0, .ref (G.2.2.2.1 k)), (1, .int a1)]) S dJ7_fill_53178_4 rfl hl (by decide) rfl (fun ls hl => ?_)
  have L156 : ∀ (n : Nat) (t152 : Tau) (H : Heap) (lc : List Loc) (ls : Array Slot) (i150 : Int32), Xd G s H lc t152 → Inv t152 → Fr [] [k] τ t152 → R (0) (10) i150 → lv_has ls 4 [(0, .ref (G.2.2.2.1 k)), (1, .int a1), (2, .int i150), (3, .int v4)] → (10 - i150.toInt).toNat < n → W p l e (Rm 0 0) s m ([.ref (G.2.2.2.1 k), .int a1] : List Value).toArray below meth c H lc 0 0 (MQ below (va_Qv (po_fill_mates τ k a1  ) (Bs G) G.2.2.2.2) ([.ref (G.2.2.2.1 k), .int a1] : List Value).toArray s 0 0 G.2.2.2.2) (F0 m 5 ls []) := by
    intro n
    induction n with
    | zero => intros; omega
    | succ n ih157 =>
      intro t152 H lc ls i150 X155 I153 F154 r151 hl hm
      refine r_iload_n S dJ7_fill_53178_5 rfl (lv_at hl 2 rfl) ?_
      refine r_iload_n S dJ7_fill_53178_6 rfl (lv_at hl 3 rfl) ?_
      refine r_icmp_ge (tgt := 20) S dJ7_fill_53178_7 (by decide) (fun c158 => ?_) (fun c158 => ?_)
      ·
        have r159 : R (10) (10) i150 := ⟨by omega, by omega⟩
        exact r_vret S hr hlk X155 ⟨I153, F154⟩ dJ7_fill_53178_20
      ·
        have r160 : R (0) (9) i150 := ⟨by omega, by omega⟩
        refine r_aload_n S dJ7_fill_53178_10 rfl (lv_at hl 0 rfl) ?_
        refine r_iload_n S dJ7_fill_53178_11 rfl (lv_at hl 2 rfl) ?_
        refine r_iload_n S dJ7_fill_53178_12 rfl (lv_at hl 1 rfl) ?_
        refine r_ast (n := 10) (K := 36) S X155 hk_k hkd_k (fun _ _ => rfl) (ix_of r160 rfl) dJ7_fill_53178_13 (fun t161 H lc M162 X163 => ?_)
        have I164 := Inv_mu I153 M162 (show Rg (kd k) _ a1 from by rw [hkd_k]; exact (R_of (lo := -1) (hi := 9) h_a1 rfl))
        have F165 : Fr [] [k] τ t161 := Fr_cell F154 M162 (by simp [fz])
        refine r_iinc (k := 2) S dJ7_fill_53178_14 hl rfl (by decide) (by decide) (fun v166 d167 ls z168 z169 hl => ?_)
        obtain ⟨e170, r171⟩ := i_add (lo := 1) (hi := 10) z168 r160 (R_eq z169) rfl
        have hl : lv_has ls 4 [(2, .int v166), (0, .ref (G.2.2.2.1 k)), (1, .int a1), (3, .int v4)] := hl
        refine r_goto (tgt := 5) S dJ7_fill_53178_17 (by decide) ?_
        exact ih157 t161 _ _ _ v166 X163 I164 F165 (R_of r171 rfl) (lv_sub hl [1, 2, 0, 3] rfl) (by omega)
  exact L156 _ τ _ _ _ v1 X hI Fr_rfl (R_of r3 rfl) (lv_sub hl [2, 3, 1, 0] rfl) (Nat.lt_succ_self _)
def po_fill_latestLog (τ : Tau) (k : Nat) (a1 : Int32)   (u : Tau) : Prop := Inv u ∧ Fr [] [k] τ u
set_option maxHeartbeats 4000000 in
set_option maxRecDepth 100000 in
theorem c_fill_latestLog (l : Launch) (G : Gx) (τ : Tau) (hI : Inv τ) (k : Nat) (hk_k : k < NC) (hkd_k : kd k = 37) (a1 : Int32) (h_a1 : R (-2147483648) (2147483647) a1) : Cv l G yJ7_fill_53178 cJ7_fill_53178 4 0 0 [.ref (G.2.2.2.1 k), .int a1] τ (po_fill_latestLog τ k a1  ) := by
  unfold Cv
  refine C_of (own := RJ7) (by decide) rfl (Nat.le_of_ble_eq_true rfl) ?_
  intro p e s m below meth c ls S hr hlk X hl
  have hl : lv_has ls 4 [(0, .ref (G.2.2.2.1 k)), (1, .int a1)] := hl
  refine r_iconst S dJ7_fill_53178_0 (by decide) (fun v1 z2 => ?_)
  have r3 := R_eq z2
  refine r_istore_n (lv' := [(2, .int v1), (0, .ref (G.2.2.2.1 k)), (1, .int a1)]) S dJ7_fill_53178_1 rfl hl (by decide) rfl (fun ls hl => ?_)
  refine r_aload_n S dJ7_fill_53178_2 rfl (lv_at hl 1 rfl) ?_
  refine r_alen (x := (0, .inl fun _ => 0)) (n := 4) (K := 37) (t0 := 0) S X hk_k hkd_k (fun _ => ⟨_, rfl⟩) rfl (by decide) dJ7_fill_53178_3 (fun v4 z5 => ?_)
  have r6 := R_eq z5
  refine r_istore_n (lv' := [(3, .int v4), (2, .int v1), (0, .ref (G.2.2.2.1 k)), (1, .int a1)]) S dJ7_fill_53178_4 rfl hl (by decide) rfl (fun ls hl => ?_)
  have L102 : ∀ (n : Nat) (t98 : Tau) (H : Heap) (lc : List Loc) (ls : Array Slot) (i96 : Int32), Xd G s H lc t98 → Inv t98 → Fr [] [k] τ t98 → R (0) (4) i96 → lv_has ls 4 [(0, .ref (G.2.2.2.1 k)), (1, .int a1), (2, .int i96), (3, .int v4)] → (4 - i96.toInt).toNat < n → W p l e (Rm 0 0) s m ([.ref (G.2.2.2.1 k), .int a1] : List Value).toArray below meth c H lc 0 0 (MQ below (va_Qv (po_fill_latestLog τ k a1  ) (Bs G) G.2.2.2.2) ([.ref (G.2.2.2.1 k), .int a1] : List Value).toArray s 0 0 G.2.2.2.2) (F0 m 5 ls []) := by
    intro n
    induction n with
    | zero => intros; omega
    | succ n ih103 =>
      intro t98 H lc ls i96 X101 I99 F100 r97 hl hm
      refine r_iload_n S dJ7_fill_53178_5 rfl (lv_at hl 2 rfl) ?_
      refine r_iload_n S dJ7_fill_53178_6 rfl (lv_at hl 3 rfl) ?_
      refine r_icmp_ge (tgt := 20) S dJ7_fill_53178_7 (by decide) (fun c104 => ?_) (fun c104 => ?_)
      ·
        have r105 : R (4) (4) i96 := ⟨by omega, by omega⟩
        exact r_vret S hr hlk X101 ⟨I99, F100⟩ dJ7_fill_53178_20
      ·
        have r106 : R (0) (3) i96 := ⟨by omega, by omega⟩
        refine r_aload_n S dJ7_fill_53178_10 rfl (lv_at hl 0 rfl) ?_
        refine r_iload_n S dJ7_fill_53178_11 rfl (lv_at hl 2 rfl) ?_
        refine r_iload_n S dJ7_fill_53178_12 rfl (lv_at hl 1 rfl) ?_
        refine r_ast (n := 4) (K := 37) S X101 hk_k hkd_k (fun _ _ => rfl) (ix_of r106 rfl) dJ7_fill_53178_13 (fun t107 H lc M108 X109 => ?_)
        have I110 := Inv_mu I99 M108 (show Rg (kd k) _ a1 by rw [hkd_k]; exact R_any _)
        have F111 : Fr [] [k] τ t107 := Fr_cell F100 M108 (by simp [fz])
        refine r_iinc (k := 2) S dJ7_fill_53178_14 hl rfl (by decide) (by decide) (fun v112 d113 ls z114 z115 hl => ?_)
        obtain ⟨e116, r117⟩ := i_add (lo := 1) (hi := 4) z114 r106 (R_eq z115) rfl
        have hl : lv_has ls 4 [(2, .int v112), (0, .ref (G.2.2.2.1 k)), (1, .int a1), (3, .int v4)] := hl
        refine r_goto (tgt := 5) S dJ7_fill_53178_17 (by decide) ?_
        exact ih103 t107 _ _ _ v112 X109 I110 F111 (R_of r117 rfl) (lv_sub hl [1, 2, 0, 3] rfl) (by omega)
  exact L102 _ τ _ _ _ v1 X hI Fr_rfl (R_of r3 rfl) (lv_sub hl [2, 3, 1, 0] rfl) (Nat.lt_succ_self _)
def po_fill_distance (τ : Tau) (k : Nat) (a1 : Int32)   (u : Tau) : Prop := Inv u ∧ Fr [] [k] τ u
set_option maxHeartbeats 4000000 in
set_option maxRecDepth 100000 in
theorem c_fill_distance (l : Launch) (G : Gx) (τ : Tau) (hI : Inv τ) (k : Nat) (hk_k : k < NC) (hkd_k : kd k = 32) (a1 : Int32) (h_a1 : R (-2147483648) (2147483647) a1) : Cv l G yJ7_fill_53178 cJ7_fill_53178 4 0 0 [.ref (G.2.2.2.1 k), .int a1] τ (po_fill_distance τ k a1  ) := by
  unfold Cv
  refine C_of (own := RJ7) (by decide) rfl (Nat.le_of_ble_eq_true rfl) ?_
  intro p e s m below meth c ls S hr hlk X hl
  have hl : lv_has ls 4 [(0, .ref (G.2.2.2.1 k)), (1, .int a1)] := hl
  refine r_iconst S dJ7_fill_53178_0 (by decide) (fun v1 z2 => ?_)
  have r3 := R_eq z2
  refine r_istore_n (lv' := [(2, .int v1), (0, .ref (G.2.2.2.1 k)), (1, .int a1)]) S dJ7_fill_53178_1 rfl hl (by decide) rfl (fun ls hl => ?_)
  refine r_aload_n S dJ7_fill_53178_2 rfl (lv_at hl 1 rfl) ?_
  refine r_alen (x := (0, .inl fun _ => 0)) (n := 2048) (K := 32) (t0 := 0) S X hk_k hkd_k (fun _ => ⟨_, rfl⟩) rfl (by decide) dJ7_fill_53178_3 (fun v4 z5 => ?_)
  have r6 := R_eq z5
  refine r_istore_n (lv' := [(3, .int v4), (2, .int v1), (0, .ref (G.2.2.2.1 k)), (1, .int a1)]) S dJ7_fill_53178_4 rfl hl (by decide) rfl (fun ls hl => ?_)
  have L732 : ∀ (n : Nat) (t728 : Tau) (H : Heap) (lc : List Loc) (ls : Array Slot) (i726 : Int32), Xd G s H lc t728 → Inv t728 → Fr [] [k] τ t728 → R (0) (2048) i726 → lv_has ls 4 [(0, .ref (G.2.2.2.1 k)), (1, .int a1), (2, .int i726), (3, .int v4)] → (2048 - i726.toInt).toNat < n → W p l e (Rm 0 0) s m ([.ref (G.2.2.2.1 k), .int a1] : List Value).toArray below meth c H lc 0 0 (MQ below (va_Qv (po_fill_distance τ k a1  ) (Bs G) G.2.2.2.2) ([.ref (G.2.2.2.1 k), .int a1] : List Value).toArray s 0 0 G.2.2.2.2) (F0 m 5 ls []) := by
    intro n
    induction n with
    | zero => intros; omega
    | succ n ih733 =>
      intro t728 H lc ls i726 X731 I729 F730 r727 hl hm
      refine r_iload_n S dJ7_fill_53178_5 rfl (lv_at hl 2 rfl) ?_
      refine r_iload_n S dJ7_fill_53178_6 rfl (lv_at hl 3 rfl) ?_
      refine r_icmp_ge (tgt := 20) S dJ7_fill_53178_7 (by decide) (fun c734 => ?_) (fun c734 => ?_)
      ·
        have r735 : R (2048) (2048) i726 := ⟨by omega, by omega⟩
        exact r_vret S hr hlk X731 ⟨I729, F730⟩ dJ7_fill_53178_20
      ·
        have r736 : R (0) (2047) i726 := ⟨by omega, by omega⟩
        refine r_aload_n S dJ7_fill_53178_10 rfl (lv_at hl 0 rfl) ?_
        refine r_iload_n S dJ7_fill_53178_11 rfl (lv_at hl 2 rfl) ?_
        refine r_iload_n S dJ7_fill_53178_12 rfl (lv_at hl 1 rfl) ?_
        refine r_ast (n := 2048) (K := 32) S X731 hk_k hkd_k (fun _ _ => rfl) (ix_of r736 rfl) dJ7_fill_53178_13 (fun t737 H lc M738 X739 => ?_)
        have I740 := Inv_mu I729 M738 (show Rg (kd k) _ a1 by rw [hkd_k]; exact R_any _)
        have F741 : Fr [] [k] τ t737 := Fr_cell F730 M738 (by simp [fz])
        refine r_iinc (k := 2) S dJ7_fill_53178_14 hl rfl (by decide) (by decide) (fun v742 d743 ls z744 z745 hl => ?_)
        obtain ⟨e746, r747⟩ := i_add (lo := 1) (hi := 2048) z744 r736 (R_eq z745) rfl
        have hl : lv_has ls 4 [(2, .int v742), (0, .ref (G.2.2.2.1 k)), (1, .int a1), (3, .int v4)] := hl
        refine r_goto (tgt := 5) S dJ7_fill_53178_17 (by decide) ?_
        exact ih733 t737 _ _ _ v742 X739 I740 F741 (R_of r747 rfl) (lv_sub hl [1, 2, 0, 3] rfl) (by omega)
  exact L732 _ τ _ _ _ v1 X hI Fr_rfl (R_of r3 rfl) (lv_sub hl [2, 3, 1, 0] rfl) (Nat.lt_succ_self _)
def po_X2_everyone (τ : Tau) (k : Nat)    (r : Int32) (u : Tau) : Prop := u = τ ∧ R (0) (1023) r
set_option maxHeartbeats 4000000 in
set_option maxRecDepth 100000 in
theorem c_X2_everyone (l : Launch) (G : Gx) (τ : Tau) (hI : Inv τ) (k : Nat) (hk_k : k < NC) (hkd_k : kd k = 4) : Ci l G yX2_everyone cX2_everyone 1 (some .int) 0 0 [.ref (G.2.2.2.1 k)] τ (po_X2_everyone τ k   ) := by
  unfold Ci
  refine C_of (own := RX2) (by decide) rfl (Nat.le_of_ble_eq_true rfl) ?_
  intro p e s m below meth c ls S hr hlk X hl
  have hl : lv_has ls 1 [(0, .ref (G.2.2.2.1 k))] := hl
  refine r_iconst S dX2_everyone_0 (by decide) (fun v1 z2 => ?_)
  have r3 := R_eq z2
  refine r_aload_n S dX2_everyone_1 rfl (lv_at hl 0 rfl) ?_
  refine r_getn (K := 4) S X hk_k hkd_k lk2_44_2 (fun _ => ⟨_, rfl, rfl⟩) dX2_everyone_2 (fun v4 z5 => ?_)
  have r6 : R (0) (10) v4 := rd hI hkd_k z5
  refine r_ishl S dX2_everyone_5 (fun v7 z8 => ?_)
  have r10 : R (1) (1024) v7 := i_shl z8 r3 r6 rfl
  refine r_iconst S dX2_everyone_6 (by decide) (fun v11 z12 => ?_)
  have r13 := R_eq z12
  refine r_isub S dX2_everyone_7 (fun v14 z15 => ?_)
  obtain ⟨e16, r17⟩ := i_sub (lo := 0) (hi := 1023) z15 r10 r13 rfl
  exact r_ret S hr hlk X ⟨rfl, r17⟩ rfl dX2_everyone_8
def po_X2_askNamed (τ : Tau) (k : Nat)    (r : Int32) (u : Tau) : Prop := u = τ ∧ R (-1) (8) r
set_option maxHeartbeats 4000000 in
set_option maxRecDepth 100000 in
theorem c_X2_askNamed (l : Launch) (G : Gx) (τ : Tau) (hI : Inv τ) (k : Nat) (hk_k : k < NC) (hkd_k : kd k = 4) (a0 : Int64) : Ci l G yX2_askNamed cX2_askNamed 4 (some .int) 0 0 [.ref (G.2.2.2.1 k), .long a0] τ (po_X2_askNamed τ k   ) := by
  unfold Ci
  refine C_of (own := RX2) (by decide) rfl (Nat.le_of_ble_eq_true rfl) ?_
  intro p e s m below meth c ls S hr hlk X hl
  have hl : lv_has ls 4 [(0, .ref (G.2.2.2.1 k)), (1, .long a0)] := hl
  refine r_iconst S dX2_askNamed_0 (by decide) (fun v1 z2 => ?_)
  have r3 := R_eq z2
  refine r_istore_n (lv' := [(3, .int v1), (0, .ref (G.2.2.2.1 k)), (1, .long a0)]) S dX2_askNamed_1 rfl hl (by decide) rfl (fun ls hl => ?_)
  have L139 : ∀ (n : Nat) (H : Heap) (lc : List Loc) (ls : Array Slot) (i136 : Int32), Xd G s H lc τ → R (0) (9) i136 → lv_has ls 4 [(0, .ref (G.2.2.2.1 k)), (1, .long a0), (3, .int i136)] → (9 - i136.toInt).toNat < n → W p l e (Rm 0 0) s m ([.ref (G.2.2.2.1 k), .long a0] : List Value).toArray below meth c H lc 0 0 (MQ below (va_Qi (po_X2_askNamed τ k   ) (Bs G) G.2.2.2.2) ([.ref (G.2.2.2.1 k), .long a0] : List Value).toArray s 0 0 G.2.2.2.2) (F0 m 2 ls []) := by
    intro n
    induction n with
    | zero => intros; omega
    | succ n ih140 =>
      intro H lc ls i136 X138 r137 hl hm
      refine r_iload_n S dX2_askNamed_2 rfl (lv_at hl 2 rfl) ?_
      refine r_aload_n S dX2_askNamed_3 rfl (lv_at hl 0 rfl) ?_
      refine r_getn (K := 4) S X138 hk_k hkd_k lk2_41_2 (fun _ => ⟨_, rfl, rfl⟩) dX2_askNamed_4 (fun v141 z142 => ?_)
      have r143 : R (0) (9) v141 := rd hI hkd_k z142
      refine r_icmp_ge (tgt := 29) S dX2_askNamed_7 (by decide) (fun c144 => ?_) (fun c144 => ?_)
      ·
        refine r_iconst S dX2_askNamed_29 (by decide) (fun v145 z146 => ?_)
        have r147 := R_eq z146
        exact r_ret S hr hlk X138 ⟨rfl, (R_of r147 rfl)⟩ rfl dX2_askNamed_30
      ·
        have r148 : R (0) (8) i136 := ⟨by omega, by omega⟩
        have r149 : R (1) (9) v141 := ⟨by omega, by omega⟩
        refine r_aload_n S dX2_askNamed_10 rfl (lv_at hl 0 rfl) ?_
        refine r_get (K := 4) (v := .ref (G.2.2.2.1 (k + 5))) S X138 hk_k hkd_k lk2_24_2 (fun _ => ⟨_, rfl, rfl⟩) dX2_askNamed_11 ?_
        refine r_iload_n S dX2_askNamed_14 rfl (lv_at hl 2 rfl) ?_
        refine r_lald (n := 9) (K := 9) S X138 (lay4_5 hk_k hkd_k).1 (lay4_5 hk_k hkd_k).2 (fun _ => rfl) (ix_of r148 rfl) dX2_askNamed_15 (fun j150 z151 => ?_)
        refine lv_lload_n S.1.1 S.1.2.1 dX2_askNamed_16 rfl (lv_at hl 1 rfl) ?_
        refine r_lcmp S dX2_askNamed_17 (fun v152 r153 e154 => ?_)
        refine r_if_ne (tgt := 23) S dX2_askNamed_18 (by decide) (fun c155 => ?_) (fun c155 => ?_)
        ·
          refine r_iinc (k := 2) S dX2_askNamed_23 hl rfl (by decide) (by decide) (fun v156 d157 ls z158 z159 hl => ?_)
          obtain ⟨e160, r161⟩ := i_add (lo := 1) (hi := 9) z158 r148 (R_eq z159) rfl
          have hl : lv_has ls 4 [(3, .int v156), (0, .ref (G.2.2.2.1 k)), (1, .long a0)] := hl
          refine r_goto (tgt := 2) S dX2_askNamed_26 (by decide) ?_
          exact ih140 _ _ _ v156 X138 (R_of r161 rfl) (lv_sub hl [1, 2, 0] rfl) (by omega)
        ·
          have r162 : R (0) (0) v152 := ⟨by omega, by omega⟩
          refine r_iload_n S dX2_askNamed_21 rfl (lv_at hl 2 rfl) ?_
          exact r_ret S hr hlk X138 ⟨rfl, (R_of r148 rfl)⟩ rfl dX2_askNamed_22
  exact L139 _ _ _ _ v1 X (R_of r3 rfl) (lv_sub hl [1, 2, 0] rfl) (Nat.lt_succ_self _)
def po_X2_manNamed (τ : Tau) (k : Nat)    (r : Int32) (u : Tau) : Prop := u = τ ∧ R (-1) (9) r
set_option maxHeartbeats 4000000 in
set_option maxRecDepth 100000 in
theorem c_X2_manNamed (l : Launch) (G : Gx) (τ : Tau) (hI : Inv τ) (k : Nat) (hk_k : k < NC) (hkd_k : kd k = 4) (a0 : Int64) : Ci l G yX2_manNamed cX2_manNamed 4 (some .int) 0 0 [.ref (G.2.2.2.1 k), .long a0] τ (po_X2_manNamed τ k   ) := by
  unfold Ci
  refine C_of (own := RX2) (by decide) rfl (Nat.le_of_ble_eq_true rfl) ?_
  intro p e s m below meth c ls S hr hlk X hl
  have hl : lv_has ls 4 [(0, .ref (G.2.2.2.1 k)), (1, .long a0)] := hl
  refine r_iconst S dX2_manNamed_0 (by decide) (fun v1 z2 => ?_)
  have r3 := R_eq z2
  refine r_istore_n (lv' := [(3, .int v1), (0, .ref (G.2.2.2.1 k)), (1, .long a0)]) S dX2_manNamed_1 rfl hl (by decide) rfl (fun ls hl => ?_)
  have L161 : ∀ (n : Nat) (H : Heap) (lc : List Loc) (ls : Array Slot) (i158 : Int32), Xd G s H lc τ → R (0) (10) i158 → lv_has ls 4 [(0, .ref (G.2.2.2.1 k)), (1, .long a0), (3, .int i158)] → (10 - i158.toInt).toNat < n → W p l e (Rm 0 0) s m ([.ref (G.2.2.2.1 k), .long a0] : List Value).toArray below meth c H lc 0 0 (MQ below (va_Qi (po_X2_manNamed τ k   ) (Bs G) G.2.2.2.2) ([.ref (G.2.2.2.1 k), .long a0] : List Value).toArray s 0 0 G.2.2.2.2) (F0 m 2 ls []) := by
    intro n
    induction n with
    | zero => intros; omega
    | succ n ih162 =>
      intro H lc ls i158 X160 r159 hl hm
      refine r_iload_n S dX2_manNamed_2 rfl (lv_at hl 2 rfl) ?_
      refine r_aload_n S dX2_manNamed_3 rfl (lv_at hl 0 rfl) ?_
      refine r_getn (K := 4) S X160 hk_k hkd_k lk2_44_2 (fun _ => ⟨_, rfl, rfl⟩) dX2_manNamed_4 (fun v163 z164 => ?_)
      have r165 : R (0) (10) v163 := rd hI hkd_k z164
      refine r_icmp_ge (tgt := 29) S dX2_manNamed_7 (by decide) (fun c166 => ?_) (fun c166 => ?_)
      ·
        refine r_iconst S dX2_manNamed_29 (by decide) (fun v167 z168 => ?_)
        have r169 := R_eq z168
        exact r_ret S hr hlk X160 ⟨rfl, (R_of r169 rfl)⟩ rfl dX2_manNamed_30
      ·
        have r170 : R (0) (9) i158 := ⟨by omega, by omega⟩
        have r171 : R (1) (10) v163 := ⟨by omega, by omega⟩
        refine r_aload_n S dX2_manNamed_10 rfl (lv_at hl 0 rfl) ?_
        refine r_get (K := 4) (v := .ref (G.2.2.2.1 (k + 6))) S X160 hk_k hkd_k lk2_28_2 (fun _ => ⟨_, rfl, rfl⟩) dX2_manNamed_11 ?_
        refine r_iload_n S dX2_manNamed_14 rfl (lv_at hl 2 rfl) ?_
        refine r_lald (n := 10) (K := 10) S X160 (lay4_6 hk_k hkd_k).1 (lay4_6 hk_k hkd_k).2 (fun _ => rfl) (ix_of r170 rfl) dX2_manNamed_15 (fun j172 z173 => ?_)
        refine lv_lload_n S.1.1 S.1.2.1 dX2_manNamed_16 rfl (lv_at hl 1 rfl) ?_
        refine r_lcmp S dX2_manNamed_17 (fun v174 r175 e176 => ?_)
        refine r_if_ne (tgt := 23) S dX2_manNamed_18 (by decide) (fun c177 => ?_) (fun c177 => ?_)
        ·
          refine r_iinc (k := 2) S dX2_manNamed_23 hl rfl (by decide) (by decide) (fun v178 d179 ls z180 z181 hl => ?_)
          obtain ⟨e182, r183⟩ := i_add (lo := 1) (hi := 10) z180 r170 (R_eq z181) rfl
          have hl : lv_has ls 4 [(3, .int v178), (0, .ref (G.2.2.2.1 k)), (1, .long a0)] := hl
          refine r_goto (tgt := 2) S dX2_manNamed_26 (by decide) ?_
          exact ih162 _ _ _ v178 X160 (R_of r183 rfl) (lv_sub hl [1, 2, 0] rfl) (by omega)
        ·
          have r184 : R (0) (0) v174 := ⟨by omega, by omega⟩
          refine r_iload_n S dX2_manNamed_21 rfl (lv_at hl 2 rfl) ?_
          exact r_ret S hr hlk X160 ⟨rfl, (R_of r170 rfl)⟩ rfl dX2_manNamed_22
  exact L161 _ _ _ _ v1 X (R_of r3 rfl) (lv_sub hl [1, 2, 0] rfl) (Nat.lt_succ_self _)
def po_X10_hasMan (τ : Tau)  (a0 : Int32)   (r : Int32) (u : Tau) : Prop := u = τ ∧ R (0) (1) r ∧ (r.toInt = 1 → R (0) (9) a0 ∧ R (1) (10) (u 23 3))
set_option maxHeartbeats 4000000 in
set_option maxRecDepth 100000 in
theorem c_X10_hasMan (l : Launch) (G : Gx) (τ : Tau) (hI : Inv τ) (a0 : Int32) (h_a0 : R (-2147483648) (2147483647) a0) : Ci l G yX10_hasMan cX10_hasMan 2 (some .boolean) 0 0 [.ref (G.2.2.2.1 22), .int a0] τ (po_X10_hasMan τ  a0  ) := by
  unfold Ci
  refine C_of (own := RX10) (by decide) rfl (Nat.le_of_ble_eq_true rfl) ?_
  intro p e s m below meth c ls S hr hlk X hl
  have hl : lv_has ls 2 [(0, .ref (G.2.2.2.1 22)), (1, .int a0)] := hl
  refine r_iload_n S dX10_hasMan_0 rfl (lv_at hl 1 rfl) ?_
  refine r_if_lt (tgt := 19) S dX10_hasMan_1 (by decide) (fun c1 => ?_) (fun c1 => ?_)
  ·
    have r2 : R (-2147483648) (-1) a0 := ⟨by omega, by omega⟩
    refine r_iconst S dX10_hasMan_19 (by decide) (fun v3 z4 => ?_)
    have r5 := R_eq z4
    exact r_ret S hr hlk X ⟨rfl, (R_of r5 rfl), (fun h => by exfalso; omega)⟩ (nr_bool (R_of (lo := 0) (hi := 1) r5 rfl)) dX10_hasMan_20
  ·
    have r6 : R (0) (2147483647) a0 := ⟨by omega, by omega⟩
    refine r_iload_n S dX10_hasMan_4 rfl (lv_at hl 1 rfl) ?_
    refine r_aload_n S dX10_hasMan_5 rfl (lv_at hl 0 rfl) ?_
    refine r_get (K := 22) (v := .ref (G.2.2.2.1 23)) S X (Nat.le_of_ble_eq_true rfl) rfl lk10_12_8 (fun _ => ⟨_, rfl, rfl⟩) dX10_hasMan_6 ?_
    refine r_getn (K := 4) S X (Nat.le_of_ble_eq_true rfl) rfl lk10_49_2 (fun _ => ⟨_, rfl, rfl⟩) dX10_hasMan_9 (fun v7 z8 => ?_)
    have r9 : R (0) (10) v7 := rd hI rfl z8
    refine r_icmp_ge (tgt := 19) S dX10_hasMan_12 (by decide) (fun c10 => ?_) (fun c10 => ?_)
    ·
      refine r_iconst S dX10_hasMan_19 (by decide) (fun v11 z12 => ?_)
      have r13 := R_eq z12
      exact r_ret S hr hlk X ⟨rfl, (R_of r13 rfl), (fun h => by exfalso; omega)⟩ (nr_bool (R_of (lo := 0) (hi := 1) r13 rfl)) dX10_hasMan_20
    ·
      have r14 : R (0) (9) a0 := ⟨by omega, by omega⟩
      have r15 : R (1) (10) v7 := ⟨by omega, by omega⟩
      refine r_iconst S dX10_hasMan_15 (by decide) (fun v16 z17 => ?_)
      have r18 := R_eq z17
      refine r_goto (tgt := 20) S dX10_hasMan_16 (by decide) ?_
      exact r_ret S hr hlk X ⟨rfl, (R_of r18 rfl), (fun h => ⟨⟨by omega, by omega⟩, (by rw [z8]; exact R_of r15 rfl)⟩)⟩ (nr_bool (R_of (lo := 0) (hi := 1) r18 rfl)) dX10_hasMan_20
def po_X10_hasAsk (τ : Tau)  (a0 : Int32)   (r : Int32) (u : Tau) : Prop := u = τ ∧ R (0) (1) r ∧ (r.toInt = 1 → R (0) (8) a0)
set_option maxHeartbeats 4000000 in
set_option maxRecDepth 100000 in
theorem c_X10_hasAsk (l : Launch) (G : Gx) (τ : Tau) (hI : Inv τ) (a0 : Int32) (h_a0 : R (-2147483648) (2147483647) a0) : Ci l G yX10_hasAsk cX10_hasAsk 2 (some .boolean) 0 0 [.ref (G.2.2.2.1 22), .int a0] τ (po_X10_hasAsk τ  a0  ) := by
  unfold Ci
  refine C_of (own := RX10) (by decide) rfl (Nat.le_of_ble_eq_true rfl) ?_
  intro p e s m below meth c ls S hr hlk X hl
  have hl : lv_has ls 2 [(0, .ref (G.2.2.2.1 22)), (1, .int a0)] := hl
  refine r_iload_n S dX10_hasAsk_0 rfl (lv_at hl 1 rfl) ?_
  refine r_if_lt (tgt := 19) S dX10_hasAsk_1 (by decide) (fun c1 => ?_) (fun c1 => ?_)
  ·
    have r2 : R (-2147483648) (-1) a0 := ⟨by omega, by omega⟩
    refine r_iconst S dX10_hasAsk_19 (by decide) (fun v3 z4 => ?_)
    have r5 := R_eq z4
    exact r_ret S hr hlk X ⟨rfl, (R_of r5 rfl), (fun h => by exfalso; omega)⟩ (nr_bool (R_of (lo := 0) (hi := 1) r5 rfl)) dX10_hasAsk_20
  ·
    have r6 : R (0) (2147483647) a0 := ⟨by omega, by omega⟩
    refine r_iload_n S dX10_hasAsk_4 rfl (lv_at hl 1 rfl) ?_
    refine r_aload_n S dX10_hasAsk_5 rfl (lv_at hl 0 rfl) ?_
    refine r_get (K := 22) (v := .ref (G.2.2.2.1 23)) S X (Nat.le_of_ble_eq_true rfl) rfl lk10_12_8 (fun _ => ⟨_, rfl, rfl⟩) dX10_hasAsk_6 ?_
    refine r_getn (K := 4) S X (Nat.le_of_ble_eq_true rfl) rfl lk10_52_2 (fun _ => ⟨_, rfl, rfl⟩) dX10_hasAsk_9 (fun v7 z8 => ?_)
    have r9 : R (0) (9) v7 := rd hI rfl z8
    refine r_icmp_ge (tgt := 19) S dX10_hasAsk_12 (by decide) (fun c10 => ?_) (fun c10 => ?_)
    ·
      refine r_iconst S dX10_hasAsk_19 (by decide) (fun v11 z12 => ?_)
      have r13 := R_eq z12
      exact r_ret S hr hlk X ⟨rfl, (R_of r13 rfl), (fun h => by exfalso; omega)⟩ (nr_bool (R_of (lo := 0) (hi := 1) r13 rfl)) dX10_hasAsk_20
    ·
      have r14 : R (0) (8) a0 := ⟨by omega, by omega⟩
      have r15 : R (1) (9) v7 := ⟨by omega, by omega⟩
      refine r_iconst S dX10_hasAsk_15 (by decide) (fun v16 z17 => ?_)
      have r18 := R_eq z17
      refine r_goto (tgt := 20) S dX10_hasAsk_16 (by decide) ?_
      exact r_ret S hr hlk X ⟨rfl, (R_of r18 rfl), (fun h => ⟨by omega, by omega⟩)⟩ (nr_bool (R_of (lo := 0) (hi := 1) r18 rfl)) dX10_hasAsk_20
def po_X10_hasSet (τ : Tau)  (a0 : Int32)   (r : Int32) (u : Tau) : Prop := u = τ ∧ R (0) (1) r ∧ (r.toInt = 1 → R (0) (1023) a0)
set_option maxHeartbeats 4000000 in
set_option maxRecDepth 100000 in
theorem c_X10_hasSet (l : Launch) (G : Gx) (τ : Tau) (hI : Inv τ) (a0 : Int32) (h_a0 : R (-2147483648) (2147483647) a0) : Ci l G yX10_hasSet cX10_hasSet 2 (some .boolean) 1 20 [.ref (G.2.2.2.1 22), .int a0] τ (po_X10_hasSet τ  a0  ) := by
  unfold Ci
  refine C_of (own := RX10) (by decide) rfl (Nat.le_of_ble_eq_true rfl) ?_
  intro p e s m below meth c ls S hr hlk X hl
  have hl : lv_has ls 2 [(0, .ref (G.2.2.2.1 22)), (1, .int a0)] := hl
  refine r_iload_n S dX10_hasSet_0 rfl (lv_at hl 1 rfl) ?_
  refine r_aload_n S dX10_hasSet_1 rfl (lv_at hl 0 rfl) ?_
  refine r_get (K := 22) (v := .ref (G.2.2.2.1 23)) S X (Nat.le_of_ble_eq_true rfl) rfl lk10_12_8 (fun _ => ⟨_, rfl, rfl⟩) dX10_hasSet_2 ?_
  refine r_ki (q_V (As := []) (rest := [.int a0]) (K := 4) (ci := 2) S X (c_X2_everyone l G τ hI 23 (Nat.le_of_ble_eq_true rfl) rfl) ck10_55 (Nat.le_of_ble_eq_true rfl) rfl (fun _ => ⟨_, rfl⟩) ⟨_, _, rfl⟩ ⟨Nat.le_of_ble_eq_true rfl, Nat.le_of_ble_eq_true rfl⟩ rfl hl.1 rfl (Nat.le_of_ble_eq_true rfl) dX10_hasSet_5 ⟨Nat.le_refl 0, Nat.le_refl 0⟩) X (fun v4 t3 H lc q1 X2 => ?_)
  unfold po_X2_everyone at q1
  obtain ⟨q5, q6⟩ := q1
  rw [q5] at X2
  refine r_iconst S dX10_hasSet_8 (by decide) (fun v7 z8 => ?_)
  have r9 := R_eq z8
  refine r_ixor S dX10_hasSet_9 (fun v10 z11 => ?_)
  have r12 := R_any v10
  refine r_iand S dX10_hasSet_10 (fun v13 z14 => ?_)
  have r15 := R_any v13
  refine r_if_ne (tgt := 18) S dX10_hasSet_11 (by decide) (fun c16 => ?_) (fun c16 => ?_)
  ·
    refine r_iconst S dX10_hasSet_18 (by decide) (fun v17 z18 => ?_)
    have r19 := R_eq z18
    exact r_ret S hr hlk X2 ⟨rfl, (R_of r19 rfl), (fun h => by exfalso; omega)⟩ (nr_bool (R_of (lo := 0) (hi := 1) r19 rfl)) dX10_hasSet_19
  ·
    have r20 : R (0) (0) v13 := ⟨by omega, by omega⟩
    refine r_iconst S dX10_hasSet_14 (by decide) (fun v21 z22 => ?_)
    have r23 := R_eq z22
    refine r_goto (tgt := 19) S dX10_hasSet_15 (by decide) ?_
    exact r_ret S hr hlk X2 ⟨rfl, (R_of r23 rfl), (fun h => (by apply sub_of (x := a0) <;> assumption))⟩ (nr_bool (R_of (lo := 0) (hi := 1) r23 rfl)) dX10_hasSet_19
def po_X10_isLevel (τ : Tau)  (a0 : Int32)   (r : Int32) (u : Tau) : Prop := u = τ ∧ R (0) (1) r
set_option maxHeartbeats 4000000 in
set_option maxRecDepth 100000 in
theorem c_X10_isLevel (l : Launch) (G : Gx) (τ : Tau) (hI : Inv τ) (a0 : Int32) (h_a0 : R (-2147483648) (2147483647) a0) : Ci l G yX10_isLevel cX10_isLevel 2 (some .boolean) 0 0 [.ref (G.2.2.2.1 22), .int a0] τ (po_X10_isLevel τ  a0  ) := by
  unfold Ci
  refine C_of (own := RX10) (by decide) rfl (Nat.le_of_ble_eq_true rfl) ?_
  intro p e s m below meth c ls S hr hlk X hl
  have hl : lv_has ls 2 [(0, .ref (G.2.2.2.1 22)), (1, .int a0)] := hl
  refine r_iload_n S dX10_isLevel_0 rfl (lv_at hl 1 rfl) ?_
  refine r_aload_n S dX10_isLevel_1 rfl (lv_at hl 0 rfl) ?_
  refine r_get (K := 22) (v := .ref (G.2.2.2.1 23)) S X (Nat.le_of_ble_eq_true rfl) rfl lk10_12_8 (fun _ => ⟨_, rfl, rfl⟩) dX10_isLevel_2 ?_
  refine r_getn (K := 4) S X (Nat.le_of_ble_eq_true rfl) rfl lk10_97_2 (fun _ => ⟨_, rfl, rfl⟩) dX10_isLevel_5 (fun v1 z2 => ?_)
  have r3 : R (0) (9) v1 := rd hI rfl z2
  refine r_icmp_gt (tgt := 27) S dX10_isLevel_8 (by decide) (fun c4 => ?_) (fun c4 => ?_)
  ·
    have r5 : R (1) (2147483647) a0 := ⟨by omega, by omega⟩
    refine r_iconst S dX10_isLevel_27 (by decide) (fun v6 z7 => ?_)
    have r8 := R_eq z7
    exact r_ret S hr hlk X ⟨rfl, (R_of r8 rfl)⟩ (nr_bool (R_of (lo := 0) (hi := 1) r8 rfl)) dX10_isLevel_28
  ·
    have r9 : R (-2147483648) (9) a0 := ⟨by omega, by omega⟩
    refine r_iload_n S dX10_isLevel_11 rfl (lv_at hl 1 rfl) ?_
    refine r_aload_n S dX10_isLevel_12 rfl (lv_at hl 0 rfl) ?_
    refine r_get (K := 22) (v := .ref (G.2.2.2.1 23)) S X (Nat.le_of_ble_eq_true rfl) rfl lk10_12_8 (fun _ => ⟨_, rfl, rfl⟩) dX10_isLevel_13 ?_
    refine r_geti (K := 4) S X (Nat.le_of_ble_eq_true rfl) rfl lk10_97_2 (fun _ => ⟨_, rfl, rfl⟩) z2 dX10_isLevel_16 ?_
    refine r_ineg S dX10_isLevel_19 (fun v10 z11 => ?_)
    obtain ⟨e12, r13⟩ := i_neg (lo := -9) (hi := 0) z11 r3 rfl
    refine r_icmp_lt (tgt := 27) S dX10_isLevel_20 (by decide) (fun c14 => ?_) (fun c14 => ?_)
    ·
      have r15 : R (-2147483648) (-1) a0 := ⟨by omega, by omega⟩
      refine r_iconst S dX10_isLevel_27 (by decide) (fun v16 z17 => ?_)
      have r18 := R_eq z17
      exact r_ret S hr hlk X ⟨rfl, (R_of r18 rfl)⟩ (nr_bool (R_of (lo := 0) (hi := 1) r18 rfl)) dX10_isLevel_28
    ·
      have r19 : R (-9) (9) a0 := ⟨by omega, by omega⟩
      refine r_iconst S dX10_isLevel_23 (by decide) (fun v20 z21 => ?_)
      have r22 := R_eq z21
      refine r_goto (tgt := 28) S dX10_isLevel_24 (by decide) ?_
      exact r_ret S hr hlk X ⟨rfl, (R_of r22 rfl)⟩ (nr_bool (R_of (lo := 0) (hi := 1) r22 rfl)) dX10_isLevel_28
def po_X10_here (τ : Tau)     (r : Int32) (u : Tau) : Prop := u = τ ∧ R (0) (1023) r
set_option maxHeartbeats 4000000 in
set_option maxRecDepth 100000 in
theorem c_X10_here (l : Launch) (G : Gx) (τ : Tau) (hI : Inv τ) : Ci l G yX10_here cX10_here 1 (some .int) 1 20 [.ref (G.2.2.2.1 22)] τ (po_X10_here τ    ) := by
  unfold Ci
  refine C_of (own := RX10) (by decide) rfl (Nat.le_of_ble_eq_true rfl) ?_
  intro p e s m below meth c ls S hr hlk X hl
  have hl : lv_has ls 1 [(0, .ref (G.2.2.2.1 22))] := hl
  refine r_aload_n S dX10_here_0 rfl (lv_at hl 0 rfl) ?_
  refine r_get (K := 22) (v := .ref (G.2.2.2.1 30)) S X (Nat.le_of_ble_eq_true rfl) rfl lk10_21_8 (fun _ => ⟨_, rfl, rfl⟩) dX10_here_1 ?_
  refine r_getn (K := 23) S X (Nat.le_of_ble_eq_true rfl) rfl lk10_59_3 (fun _ => ⟨_, rfl, rfl⟩) dX10_here_4 (fun v1 z2 => ?_)
  have r3 : R (0) (1) v1 := rd hI rfl z2
  refine r_iconst S dX10_here_7 (by decide) (fun v4 z5 => ?_)
  have r6 := R_eq z5
  refine r_icmp_ne (tgt := 21) S dX10_here_8 (by decide) (fun c7 => ?_) (fun c7 => ?_)
  ·
    have r8 : R (0) (0) v1 := ⟨by omega, by omega⟩
    refine r_aload_n S dX10_here_21 rfl (lv_at hl 0 rfl) ?_
    refine r_get (K := 22) (v := .ref (G.2.2.2.1 23)) S X (Nat.le_of_ble_eq_true rfl) rfl lk10_12_8 (fun _ => ⟨_, rfl, rfl⟩) dX10_here_22 ?_
    refine r_ki (q_V (As := []) (rest := []) (K := 4) (ci := 2) S X (c_X2_everyone l G τ hI 23 (Nat.le_of_ble_eq_true rfl) rfl) ck10_55 (Nat.le_of_ble_eq_true rfl) rfl (fun _ => ⟨_, rfl⟩) ⟨_, _, rfl⟩ ⟨Nat.le_of_ble_eq_true rfl, Nat.le_of_ble_eq_true rfl⟩ rfl hl.1 rfl (Nat.le_of_ble_eq_true rfl) dX10_here_25 ⟨Nat.le_refl 0, Nat.le_refl 0⟩) X (fun v12 t11 H lc q9 X10 => ?_)
    unfold po_X2_everyone at q9
    obtain ⟨q13, q14⟩ := q9
    rw [q13] at X10
    refine r_aload_n S dX10_here_28 rfl (lv_at hl 0 rfl) ?_
    refine r_get (K := 22) (v := .ref (G.2.2.2.1 30)) S X10 (Nat.le_of_ble_eq_true rfl) rfl lk10_21_8 (fun _ => ⟨_, rfl, rfl⟩) dX10_here_29 ?_
    refine r_getn (K := 23) S X10 (Nat.le_of_ble_eq_true rfl) rfl lk10_62_3 (fun _ => ⟨_, rfl, rfl⟩) dX10_here_32 (fun v15 z16 => ?_)
    have r17 : R (0) (1023) v15 := rd hI rfl z16
    refine r_iconst S dX10_here_35 (by decide) (fun v18 z19 => ?_)
    have r20 := R_eq z19
    refine r_ixor S dX10_here_36 (fun v21 z22 => ?_)
    have r23 := R_any v21
    refine r_iand S dX10_here_37 (fun v24 z25 => ?_)
    have r27 : R (0) (1023) v24 := i_and1 z25 q14 r23 rfl
    have e28 := i_andle z25 q14 rfl
    exact r_ret S hr hlk X10 ⟨rfl, r27⟩ rfl dX10_here_38
  ·
    have r29 : R (1) (1) v1 := ⟨by omega, by omega⟩
    refine r_aload_n S dX10_here_11 rfl (lv_at hl 0 rfl) ?_
    refine r_get (K := 22) (v := .ref (G.2.2.2.1 30)) S X (Nat.le_of_ble_eq_true rfl) rfl lk10_21_8 (fun _ => ⟨_, rfl, rfl⟩) dX10_here_12 ?_
    refine r_getn (K := 23) S X (Nat.le_of_ble_eq_true rfl) rfl lk10_62_3 (fun _ => ⟨_, rfl, rfl⟩) dX10_here_15 (fun v30 z31 => ?_)
    have r32 : R (0) (1023) v30 := rd hI rfl z31
    refine r_goto (tgt := 38) S dX10_here_18 (by decide) ?_
    exact r_ret S hr hlk X ⟨rfl, r32⟩ rfl dX10_here_38
def po_X10_around (τ : Tau)  (a0 : Int32)   (r : Int32) (u : Tau) : Prop := u = τ ∧ R (0) (1023) r
set_option maxHeartbeats 4000000 in
set_option maxRecDepth 100000 in
theorem c_X10_around (l : Launch) (G : Gx) (τ : Tau) (hI : Inv τ) (a0 : Int32) (h_a0 : R (-2147483648) (2147483647) a0) : Ci l G yX10_around cX10_around 2 (some .int) 1 21 [.ref (G.2.2.2.1 22), .int a0] τ (po_X10_around τ  a0  ) := by
  unfold Ci
  refine C_of (own := RX10) (by decide) rfl (Nat.le_of_ble_eq_true rfl) ?_
  intro p e s m below meth c ls S hr hlk X hl
  have hl : lv_has ls 2 [(0, .ref (G.2.2.2.1 22)), (1, .int a0)] := hl
  refine r_aload_n S dX10_around_0 rfl (lv_at hl 0 rfl) ?_
  refine r_get (K := 22) (v := .ref (G.2.2.2.1 30)) S X (Nat.le_of_ble_eq_true rfl) rfl lk10_21_8 (fun _ => ⟨_, rfl, rfl⟩) dX10_around_1 ?_
  refine r_getn (K := 23) S X (Nat.le_of_ble_eq_true rfl) rfl lk10_62_3 (fun _ => ⟨_, rfl, rfl⟩) dX10_around_4 (fun v1 z2 => ?_)
  have r3 : R (0) (1023) v1 := rd hI rfl z2
  refine r_iload_n S dX10_around_7 rfl (lv_at hl 1 rfl) ?_
  refine r_ki (q_N (As := [.int v1, .int a0]) (rest := []) S X (c_X11_bit l G τ hI v1 a0 (R_of (lo := -2147483648) (hi := 2147483647) r3 rfl) h_a0) ck10_65 ⟨Nat.le_of_ble_eq_true rfl, Nat.le_of_ble_eq_true rfl⟩ rfl hl.1 rfl (Nat.le_of_ble_eq_true rfl) dX10_around_8 ⟨Nat.le_refl 0, Nat.le_refl 0⟩) X (fun v7 t6 H lc q4 X5 => ?_)
  unfold po_X11_bit at q4
  obtain ⟨q8, q9⟩ := q4
  rw [q8] at X5
  refine r_iconst S dX10_around_11 (by decide) (fun v10 z11 => ?_)
  have r12 := R_eq z11
  refine r_icmp_ne (tgt := 25) S dX10_around_12 (by decide) (fun c13 => ?_) (fun c13 => ?_)
  ·
    have r14 : R (0) (0) v7 := ⟨by omega, by omega⟩
    refine r_aload_n S dX10_around_25 rfl (lv_at hl 0 rfl) ?_
    refine r_get (K := 22) (v := .ref (G.2.2.2.1 23)) S X5 (Nat.le_of_ble_eq_true rfl) rfl lk10_12_8 (fun _ => ⟨_, rfl, rfl⟩) dX10_around_26 ?_
    refine r_ki (q_V (As := []) (rest := []) (K := 4) (ci := 2) S X5 (c_X2_everyone l G τ hI 23 (Nat.le_of_ble_eq_true rfl) rfl) ck10_55 (Nat.le_of_ble_eq_true rfl) rfl (fun _ => ⟨_, rfl⟩) ⟨_, _, rfl⟩ ⟨Nat.le_of_ble_eq_true rfl, Nat.le_of_ble_eq_true rfl⟩ rfl hl.1 rfl (Nat.le_of_ble_eq_true rfl) dX10_around_29 ⟨Nat.le_refl 0, Nat.le_refl 0⟩) X5 (fun v18 t17 H lc q15 X16 => ?_)
    unfold po_X2_everyone at q15
    obtain ⟨q19, q20⟩ := q15
    rw [q19] at X16
    refine r_aload_n S dX10_around_32 rfl (lv_at hl 0 rfl) ?_
    refine r_get (K := 22) (v := .ref (G.2.2.2.1 30)) S X16 (Nat.le_of_ble_eq_true rfl) rfl lk10_21_8 (fun _ => ⟨_, rfl, rfl⟩) dX10_around_33 ?_
    refine r_geti (K := 23) S X16 (Nat.le_of_ble_eq_true rfl) rfl lk10_62_3 (fun _ => ⟨_, rfl, rfl⟩) z2 dX10_around_36 ?_
    refine r_iconst S dX10_around_39 (by decide) (fun v21 z22 => ?_)
    have r23 := R_eq z22
    refine r_ixor S dX10_around_40 (fun v24 z25 => ?_)
    have r26 := R_any v24
    refine r_iand S dX10_around_41 (fun v27 z28 => ?_)
    have r30 : R (0) (1023) v27 := i_and1 z28 q20 r26 rfl
    have e31 := i_andle z28 q20 rfl
    exact r_ret S hr hlk X16 ⟨rfl, r30⟩ rfl dX10_around_42
  ·
    have r32 : R (1) (1) v7 := ⟨by omega, by omega⟩
    refine r_aload_n S dX10_around_15 rfl (lv_at hl 0 rfl) ?_
    refine r_get (K := 22) (v := .ref (G.2.2.2.1 30)) S X5 (Nat.le_of_ble_eq_true rfl) rfl lk10_21_8 (fun _ => ⟨_, rfl, rfl⟩) dX10_around_16 ?_
    refine r_geti (K := 23) S X5 (Nat.le_of_ble_eq_true rfl) rfl lk10_62_3 (fun _ => ⟨_, rfl, rfl⟩) z2 dX10_around_19 ?_
    refine r_goto (tgt := 42) S dX10_around_22 (by decide) ?_
    exact r_ret S hr hlk X5 ⟨rfl, r3⟩ rfl dX10_around_42
def po_X10_partedKin (τ : Tau)     (r : Int32) (u : Tau) : Prop := u = τ
set_option maxHeartbeats 4000000 in
set_option maxRecDepth 100000 in
theorem c_X10_partedKin (l : Launch) (G : Gx) (τ : Tau) (hI : Inv τ) : Ci l G yX10_partedKin cX10_partedKin 3 (some .int) 1 21 [.ref (G.2.2.2.1 22)] τ (po_X10_partedKin τ    ) := by
  unfold Ci
  refine C_of (own := RX10) (by decide) rfl (Nat.le_of_ble_eq_true rfl) ?_
  intro p e s m below meth c ls S hr hlk X hl
  have hl : lv_has ls 3 [(0, .ref (G.2.2.2.1 22))] := hl
  refine r_iconst S dX10_partedKin_0 (by decide) (fun v1 z2 => ?_)
  have r3 := R_eq z2
  refine r_istore_n (lv' := [(1, .int v1), (0, .ref (G.2.2.2.1 22))]) S dX10_partedKin_1 rfl hl (by decide) rfl (fun ls hl => ?_)
  refine r_iconst S dX10_partedKin_2 (by decide) (fun v4 z5 => ?_)
  have r6 := R_eq z5
  refine r_istore_n (lv' := [(2, .int v4), (1, .int v1), (0, .ref (G.2.2.2.1 22))]) S dX10_partedKin_3 rfl hl (by decide) rfl (fun ls hl => ?_)
  have L816 : ∀ (n : Nat) (H : Heap) (lc : List Loc) (ls : Array Slot) (i811 : Int32) (i813 : Int32), Xd G s H lc τ → R (-2147483648) (2147483647) i811 → R (0) (10) i813 → lv_has ls 3 [(0, .ref (G.2.2.2.1 22)), (1, .int i811), (2, .int i813)] → (10 - i813.toInt).toNat < n → W p l e (Rm 1 21) s m ([.ref (G.2.2.2.1 22)] : List Value).toArray below meth c H lc 0 0 (MQ below (va_Qi (po_X10_partedKin τ    ) (Bs G) G.2.2.2.2) ([.ref (G.2.2.2.1 22)] : List Value).toArray s 0 0 G.2.2.2.2) (F0 m 4 ls []) := by
    intro n
    induction n with
    | zero => intros; omega
    | succ n ih817 =>
      intro H lc ls i811 i813 X815 r812 r814 hl hm
      refine r_iload_n S dX10_partedKin_4 rfl (lv_at hl 2 rfl) ?_
      refine r_aload_n S dX10_partedKin_5 rfl (lv_at hl 0 rfl) ?_
      refine r_get (K := 22) (v := .ref (G.2.2.2.1 23)) S X815 (Nat.le_of_ble_eq_true rfl) rfl lk10_12_8 (fun _ => ⟨_, rfl, rfl⟩) dX10_partedKin_6 ?_
      refine r_getn (K := 4) S X815 (Nat.le_of_ble_eq_true rfl) rfl lk10_49_2 (fun _ => ⟨_, rfl, rfl⟩) dX10_partedKin_9 (fun v818 z819 => ?_)
      have r820 : R (0) (10) v818 := rd hI rfl z819
      refine r_icmp_ge (tgt := 61) S dX10_partedKin_12 (by decide) (fun c821 => ?_) (fun c821 => ?_)
      ·
        refine r_iload_n S dX10_partedKin_61 rfl (lv_at hl 1 rfl) ?_
        exact r_ret S hr hlk X815 rfl rfl dX10_partedKin_62
      ·
        have r822 : R (0) (9) i813 := ⟨by omega, by omega⟩
        have r823 : R (1) (10) v818 := ⟨by omega, by omega⟩
        refine r_aload_n S dX10_partedKin_15 rfl (lv_at hl 0 rfl) ?_
        refine r_get (K := 22) (v := .ref (G.2.2.2.1 30)) S X815 (Nat.le_of_ble_eq_true rfl) rfl lk10_21_8 (fun _ => ⟨_, rfl, rfl⟩) dX10_partedKin_16 ?_
        refine r_getn (K := 23) S X815 (Nat.le_of_ble_eq_true rfl) rfl lk10_62_3 (fun _ => ⟨_, rfl, rfl⟩) dX10_partedKin_19 (fun v824 z825 => ?_)
        have r826 : R (0) (1023) v824 := rd hI rfl z825
        refine r_iload_n S dX10_partedKin_22 rfl (lv_at hl 2 rfl) ?_
        refine r_ki (q_N (As := [.int v824, .int i813]) (rest := []) S X815 (c_X11_bit l G τ hI v824 i813 (R_of (lo := -2147483648) (hi := 2147483647) r826 rfl) (R_of (lo := -2147483648) (hi := 2147483647) r822 rfl)) ck10_65 ⟨Nat.le_of_ble_eq_true rfl, Nat.le_of_ble_eq_true rfl⟩ rfl hl.1 rfl (Nat.le_of_ble_eq_true rfl) dX10_partedKin_23 ⟨Nat.le_refl 0, Nat.le_refl 0⟩) X815 (fun v830 t829 H lc q827 X828 => ?_)
        unfold po_X11_bit at q827
        obtain ⟨q831, q832⟩ := q827
        rw [q831] at X828
        refine r_iconst S dX10_partedKin_26 (by decide) (fun v833 z834 => ?_)
        have r835 := R_eq z834
        refine r_icmp_ne (tgt := 55) S dX10_partedKin_27 (by decide) (fun c836 => ?_) (fun c836 => ?_)
        ·
          have r837 : R (0) (0) v830 := ⟨by omega, by omega⟩
          refine r_iinc (k := 2) S dX10_partedKin_55 hl rfl (by decide) (by decide) (fun v838 d839 ls z840 z841 hl => ?_)
          obtain ⟨e842, r843⟩ := i_add (lo := 1) (hi := 10) z840 r822 (R_eq z841) rfl
          have hl : lv_has ls 3 [(2, .int v838), (0, .ref (G.2.2.2.1 22)), (1, .int i811)] := hl
          refine r_goto (tgt := 4) S dX10_partedKin_58 (by decide) ?_
          exact ih817 _ _ _ i811 v838 X828 r812 (R_of r843 rfl) (lv_sub hl [1, 2, 0] rfl) (by omega)
        ·
          have r844 : R (1) (1) v830 := ⟨by omega, by omega⟩
          refine r_iload_n S dX10_partedKin_30 rfl (lv_at hl 1 rfl) ?_
          refine r_aload_n S dX10_partedKin_31 rfl (lv_at hl 0 rfl) ?_
          refine r_get (K := 22) (v := .ref (G.2.2.2.1 23)) S X828 (Nat.le_of_ble_eq_true rfl) rfl lk10_12_8 (fun _ => ⟨_, rfl, rfl⟩) dX10_partedKin_32 ?_
          refine r_get (K := 4) (v := .ref (G.2.2.2.1 26)) S X828 (Nat.le_of_ble_eq_true rfl) rfl lk10_69_2 (fun _ => ⟨_, rfl, rfl⟩) dX10_partedKin_35 ?_
          refine r_iload_n S dX10_partedKin_38 rfl (lv_at hl 2 rfl) ?_
          refine r_aldn (n := 10) (K := 7) S X828 (Nat.le_of_ble_eq_true rfl) rfl (fun _ => rfl) (ix_of r822 rfl) dX10_partedKin_39 (fun v845 z846 => ?_)
          have r847 : R (0) (1023) v845 := rd hI rfl z846
          refine r_aload_n S dX10_partedKin_40 rfl (lv_at hl 0 rfl) ?_
          refine r_get (K := 22) (v := .ref (G.2.2.2.1 30)) S X828 (Nat.le_of_ble_eq_true rfl) rfl lk10_21_8 (fun _ => ⟨_, rfl, rfl⟩) dX10_partedKin_41 ?_
          refine r_geti (K := 23) S X828 (Nat.le_of_ble_eq_true rfl) rfl lk10_62_3 (fun _ => ⟨_, rfl, rfl⟩) z825 dX10_partedKin_44 ?_
          refine r_iconst S dX10_partedKin_47 (by decide) (fun v848 z849 => ?_)
          have r850 := R_eq z849
          refine r_ixor S dX10_partedKin_48 (fun v851 z852 => ?_)
          have r853 := R_any v851
          refine r_iand S dX10_partedKin_49 (fun v854 z855 => ?_)
          have r857 : R (0) (1023) v854 := i_and1 z855 r847 r853 rfl
          have e858 := i_andle z855 r847 rfl
          refine r_ki (q_S (As := [.int v854]) (rest := [.int i811]) S X828 (c_J6_bitCount_0f7a4 l G τ hI v854 (R_of (lo := -2147483648) (hi := 2147483647) r857 rfl)) ck10_73 ⟨Nat.le_of_ble_eq_true rfl, Nat.le_of_ble_eq_true rfl⟩ rfl hl.1 rfl (Nat.le_of_ble_eq_true rfl) dX10_partedKin_50 ⟨Nat.le_refl 0, Nat.le_refl 0⟩) X828 (fun v862 t861 H lc q859 X860 => ?_)
          unfold po_J6_bitCount_0f7a4 at q859
          obtain ⟨q863, q864⟩ := q859
          rw [q863] at X860
          refine r_iadd S dX10_partedKin_53 (fun v865 z866 => ?_)
          have r867 := R_any v865
          refine r_istore_n (lv' := [(1, .int v865), (0, .ref (G.2.2.2.1 22)), (2, .int i813)]) S dX10_partedKin_54 rfl hl (by decide) rfl (fun ls hl => ?_)
          refine r_iinc (k := 2) S dX10_partedKin_55 hl rfl (by decide) (by decide) (fun v868 d869 ls z870 z871 hl => ?_)
          obtain ⟨e872, r873⟩ := i_add (lo := 1) (hi := 10) z870 r822 (R_eq z871) rfl
          have hl : lv_has ls 3 [(2, .int v868), (1, .int v865), (0, .ref (G.2.2.2.1 22))] := hl
          refine r_goto (tgt := 4) S dX10_partedKin_58 (by decide) ?_
          exact ih817 _ _ _ v865 v868 X860 r867 (R_of r873 rfl) (lv_sub hl [2, 1, 0] rfl) (by omega)
  exact L816 _ _ _ _ v1 v4 X (R_of r3 rfl) (R_of r6 rfl) (lv_sub hl [2, 1, 0] rfl) (Nat.lt_succ_self _)
def po_X10_spoken (τ : Tau)  (a0 a1 : Int32)   (r : Int32) (u : Tau) : Prop := u = τ ∧ R (-9) (9) r
set_option maxHeartbeats 4000000 in
set_option maxRecDepth 100000 in
theorem c_X10_spoken (l : Launch) (G : Gx) (τ : Tau) (hI : Inv τ) (a0 : Int32) (a1 : Int32) (h_a0 : R (0) (9) a0) (h_a1 : R (0) (8) a1) : Ci l G yX10_spoken cX10_spoken 7 (some .int) 1 21 [.ref (G.2.2.2.1 22), .int a0, .int a1] τ (po_X10_spoken τ  a0 a1  ) := by
  unfold Ci
  refine C_of (own := RX10) (by decide) rfl (Nat.le_of_ble_eq_true rfl) ?_
  intro p e s m below meth c ls S hr hlk X hl
  have hl : lv_has ls 7 [(0, .ref (G.2.2.2.1 22)), (1, .int a0), (2, .int a1)] := hl
  refine r_aload_n S dX10_spoken_0 rfl (lv_at hl 0 rfl) ?_
  refine r_get (K := 22) (v := .ref (G.2.2.2.1 23)) S X (Nat.le_of_ble_eq_true rfl) rfl lk10_12_8 (fun _ => ⟨_, rfl, rfl⟩) dX10_spoken_1 ?_
  refine r_get (K := 4) (v := .ref (G.2.2.2.1 25)) S X (Nat.le_of_ble_eq_true rfl) rfl lk10_79_2 (fun _ => ⟨_, rfl, rfl⟩) dX10_spoken_4 ?_
  refine r_iload_n S dX10_spoken_7 rfl (lv_at hl 1 rfl) ?_
  refine r_aldn (n := 10) (K := 6) S X (Nat.le_of_ble_eq_true rfl) rfl (fun _ => rfl) (ix_of h_a0 rfl) dX10_spoken_8 (fun v1 z2 => ?_)
  have r3 : R (-1) (9) v1 := rd hI rfl z2
  refine r_istore_n (lv' := [(3, .int v1), (0, .ref (G.2.2.2.1 22)), (1, .int a0), (2, .int a1)]) S dX10_spoken_9 rfl hl (by decide) rfl (fun ls hl => ?_)
  refine r_iload_n S dX10_spoken_10 rfl (lv_at hl 0 rfl) ?_
  refine r_iconst S dX10_spoken_11 (by decide) (fun v4 z5 => ?_)
  have r6 := R_eq z5
  refine r_icmp_eq (tgt := 60) S dX10_spoken_12 (by decide) (fun c7 => ?_) (fun c7 => ?_)
  ·
    have r8 : R (-1) (-1) v1 := ⟨by omega, by omega⟩
    refine r_iconst S dX10_spoken_60 (by decide) (fun v9 z10 => ?_)
    have r11 := R_eq z10
    refine r_istore (lv' := [(4, .int v9), (3, .int v1), (0, .ref (G.2.2.2.1 22)), (1, .int a0), (2, .int a1)]) S dX10_spoken_61 hl (by decide) rfl (fun ls hl => ?_)
    refine r_iload S dX10_spoken_63 (lv_at hl 0 rfl) ?_
    refine r_if_eq (tgt := 72) S dX10_spoken_65 (by decide) (fun c12 => ?_) (fun c12 => ?_)
    ·
      refine r_iload_n S dX10_spoken_72 rfl (lv_at hl 3 rfl) ?_
      refine r_istore (lv' := [(5, .int a0), (4, .int v9), (3, .int v1), (0, .ref (G.2.2.2.1 22)), (1, .int a0), (2, .int a1)]) S dX10_spoken_73 hl (by decide) rfl (fun ls hl => ?_)
      refine r_iload S dX10_spoken_75 (lv_at hl 0 rfl) ?_
      refine r_bipush S dX10_spoken_77 (by decide) (fun v13 z14 => ?_)
      have r15 := R_eq z14
      refine r_imul S dX10_spoken_79 (fun v16 z17 => ?_)
      obtain ⟨e18, r19⟩ := i_mul (lo := 0) (hi := 81) z17 h_a0 r15 rfl rfl
      have e20 : v16.toInt = a0.toInt * 9 := by rw [e18, show v13.toInt = 9 by omega]
      refine r_iload_n S dX10_spoken_80 rfl (lv_at hl 5 rfl) ?_
      refine r_iadd S dX10_spoken_81 (fun v21 z22 => ?_)
      obtain ⟨e23, r24⟩ := i_add (lo := 0) (hi := 89) z22 r19 h_a1 rfl
      refine r_istore (lv' := [(6, .int v21), (5, .int a0), (4, .int v9), (3, .int v1), (0, .ref (G.2.2.2.1 22)), (1, .int a0), (2, .int a1)]) S dX10_spoken_82 hl (by decide) rfl (fun ls hl => ?_)
      refine r_aload_n S dX10_spoken_84 rfl (lv_at hl 4 rfl) ?_
      refine r_get (K := 22) (v := .ref (G.2.2.2.1 30)) S X (Nat.le_of_ble_eq_true rfl) rfl lk10_21_8 (fun _ => ⟨_, rfl, rfl⟩) dX10_spoken_85 ?_
      refine r_get (K := 23) (v := .ref (G.2.2.2.1 33)) S X (Nat.le_of_ble_eq_true rfl) rfl lk10_82_3 (fun _ => ⟨_, rfl, rfl⟩) dX10_spoken_88 ?_
      refine r_iload S dX10_spoken_91 (lv_at hl 1 rfl) ?_
      refine r_aldn (n := 10) (K := 26) S X (Nat.le_of_ble_eq_true rfl) rfl (fun _ => rfl) (ix_of h_a0 rfl) dX10_spoken_93 (fun v25 z26 => ?_)
      have r27 : R (0) (511) v25 := rd hI rfl z26
      refine r_iload_n S dX10_spoken_94 rfl (lv_at hl 6 rfl) ?_
      refine r_ki (q_N (As := [.int v25, .int a1]) (rest := []) S X (c_X11_bit l G τ hI v25 a1 (R_of (lo := -2147483648) (hi := 2147483647) r27 rfl) (R_of (lo := -2147483648) (hi := 2147483647) h_a1 rfl)) ck10_65 ⟨Nat.le_of_ble_eq_true rfl, Nat.le_of_ble_eq_true rfl⟩ rfl hl.1 rfl (Nat.le_of_ble_eq_true rfl) dX10_spoken_95 ⟨Nat.le_refl 0, Nat.le_refl 0⟩) X (fun v31 t30 H lc q28 X29 => ?_)
      unfold po_X11_bit at q28
      obtain ⟨q32, q33⟩ := q28
      rw [q32] at X29
      refine r_iconst S dX10_spoken_98 (by decide) (fun v34 z35 => ?_)
      have r36 := R_eq z35
      refine r_icmp_ne (tgt := 115) S dX10_spoken_99 (by decide) (fun c37 => ?_) (fun c37 => ?_)
      ·
        have r38 : R (0) (0) v31 := ⟨by omega, by omega⟩
        refine r_aload_n S dX10_spoken_115 rfl (lv_at hl 4 rfl) ?_
        refine r_get (K := 22) (v := .ref (G.2.2.2.1 30)) S X29 (Nat.le_of_ble_eq_true rfl) rfl lk10_21_8 (fun _ => ⟨_, rfl, rfl⟩) dX10_spoken_116 ?_
        refine r_get (K := 23) (v := .ref (G.2.2.2.1 31)) S X29 (Nat.le_of_ble_eq_true rfl) rfl lk10_88_3 (fun _ => ⟨_, rfl, rfl⟩) dX10_spoken_119 ?_
        refine r_iload S dX10_spoken_122 (lv_at hl 0 rfl) ?_
        refine r_aldn (n := 90) (K := 24) S X29 (Nat.le_of_ble_eq_true rfl) rfl (fun _ => rfl) (ix_of r24 rfl) dX10_spoken_124 (fun v39 z40 => ?_)
        have r41 : R (-9) (9) v39 := rd hI rfl z40
        exact r_ret S hr hlk X29 ⟨rfl, r41⟩ rfl dX10_spoken_125
      ·
        have r42 : R (1) (1) v31 := ⟨by omega, by omega⟩
        refine r_aload_n S dX10_spoken_102 rfl (lv_at hl 4 rfl) ?_
        refine r_get (K := 22) (v := .ref (G.2.2.2.1 30)) S X29 (Nat.le_of_ble_eq_true rfl) rfl lk10_21_8 (fun _ => ⟨_, rfl, rfl⟩) dX10_spoken_103 ?_
        refine r_get (K := 23) (v := .ref (G.2.2.2.1 32)) S X29 (Nat.le_of_ble_eq_true rfl) rfl lk10_85_3 (fun _ => ⟨_, rfl, rfl⟩) dX10_spoken_106 ?_
        refine r_iload S dX10_spoken_109 (lv_at hl 0 rfl) ?_
        refine r_aldn (n := 90) (K := 25) S X29 (Nat.le_of_ble_eq_true rfl) rfl (fun _ => rfl) (ix_of r24 rfl) dX10_spoken_111 (fun v43 z44 => ?_)
        have r45 : R (-9) (9) v43 := rd hI rfl z44
        refine r_goto (tgt := 125) S dX10_spoken_112 (by decide) ?_
        exact r_ret S hr hlk X29 ⟨rfl, r45⟩ rfl dX10_spoken_125
    ·
      exfalso; omega
  ·
    have r46 : R (0) (9) v1 := ⟨by omega, by omega⟩
    refine r_aload_n S dX10_spoken_15 rfl (lv_at hl 1 rfl) ?_
    refine r_get (K := 22) (v := .ref (G.2.2.2.1 30)) S X (Nat.le_of_ble_eq_true rfl) rfl lk10_21_8 (fun _ => ⟨_, rfl, rfl⟩) dX10_spoken_16 ?_
    refine r_get (K := 23) (v := .ref (G.2.2.2.1 33)) S X (Nat.le_of_ble_eq_true rfl) rfl lk10_82_3 (fun _ => ⟨_, rfl, rfl⟩) dX10_spoken_19 ?_
    refine r_iload_n S dX10_spoken_22 rfl (lv_at hl 2 rfl) ?_
    refine r_aldn (n := 10) (K := 26) S X (Nat.le_of_ble_eq_true rfl) rfl (fun _ => rfl) (ix_of h_a0 rfl) dX10_spoken_23 (fun v47 z48 => ?_)
    have r49 : R (0) (511) v47 := rd hI rfl z48
    refine r_iload_n S dX10_spoken_24 rfl (lv_at hl 3 rfl) ?_
    refine r_ki (q_N (As := [.int v47, .int a1]) (rest := []) S X (c_X11_bit l G τ hI v47 a1 (R_of (lo := -2147483648) (hi := 2147483647) r49 rfl) (R_of (lo := -2147483648) (hi := 2147483647) h_a1 rfl)) ck10_65 ⟨Nat.le_of_ble_eq_true rfl, Nat.le_of_ble_eq_true rfl⟩ rfl hl.1 rfl (Nat.le_of_ble_eq_true rfl) dX10_spoken_25 ⟨Nat.le_refl 0, Nat.le_refl 0⟩) X (fun v53 t52 H lc q50 X51 => ?_)
    unfold po_X11_bit at q50
    obtain ⟨q54, q55⟩ := q50
    rw [q54] at X51
    refine r_if_ne (tgt := 60) S dX10_spoken_28 (by decide) (fun c56 => ?_) (fun c56 => ?_)
    ·
      have r57 : R (1) (1) v53 := ⟨by omega, by omega⟩
      refine r_iconst S dX10_spoken_60 (by decide) (fun v58 z59 => ?_)
      have r60 := R_eq z59
      refine r_istore (lv' := [(4, .int v58), (3, .int v1), (0, .ref (G.2.2.2.1 22)), (1, .int a0), (2, .int a1)]) S dX10_spoken_61 hl (by decide) rfl (fun ls hl => ?_)
      refine r_iload S dX10_spoken_63 (lv_at hl 0 rfl) ?_
      refine r_if_eq (tgt := 72) S dX10_spoken_65 (by decide) (fun c61 => ?_) (fun c61 => ?_)
      ·
        refine r_iload_n S dX10_spoken_72 rfl (lv_at hl 3 rfl) ?_
        refine r_istore (lv' := [(5, .int a0), (4, .int v58), (3, .int v1), (0, .ref (G.2.2.2.1 22)), (1, .int a0), (2, .int a1)]) S dX10_spoken_73 hl (by decide) rfl (fun ls hl => ?_)
        refine r_iload S dX10_spoken_75 (lv_at hl 0 rfl) ?_
        refine r_bipush S dX10_spoken_77 (by decide) (fun v62 z63 => ?_)
        have r64 := R_eq z63
        refine r_imul S dX10_spoken_79 (fun v65 z66 => ?_)
        obtain ⟨e67, r68⟩ := i_mul (lo := 0) (hi := 81) z66 h_a0 r64 rfl rfl
        have e69 : v65.toInt = a0.toInt * 9 := by rw [e67, show v62.toInt = 9 by omega]
        refine r_iload_n S dX10_spoken_80 rfl (lv_at hl 5 rfl) ?_
        refine r_iadd S dX10_spoken_81 (fun v70 z71 => ?_)
        obtain ⟨e72, r73⟩ := i_add (lo := 0) (hi := 89) z71 r68 h_a1 rfl
        refine r_istore (lv' := [(6, .int v70), (5, .int a0), (4, .int v58), (3, .int v1), (0, .ref (G.2.2.2.1 22)), (1, .int a0), (2, .int a1)]) S dX10_spoken_82 hl (by decide) rfl (fun ls hl => ?_)
        refine r_aload_n S dX10_spoken_84 rfl (lv_at hl 4 rfl) ?_
        refine r_get (K := 22) (v := .ref (G.2.2.2.1 30)) S X51 (Nat.le_of_ble_eq_true rfl) rfl lk10_21_8 (fun _ => ⟨_, rfl, rfl⟩) dX10_spoken_85 ?_
        refine r_get (K := 23) (v := .ref (G.2.2.2.1 33)) S X51 (Nat.le_of_ble_eq_true rfl) rfl lk10_82_3 (fun _ => ⟨_, rfl, rfl⟩) dX10_spoken_88 ?_
        refine r_iload S dX10_spoken_91 (lv_at hl 1 rfl) ?_
        refine r_aldn (n := 10) (K := 26) S X51 (Nat.le_of_ble_eq_true rfl) rfl (fun _ => rfl) (ix_of h_a0 rfl) dX10_spoken_93 (fun v74 z75 => ?_)
        have r76 : R (0) (511) v74 := rd hI rfl z75
        refine r_iload_n S dX10_spoken_94 rfl (lv_at hl 6 rfl) ?_
        refine r_ki (q_N (As := [.int v74, .int a1]) (rest := []) S X51 (c_X11_bit l G τ hI v74 a1 (R_of (lo := -2147483648) (hi := 2147483647) r76 rfl) (R_of (lo := -2147483648) (hi := 2147483647) h_a1 rfl)) ck10_65 ⟨Nat.le_of_ble_eq_true rfl, Nat.le_of_ble_eq_true rfl⟩ rfl hl.1 rfl (Nat.le_of_ble_eq_true rfl) dX10_spoken_95 ⟨Nat.le_refl 0, Nat.le_refl 0⟩) X51 (fun v80 t79 H lc q77 X78 => ?_)
        unfold po_X11_bit at q77
        obtain ⟨q81, q82⟩ := q77
        rw [q81] at X78
        refine r_iconst S dX10_spoken_98 (by decide) (fun v83 z84 => ?_)
        have r85 := R_eq z84
        refine r_icmp_ne (tgt := 115) S dX10_spoken_99 (by decide) (fun c86 => ?_) (fun c86 => ?_)
        ·
          have r87 : R (0) (0) v80 := ⟨by omega, by omega⟩
          refine r_aload_n S dX10_spoken_115 rfl (lv_at hl 4 rfl) ?_
          refine r_get (K := 22) (v := .ref (G.2.2.2.1 30)) S X78 (Nat.le_of_ble_eq_true rfl) rfl lk10_21_8 (fun _ => ⟨_, rfl, rfl⟩) dX10_spoken_116 ?_
          refine r_get (K := 23) (v := .ref (G.2.2.2.1 31)) S X78 (Nat.le_of_ble_eq_true rfl) rfl lk10_88_3 (fun _ => ⟨_, rfl, rfl⟩) dX10_spoken_119 ?_
          refine r_iload S dX10_spoken_122 (lv_at hl 0 rfl) ?_
          refine r_aldn (n := 90) (K := 24) S X78 (Nat.le_of_ble_eq_true rfl) rfl (fun _ => rfl) (ix_of r73 rfl) dX10_spoken_124 (fun v88 z89 => ?_)
          have r90 : R (-9) (9) v88 := rd hI rfl z89
          exact r_ret S hr hlk X78 ⟨rfl, r90⟩ rfl dX10_spoken_125
        ·
          have r91 : R (1) (1) v80 := ⟨by omega, by omega⟩
          refine r_aload_n S dX10_spoken_102 rfl (lv_at hl 4 rfl) ?_
          refine r_get (K := 22) (v := .ref (G.2.2.2.1 30)) S X78 (Nat.le_of_ble_eq_true rfl) rfl lk10_21_8 (fun _ => ⟨_, rfl, rfl⟩) dX10_spoken_103 ?_
          refine r_get (K := 23) (v := .ref (G.2.2.2.1 32)) S X78 (Nat.le_of_ble_eq_true rfl) rfl lk10_85_3 (fun _ => ⟨_, rfl, rfl⟩) dX10_spoken_106 ?_
          refine r_iload S dX10_spoken_109 (lv_at hl 0 rfl) ?_
          refine r_aldn (n := 90) (K := 25) S X78 (Nat.le_of_ble_eq_true rfl) rfl (fun _ => rfl) (ix_of r73 rfl) dX10_spoken_111 (fun v92 z93 => ?_)
          have r94 : R (-9) (9) v92 := rd hI rfl z93
          refine r_goto (tgt := 125) S dX10_spoken_112 (by decide) ?_
          exact r_ret S hr hlk X78 ⟨rfl, r94⟩ rfl dX10_spoken_125
      ·
        exfalso; omega
    ·
      have r95 : R (0) (0) v53 := ⟨by omega, by omega⟩
      refine r_aload_n S dX10_spoken_31 rfl (lv_at hl 1 rfl) ?_
      refine r_get (K := 22) (v := .ref (G.2.2.2.1 30)) S X51 (Nat.le_of_ble_eq_true rfl) rfl lk10_21_8 (fun _ => ⟨_, rfl, rfl⟩) dX10_spoken_32 ?_
      refine r_getn (K := 23) S X51 (Nat.le_of_ble_eq_true rfl) rfl lk10_62_3 (fun _ => ⟨_, rfl, rfl⟩) dX10_spoken_35 (fun v96 z97 => ?_)
      have r98 : R (0) (1023) v96 := rd hI rfl z97
      refine r_iload_n S dX10_spoken_38 rfl (lv_at hl 2 rfl) ?_
      refine r_ki (q_N (As := [.int v96, .int a0]) (rest := []) S X51 (c_X11_bit l G τ hI v96 a0 (R_of (lo := -2147483648) (hi := 2147483647) r98 rfl) (R_of (lo := -2147483648) (hi := 2147483647) h_a0 rfl)) ck10_65 ⟨Nat.le_of_ble_eq_true rfl, Nat.le_of_ble_eq_true rfl⟩ rfl hl.1 rfl (Nat.le_of_ble_eq_true rfl) dX10_spoken_39 ⟨Nat.le_refl 0, Nat.le_refl 0⟩) X51 (fun v102 t101 H lc q99 X100 => ?_)
      unfold po_X11_bit at q99
      obtain ⟨q103, q104⟩ := q99
      rw [q103] at X100
      refine r_aload_n S dX10_spoken_42 rfl (lv_at hl 1 rfl) ?_
      refine r_get (K := 22) (v := .ref (G.2.2.2.1 30)) S X100 (Nat.le_of_ble_eq_true rfl) rfl lk10_21_8 (fun _ => ⟨_, rfl, rfl⟩) dX10_spoken_43 ?_
      refine r_geti (K := 23) S X100 (Nat.le_of_ble_eq_true rfl) rfl lk10_62_3 (fun _ => ⟨_, rfl, rfl⟩) z97 dX10_spoken_46 ?_
      refine r_iload_n S dX10_spoken_49 rfl (lv_at hl 0 rfl) ?_
      refine r_ki (q_N (As := [.int v96, .int v1]) (rest := [.int v102]) S X100 (c_X11_bit l G τ hI v96 v1 (R_of (lo := -2147483648) (hi := 2147483647) r98 rfl) (R_of (lo := -2147483648) (hi := 2147483647) r46 rfl)) ck10_65 ⟨Nat.le_of_ble_eq_true rfl, Nat.le_of_ble_eq_true rfl⟩ rfl hl.1 rfl (Nat.le_of_ble_eq_true rfl) dX10_spoken_50 ⟨Nat.le_refl 0, Nat.le_refl 0⟩) X100 (fun v108 t107 H lc q105 X106 => ?_)
      unfold po_X11_bit at q105
      obtain ⟨q109, q110⟩ := q105
      rw [q109] at X106
      refine r_icmp_ne (tgt := 60) S dX10_spoken_53 (by decide) (fun c111 => ?_) (fun c111 => ?_)
      ·
        refine r_iconst S dX10_spoken_60 (by decide) (fun v112 z113 => ?_)
        have r114 := R_eq z113
        refine r_istore (lv' := [(4, .int v112), (3, .int v1), (0, .ref (G.2.2.2.1 22)), (1, .int a0), (2, .int a1)]) S dX10_spoken_61 hl (by decide) rfl (fun ls hl => ?_)
        refine r_iload S dX10_spoken_63 (lv_at hl 0 rfl) ?_
        refine r_if_eq (tgt := 72) S dX10_spoken_65 (by decide) (fun c115 => ?_) (fun c115 => ?_)
        ·
          refine r_iload_n S dX10_spoken_72 rfl (lv_at hl 3 rfl) ?_
          refine r_istore (lv' := [(5, .int a0), (4, .int v112), (3, .int v1), (0, .ref (G.2.2.2.1 22)), (1, .int a0), (2, .int a1)]) S dX10_spoken_73 hl (by decide) rfl (fun ls hl => ?_)
          refine r_iload S dX10_spoken_75 (lv_at hl 0 rfl) ?_
          refine r_bipush S dX10_spoken_77 (by decide) (fun v116 z117 => ?_)
          have r118 := R_eq z117
          refine r_imul S dX10_spoken_79 (fun v119 z120 => ?_)
          obtain ⟨e121, r122⟩ := i_mul (lo := 0) (hi := 81) z120 h_a0 r118 rfl rfl
          have e123 : v119.toInt = a0.toInt * 9 := by rw [e121, show v116.toInt = 9 by omega]
          refine r_iload_n S dX10_spoken_80 rfl (lv_at hl 5 rfl) ?_
          refine r_iadd S dX10_spoken_81 (fun v124 z125 => ?_)
          obtain ⟨e126, r127⟩ := i_add (lo := 0) (hi := 89) z125 r122 h_a1 rfl
          refine r_istore (lv' := [(6, .int v124), (5, .int a0), (4, .int v112), (3, .int v1), (0, .ref (G.2.2.2.1 22)), (1, .int a0), (2, .int a1)]) S dX10_spoken_82 hl (by decide) rfl (fun ls hl => ?_)
          refine r_aload_n S dX10_spoken_84 rfl (lv_at hl 4 rfl) ?_
          refine r_get (K := 22) (v := .ref (G.2.2.2.1 30)) S X106 (Nat.le_of_ble_eq_true rfl) rfl lk10_21_8 (fun _ => ⟨_, rfl, rfl⟩) dX10_spoken_85 ?_
          refine r_get (K := 23) (v := .ref (G.2.2.2.1 33)) S X106 (Nat.le_of_ble_eq_true rfl) rfl lk10_82_3 (fun _ => ⟨_, rfl, rfl⟩) dX10_spoken_88 ?_
          refine r_iload S dX10_spoken_91 (lv_at hl 1 rfl) ?_
          refine r_aldn (n := 10) (K := 26) S X106 (Nat.le_of_ble_eq_true rfl) rfl (fun _ => rfl) (ix_of h_a0 rfl) dX10_spoken_93 (fun v128 z129 => ?_)
          have r130 : R (0) (511) v128 := rd hI rfl z129
          refine r_iload_n S dX10_spoken_94 rfl (lv_at hl 6 rfl) ?_
          refine r_ki (q_N (As := [.int v128, .int a1]) (rest := []) S X106 (c_X11_bit l G τ hI v128 a1 (R_of (lo := -2147483648) (hi := 2147483647) r130 rfl) (R_of (lo := -2147483648) (hi := 2147483647) h_a1 rfl)) ck10_65 ⟨Nat.le_of_ble_eq_true rfl, Nat.le_of_ble_eq_true rfl⟩ rfl hl.1 rfl (Nat.le_of_ble_eq_true rfl) dX10_spoken_95 ⟨Nat.le_refl 0, Nat.le_refl 0⟩) X106 (fun v134 t133 H lc q131 X132 => ?_)
          unfold po_X11_bit at q131
          obtain ⟨q135, q136⟩ := q131
          rw [q135] at X132
          refine r_iconst S dX10_spoken_98 (by decide) (fun v137 z138 => ?_)
          have r139 := R_eq z138
          refine r_icmp_ne (tgt := 115) S dX10_spoken_99 (by decide) (fun c140 => ?_) (fun c140 => ?_)
          ·
            have r141 : R (0) (0) v134 := ⟨by omega, by omega⟩
            refine r_aload_n S dX10_spoken_115 rfl (lv_at hl 4 rfl) ?_
            refine r_get (K := 22) (v := .ref (G.2.2.2.1 30)) S X132 (Nat.le_of_ble_eq_true rfl) rfl lk10_21_8 (fun _ => ⟨_, rfl, rfl⟩) dX10_spoken_116 ?_
            refine r_get (K := 23) (v := .ref (G.2.2.2.1 31)) S X132 (Nat.le_of_ble_eq_true rfl) rfl lk10_88_3 (fun _ => ⟨_, rfl, rfl⟩) dX10_spoken_119 ?_
            refine r_iload S dX10_spoken_122 (lv_at hl 0 rfl) ?_
            refine r_aldn (n := 90) (K := 24) S X132 (Nat.le_of_ble_eq_true rfl) rfl (fun _ => rfl) (ix_of r127 rfl) dX10_spoken_124 (fun v142 z143 => ?_)
            have r144 : R (-9) (9) v142 := rd hI rfl z143
            exact r_ret S hr hlk X132 ⟨rfl, r144⟩ rfl dX10_spoken_125
          ·
            have r145 : R (1) (1) v134 := ⟨by omega, by omega⟩
            refine r_aload_n S dX10_spoken_102 rfl (lv_at hl 4 rfl) ?_
            refine r_get (K := 22) (v := .ref (G.2.2.2.1 30)) S X132 (Nat.le_of_ble_eq_true rfl) rfl lk10_21_8 (fun _ => ⟨_, rfl, rfl⟩) dX10_spoken_103 ?_
            refine r_get (K := 23) (v := .ref (G.2.2.2.1 32)) S X132 (Nat.le_of_ble_eq_true rfl) rfl lk10_85_3 (fun _ => ⟨_, rfl, rfl⟩) dX10_spoken_106 ?_
            refine r_iload S dX10_spoken_109 (lv_at hl 0 rfl) ?_
            refine r_aldn (n := 90) (K := 25) S X132 (Nat.le_of_ble_eq_true rfl) rfl (fun _ => rfl) (ix_of r127 rfl) dX10_spoken_111 (fun v146 z147 => ?_)
            have r148 : R (-9) (9) v146 := rd hI rfl z147
            refine r_goto (tgt := 125) S dX10_spoken_112 (by decide) ?_
            exact r_ret S hr hlk X132 ⟨rfl, r148⟩ rfl dX10_spoken_125
        ·
          exfalso; omega
      ·
        refine r_iconst S dX10_spoken_56 (by decide) (fun v149 z150 => ?_)
        have r151 := R_eq z150
        refine r_goto (tgt := 61) S dX10_spoken_57 (by decide) ?_
        refine r_istore (lv' := [(4, .int v149), (3, .int v1), (0, .ref (G.2.2.2.1 22)), (1, .int a0), (2, .int a1)]) S dX10_spoken_61 hl (by decide) rfl (fun ls hl => ?_)
        refine r_iload S dX10_spoken_63 (lv_at hl 0 rfl) ?_
        refine r_if_eq (tgt := 72) S dX10_spoken_65 (by decide) (fun c152 => ?_) (fun c152 => ?_)
        ·
          exfalso; omega
        ·
          refine r_iload_n S dX10_spoken_68 rfl (lv_at hl 1 rfl) ?_
          refine r_goto (tgt := 73) S dX10_spoken_69 (by decide) ?_
          refine r_istore (lv' := [(5, .int v1), (4, .int v149), (3, .int v1), (0, .ref (G.2.2.2.1 22)), (1, .int a0), (2, .int a1)]) S dX10_spoken_73 hl (by decide) rfl (fun ls hl => ?_)
          refine r_iload S dX10_spoken_75 (lv_at hl 0 rfl) ?_
          refine r_bipush S dX10_spoken_77 (by decide) (fun v153 z154 => ?_)
          have r155 := R_eq z154
          refine r_imul S dX10_spoken_79 (fun v156 z157 => ?_)
          obtain ⟨e158, r159⟩ := i_mul (lo := 0) (hi := 81) z157 r46 r155 rfl rfl
          have e160 : v156.toInt = v1.toInt * 9 := by rw [e158, show v153.toInt = 9 by omega]
          refine r_iload_n S dX10_spoken_80 rfl (lv_at hl 5 rfl) ?_
          refine r_iadd S dX10_spoken_81 (fun v161 z162 => ?_)
          obtain ⟨e163, r164⟩ := i_add (lo := 0) (hi := 89) z162 r159 h_a1 rfl
          refine r_istore (lv' := [(6, .int v161), (5, .int v1), (4, .int v149), (3, .int v1), (0, .ref (G.2.2.2.1 22)), (1, .int a0), (2, .int a1)]) S dX10_spoken_82 hl (by decide) rfl (fun ls hl => ?_)
          refine r_aload_n S dX10_spoken_84 rfl (lv_at hl 4 rfl) ?_
          refine r_get (K := 22) (v := .ref (G.2.2.2.1 30)) S X106 (Nat.le_of_ble_eq_true rfl) rfl lk10_21_8 (fun _ => ⟨_, rfl, rfl⟩) dX10_spoken_85 ?_
          refine r_get (K := 23) (v := .ref (G.2.2.2.1 33)) S X106 (Nat.le_of_ble_eq_true rfl) rfl lk10_82_3 (fun _ => ⟨_, rfl, rfl⟩) dX10_spoken_88 ?_
          refine r_iload S dX10_spoken_91 (lv_at hl 1 rfl) ?_
          refine r_aldn (n := 10) (K := 26) S X106 (Nat.le_of_ble_eq_true rfl) rfl (fun _ => rfl) (ix_of r46 rfl) dX10_spoken_93 (fun v165 z166 => ?_)
          have r167 : R (0) (511) v165 := rd hI rfl z166
          refine r_iload_n S dX10_spoken_94 rfl (lv_at hl 6 rfl) ?_
          refine r_ki (q_N (As := [.int v165, .int a1]) (rest := []) S X106 (c_X11_bit l G τ hI v165 a1 (R_of (lo := -2147483648) (hi := 2147483647) r167 rfl) (R_of (lo := -2147483648) (hi := 2147483647) h_a1 rfl)) ck10_65 ⟨Nat.le_of_ble_eq_true rfl, Nat.le_of_ble_eq_true rfl⟩ rfl hl.1 rfl (Nat.le_of_ble_eq_true rfl) dX10_spoken_95 ⟨Nat.le_refl 0, Nat.le_refl 0⟩) X106 (fun v171 t170 H lc q168 X169 => ?_)
          unfold po_X11_bit at q168
          obtain ⟨q172, q173⟩ := q168
          rw [q172] at X169
          refine r_iconst S dX10_spoken_98 (by decide) (fun v174 z175 => ?_)
          have r176 := R_eq z175
          refine r_icmp_ne (tgt := 115) S dX10_spoken_99 (by decide) (fun c177 => ?_) (fun c177 => ?_)
          ·
            have r178 : R (0) (0) v171 := ⟨by omega, by omega⟩
            refine r_aload_n S dX10_spoken_115 rfl (lv_at hl 4 rfl) ?_
            refine r_get (K := 22) (v := .ref (G.2.2.2.1 30)) S X169 (Nat.le_of_ble_eq_true rfl) rfl lk10_21_8 (fun _ => ⟨_, rfl, rfl⟩) dX10_spoken_116 ?_
            refine r_get (K := 23) (v := .ref (G.2.2.2.1 31)) S X169 (Nat.le_of_ble_eq_true rfl) rfl lk10_88_3 (fun _ => ⟨_, rfl, rfl⟩) dX10_spoken_119 ?_
            refine r_iload S dX10_spoken_122 (lv_at hl 0 rfl) ?_
            refine r_aldn (n := 90) (K := 24) S X169 (Nat.le_of_ble_eq_true rfl) rfl (fun _ => rfl) (ix_of r164 rfl) dX10_spoken_124 (fun v179 z180 => ?_)
            have r181 : R (-9) (9) v179 := rd hI rfl z180
            exact r_ret S hr hlk X169 ⟨rfl, r181⟩ rfl dX10_spoken_125
          ·
            have r182 : R (1) (1) v171 := ⟨by omega, by omega⟩
            refine r_aload_n S dX10_spoken_102 rfl (lv_at hl 4 rfl) ?_
            refine r_get (K := 22) (v := .ref (G.2.2.2.1 30)) S X169 (Nat.le_of_ble_eq_true rfl) rfl lk10_21_8 (fun _ => ⟨_, rfl, rfl⟩) dX10_spoken_103 ?_
            refine r_get (K := 23) (v := .ref (G.2.2.2.1 32)) S X169 (Nat.le_of_ble_eq_true rfl) rfl lk10_85_3 (fun _ => ⟨_, rfl, rfl⟩) dX10_spoken_106 ?_
            refine r_iload S dX10_spoken_109 (lv_at hl 0 rfl) ?_
            refine r_aldn (n := 90) (K := 25) S X169 (Nat.le_of_ble_eq_true rfl) rfl (fun _ => rfl) (ix_of r164 rfl) dX10_spoken_111 (fun v183 z184 => ?_)
            have r185 : R (-9) (9) v183 := rd hI rfl z184
            refine r_goto (tgt := 125) S dX10_spoken_112 (by decide) ?_
            exact r_ret S hr hlk X169 ⟨rfl, r185⟩ rfl dX10_spoken_125
def po_X10_together (τ : Tau)  (a0 a1 : Int32)   (r : Int32) (u : Tau) : Prop := u = τ
set_option maxHeartbeats 4000000 in
set_option maxRecDepth 100000 in
theorem c_X10_together (l : Launch) (G : Gx) (τ : Tau) (hI : Inv τ) (a0 : Int32) (a1 : Int32) (h_a0 : R (-2147483648) (2147483647) a0) (h_a1 : R (0) (8) a1) : Ci l G yX10_together cX10_together 6 (some .int) 2 47 [.ref (G.2.2.2.1 22), .int a0, .int a1] τ (po_X10_together τ  a0 a1  ) := by
  unfold Ci
  refine C_of (own := RX10) (by decide) rfl (Nat.le_of_ble_eq_true rfl) ?_
  intro p e s m below meth c ls S hr hlk X hl
  have hl : lv_has ls 6 [(0, .ref (G.2.2.2.1 22)), (1, .int a0), (2, .int a1)] := hl
  refine r_iload_n S dX10_together_0 rfl (lv_at hl 1 rfl) ?_
  refine r_aload_n S dX10_together_1 rfl (lv_at hl 0 rfl) ?_
  refine r_get (K := 22) (v := .ref (G.2.2.2.1 30)) S X (Nat.le_of_ble_eq_true rfl) rfl lk10_21_8 (fun _ => ⟨_, rfl, rfl⟩) dX10_together_2 ?_
  refine r_getn (K := 23) S X (Nat.le_of_ble_eq_true rfl) rfl lk10_91_3 (fun _ => ⟨_, rfl, rfl⟩) dX10_together_5 (fun v1 z2 => ?_)
  have r3 : R (0) (1023) v1 := rd hI rfl z2
  refine r_iconst S dX10_together_8 (by decide) (fun v4 z5 => ?_)
  have r6 := R_eq z5
  refine r_ixor S dX10_together_9 (fun v7 z8 => ?_)
  have r9 := R_any v7
  refine r_iand S dX10_together_10 (fun v10 z11 => ?_)
  have r12 := R_any v10
  refine r_istore_n (lv' := [(3, .int v10), (0, .ref (G.2.2.2.1 22)), (1, .int a0), (2, .int a1)]) S dX10_together_11 rfl hl (by decide) rfl (fun ls hl => ?_)
  refine r_iconst S dX10_together_12 (by decide) (fun v13 z14 => ?_)
  have r15 := R_eq z14
  refine r_istore (lv' := [(4, .int v13), (3, .int v10), (0, .ref (G.2.2.2.1 22)), (1, .int a0), (2, .int a1)]) S dX10_together_13 hl (by decide) rfl (fun ls hl => ?_)
  refine r_iconst S dX10_together_15 (by decide) (fun v16 z17 => ?_)
  have r18 := R_eq z17
  refine r_istore (lv' := [(5, .int v16), (4, .int v13), (3, .int v10), (0, .ref (G.2.2.2.1 22)), (1, .int a0), (2, .int a1)]) S dX10_together_16 hl (by decide) rfl (fun ls hl => ?_)
  have L335 : ∀ (n : Nat) (H : Heap) (lc : List Loc) (ls : Array Slot) (i330 : Int32) (i332 : Int32), Xd G s H lc τ → R (-2147483648) (2147483647) i330 → R (0) (10) i332 → lv_has ls 6 [(0, .ref (G.2.2.2.1 22)), (2, .int a1), (3, .int v10), (4, .int i330), (5, .int i332)] → (10 - i332.toInt).toNat < n → W p l e (Rm 2 47) s m ([.ref (G.2.2.2.1 22), .int a0, .int a1] : List Value).toArray below meth c H lc 0 0 (MQ below (va_Qi (po_X10_together τ  a0 a1  ) (Bs G) G.2.2.2.2) ([.ref (G.2.2.2.1 22), .int a0, .int a1] : List Value).toArray s 0 0 G.2.2.2.2) (F0 m 18 ls []) := by
    intro n
    induction n with
    | zero => intros; omega
    | succ n ih336 =>
      intro H lc ls i330 i332 X334 r331 r333 hl hm
      refine r_iload S dX10_together_18 (lv_at hl 4 rfl) ?_
      refine r_aload_n S dX10_together_20 rfl (lv_at hl 0 rfl) ?_
      refine r_get (K := 22) (v := .ref (G.2.2.2.1 23)) S X334 (Nat.le_of_ble_eq_true rfl) rfl lk10_12_8 (fun _ => ⟨_, rfl, rfl⟩) dX10_together_21 ?_
      refine r_getn (K := 4) S X334 (Nat.le_of_ble_eq_true rfl) rfl lk10_49_2 (fun _ => ⟨_, rfl, rfl⟩) dX10_together_24 (fun v337 z338 => ?_)
      have r339 : R (0) (10) v337 := rd hI rfl z338
      refine r_icmp_ge (tgt := 58) S dX10_together_27 (by decide) (fun c340 => ?_) (fun c340 => ?_)
      ·
        refine r_iload S dX10_together_58 (lv_at hl 3 rfl) ?_
        exact r_ret S hr hlk X334 rfl rfl dX10_together_60
      ·
        have r341 : R (0) (9) i332 := ⟨by omega, by omega⟩
        have r342 : R (1) (10) v337 := ⟨by omega, by omega⟩
        refine r_iload_n S dX10_together_30 rfl (lv_at hl 2 rfl) ?_
        refine r_iload S dX10_together_31 (lv_at hl 4 rfl) ?_
        refine r_ki (q_N (As := [.int v10, .int i332]) (rest := []) S X334 (c_X11_bit l G τ hI v10 i332 r12 (R_of (lo := -2147483648) (hi := 2147483647) r341 rfl)) ck10_65 ⟨Nat.le_of_ble_eq_true rfl, Nat.le_of_ble_eq_true rfl⟩ rfl hl.1 rfl (Nat.le_of_ble_eq_true rfl) dX10_together_33 ⟨Nat.le_refl 0, Nat.le_refl 0⟩) X334 (fun v346 t345 H lc q343 X344 => ?_)
        unfold po_X11_bit at q343
        obtain ⟨q347, q348⟩ := q343
        rw [q347] at X344
        refine r_iconst S dX10_together_36 (by decide) (fun v349 z350 => ?_)
        have r351 := R_eq z350
        refine r_icmp_ne (tgt := 52) S dX10_together_37 (by decide) (fun c352 => ?_) (fun c352 => ?_)
        ·
          have r353 : R (0) (0) v346 := ⟨by omega, by omega⟩
          refine r_iinc (k := 4) S dX10_together_52 hl rfl (by decide) (by decide) (fun v354 d355 ls z356 z357 hl => ?_)
          obtain ⟨e358, r359⟩ := i_add (lo := 1) (hi := 10) z356 r341 (R_eq z357) rfl
          have hl : lv_has ls 6 [(5, .int v354), (0, .ref (G.2.2.2.1 22)), (2, .int a1), (3, .int v10), (4, .int i330)] := hl
          refine r_goto (tgt := 18) S dX10_together_55 (by decide) ?_
          exact ih336 _ _ _ i330 v354 X344 r331 (R_of r359 rfl) (lv_sub hl [1, 2, 3, 4, 0] rfl) (by omega)
        ·
          have r360 : R (1) (1) v346 := ⟨by omega, by omega⟩
          refine r_iload S dX10_together_40 (lv_at hl 3 rfl) ?_
          refine r_aload_n S dX10_together_42 rfl (lv_at hl 0 rfl) ?_
          refine r_iload S dX10_together_43 (lv_at hl 4 rfl) ?_
          refine r_iload_n S dX10_together_45 rfl (lv_at hl 1 rfl) ?_
          refine r_ki (q_V (As := [.int i332, .int a1]) (rest := [.int i330]) (K := 22) (ci := 8) S X344 (c_X10_spoken l G τ hI i332 a1 r341 h_a1) ck10_94 (Nat.le_of_ble_eq_true rfl) rfl (fun _ => ⟨_, rfl⟩) ⟨_, _, rfl⟩ ⟨Nat.le_of_ble_eq_true rfl, Nat.le_of_ble_eq_true rfl⟩ rfl hl.1 rfl (Nat.le_of_ble_eq_true rfl) dX10_together_46 ⟨Nat.le_refl 0, Nat.le_refl 0⟩) X344 (fun v364 t363 H lc q361 X362 => ?_)
          unfold po_X10_spoken at q361
          obtain ⟨q365, q366⟩ := q361
          rw [q365] at X362
          refine r_iadd S dX10_together_49 (fun v367 z368 => ?_)
          have r369 := R_any v367
          refine r_istore (lv' := [(4, .int v367), (0, .ref (G.2.2.2.1 22)), (2, .int a1), (3, .int v10), (5, .int i332)]) S dX10_together_50 hl (by decide) rfl (fun ls hl => ?_)
          refine r_iinc (k := 4) S dX10_together_52 hl rfl (by decide) (by decide) (fun v370 d371 ls z372 z373 hl => ?_)
          obtain ⟨e374, r375⟩ := i_add (lo := 1) (hi := 10) z372 r341 (R_eq z373) rfl
          have hl : lv_has ls 6 [(5, .int v370), (4, .int v367), (0, .ref (G.2.2.2.1 22)), (2, .int a1), (3, .int v10)] := hl
          refine r_goto (tgt := 18) S dX10_together_55 (by decide) ?_
          exact ih336 _ _ _ v367 v370 X362 r369 (R_of r375 rfl) (lv_sub hl [2, 3, 4, 1, 0] rfl) (by omega)
  exact L335 _ _ _ _ v13 v16 X (R_of r15 rfl) (R_of r18 rfl) (lv_sub hl [3, 5, 2, 1, 0] rfl) (Nat.lt_succ_self _)
def po_X10_areFoes (τ : Tau)  (a0 a1 : Int32)   (r : Int32) (u : Tau) : Prop := u = τ ∧ R (0) (1) r
set_option maxHeartbeats 4000000 in
set_option maxRecDepth 100000 in
theorem c_X10_areFoes (l : Launch) (G : Gx) (τ : Tau) (hI : Inv τ) (a0 : Int32) (a1 : Int32) (h_a0 : R (0) (9) a0) (h_a1 : R (0) (9) a1) : Ci l G yX10_areFoes cX10_areFoes 8 (some .boolean) 2 47 [.ref (G.2.2.2.1 22), .int a0, .int a1] τ (po_X10_areFoes τ  a0 a1  ) := by
  unfold Ci
  refine C_of (own := RX10) (by decide) rfl (Nat.le_of_ble_eq_true rfl) ?_
  intro p e s m below meth c ls S hr hlk X hl
  have hl : lv_has ls 8 [(0, .ref (G.2.2.2.1 22)), (1, .int a0), (2, .int a1)] := hl
  refine r_iconst S dX10_areFoes_0 (by decide) (fun v1 z2 => ?_)
  have r3 := R_eq z2
  refine r_istore_n (lv' := [(3, .int v1), (0, .ref (G.2.2.2.1 22)), (1, .int a0), (2, .int a1)]) S dX10_areFoes_1 rfl hl (by decide) rfl (fun ls hl => ?_)
  refine r_iconst S dX10_areFoes_2 (by decide) (fun v4 z5 => ?_)
  have r6 := R_eq z5
  refine r_istore (lv' := [(4, .int v4), (3, .int v1), (0, .ref (G.2.2.2.1 22)), (1, .int a0), (2, .int a1)]) S dX10_areFoes_3 hl (by decide) rfl (fun ls hl => ?_)
  refine r_iconst S dX10_areFoes_5 (by decide) (fun v7 z8 => ?_)
  have r9 := R_eq z8
  refine r_istore (lv' := [(5, .int v7), (4, .int v4), (3, .int v1), (0, .ref (G.2.2.2.1 22)), (1, .int a0), (2, .int a1)]) S dX10_areFoes_6 hl (by decide) rfl (fun ls hl => ?_)
  have L1229 : ∀ (n : Nat) (H : Heap) (lc : List Loc) (ls : Array Slot) (i1222 : Int32) (i1224 : Int32) (i1226 : Int32), Xd G s H lc τ → R (0) (1) i1222 → R (0) (1) i1224 → R (0) (9) i1226 → lv_has ls 8 [(0, .ref (G.2.2.2.1 22)), (1, .int a0), (2, .int a1), (3, .int i1222), (4, .int i1224), (5, .int i1226)] → (9 - i1226.toInt).toNat < n → W p l e (Rm 2 47) s m ([.ref (G.2.2.2.1 22), .int a0, .int a1] : List Value).toArray below meth c H lc 0 0 (MQ below (va_Qi (po_X10_areFoes τ  a0 a1  ) (Bs G) G.2.2.2.2) ([.ref (G.2.2.2.1 22), .int a0, .int a1] : List Value).toArray s 0 0 G.2.2.2.2) (F0 m 8 ls []) := by
    intro n
    induction n with
    | zero => intros; omega
    | succ n ih1230 =>
      intro H lc ls i1222 i1224 i1226 X1228 r1223 r1225 r1227 hl hm
      refine r_iload S dX10_areFoes_8 (lv_at hl 5 rfl) ?_
      refine r_aload_n S dX10_areFoes_10 rfl (lv_at hl 0 rfl) ?_
      refine r_get (K := 22) (v := .ref (G.2.2.2.1 23)) S X1228 (Nat.le_of_ble_eq_true rfl) rfl lk10_12_8 (fun _ => ⟨_, rfl, rfl⟩) dX10_areFoes_11 ?_
      refine r_getn (K := 4) S X1228 (Nat.le_of_ble_eq_true rfl) rfl lk10_52_2 (fun _ => ⟨_, rfl, rfl⟩) dX10_areFoes_14 (fun v1231 z1232 => ?_)
      have r1233 : R (0) (9) v1231 := rd hI rfl z1232
      refine r_icmp_ge (tgt := 126) S dX10_areFoes_17 (by decide) (fun c1234 => ?_) (fun c1234 => ?_)
      ·
        refine r_iload_n S dX10_areFoes_126 rfl (lv_at hl 3 rfl) ?_
        refine r_if_eq (tgt := 139) S dX10_areFoes_127 (by decide) (fun c1235 => ?_) (fun c1235 => ?_)
        ·
          have r1236 : R (0) (0) i1222 := ⟨by omega, by omega⟩
          refine r_iconst S dX10_areFoes_139 (by decide) (fun v1237 z1238 => ?_)
          have r1239 := R_eq z1238
          exact r_ret S hr hlk X1228 ⟨rfl, (R_of r1239 rfl)⟩ (nr_bool (R_of (lo := 0) (hi := 1) r1239 rfl)) dX10_areFoes_140
        ·
          have r1240 : R (1) (1) i1222 := ⟨by omega, by omega⟩
          refine r_iload S dX10_areFoes_130 (lv_at hl 4 rfl) ?_
          refine r_if_eq (tgt := 139) S dX10_areFoes_132 (by decide) (fun c1241 => ?_) (fun c1241 => ?_)
          ·
            have r1242 : R (0) (0) i1224 := ⟨by omega, by omega⟩
            refine r_iconst S dX10_areFoes_139 (by decide) (fun v1243 z1244 => ?_)
            have r1245 := R_eq z1244
            exact r_ret S hr hlk X1228 ⟨rfl, (R_of r1245 rfl)⟩ (nr_bool (R_of (lo := 0) (hi := 1) r1245 rfl)) dX10_areFoes_140
          ·
            have r1246 : R (1) (1) i1224 := ⟨by omega, by omega⟩
            refine r_iconst S dX10_areFoes_135 (by decide) (fun v1247 z1248 => ?_)
            have r1249 := R_eq z1248
            refine r_goto (tgt := 140) S dX10_areFoes_136 (by decide) ?_
            exact r_ret S hr hlk X1228 ⟨rfl, (R_of r1249 rfl)⟩ (nr_bool (R_of (lo := 0) (hi := 1) r1249 rfl)) dX10_areFoes_140
      ·
        have r1250 : R (0) (8) i1226 := ⟨by omega, by omega⟩
        have r1251 : R (1) (9) v1231 := ⟨by omega, by omega⟩
        refine r_aload_n S dX10_areFoes_20 rfl (lv_at hl 0 rfl) ?_
        refine r_iload_n S dX10_areFoes_21 rfl (lv_at hl 1 rfl) ?_
        refine r_iload S dX10_areFoes_22 (lv_at hl 5 rfl) ?_
        refine r_ki (q_V (As := [.int a0, .int i1226]) (rest := []) (K := 22) (ci := 8) S X1228 (c_X10_spoken l G τ hI a0 i1226 h_a0 r1250) ck10_94 (Nat.le_of_ble_eq_true rfl) rfl (fun _ => ⟨_, rfl⟩) ⟨_, _, rfl⟩ ⟨Nat.le_of_ble_eq_true rfl, Nat.le_of_ble_eq_true rfl⟩ rfl hl.1 rfl (Nat.le_of_ble_eq_true rfl) dX10_areFoes_24 ⟨Nat.le_refl 0, Nat.le_refl 0⟩) X1228 (fun v1255 t1254 H lc q1252 X1253 => ?_)
        unfold po_X10_spoken at q1252
        obtain ⟨q1256, q1257⟩ := q1252
        rw [q1256] at X1253
        refine r_istore (lv' := [(6, .int v1255), (0, .ref (G.2.2.2.1 22)), (1, .int a0), (2, .int a1), (3, .int i1222), (4, .int i1224), (5, .int i1226)]) S dX10_areFoes_27 hl (by decide) rfl (fun ls hl => ?_)
        refine r_aload_n S dX10_areFoes_29 rfl (lv_at hl 1 rfl) ?_
        refine r_iload_n S dX10_areFoes_30 rfl (lv_at hl 3 rfl) ?_
        refine r_iload S dX10_areFoes_31 (lv_at hl 6 rfl) ?_
        refine r_ki (q_V (As := [.int a1, .int i1226]) (rest := []) (K := 22) (ci := 8) S X1253 (c_X10_spoken l G τ hI a1 i1226 h_a1 r1250) ck10_94 (Nat.le_of_ble_eq_true rfl) rfl (fun _ => ⟨_, rfl⟩) ⟨_, _, rfl⟩ ⟨Nat.le_of_ble_eq_true rfl, Nat.le_of_ble_eq_true rfl⟩ rfl hl.1 rfl (Nat.le_of_ble_eq_true rfl) dX10_areFoes_33 ⟨Nat.le_refl 0, Nat.le_refl 0⟩) X1253 (fun v1261 t1260 H lc q1258 X1259 => ?_)
        unfold po_X10_spoken at q1258
        obtain ⟨q1262, q1263⟩ := q1258
        rw [q1262] at X1259
        refine r_istore (lv' := [(7, .int v1261), (6, .int v1255), (0, .ref (G.2.2.2.1 22)), (1, .int a0), (2, .int a1), (3, .int i1222), (4, .int i1224), (5, .int i1226)]) S dX10_areFoes_36 hl (by decide) rfl (fun ls hl => ?_)
        refine r_iload S dX10_areFoes_38 (lv_at hl 1 rfl) ?_
        refine r_abs S hl.1 kw3 kw4 kw5 cd_J9_abs_0f7a4 ⟨Nat.le_of_ble_eq_true rfl, Nat.le_of_ble_eq_true rfl⟩ ⟨Nat.le_refl 0, Nat.le_refl 0⟩ (by omega) dX10_areFoes_40 (fun v1264 h1265 => ?_)
        have r1266 : R 0 (9) v1264 := ⟨by omega, by omega⟩
        refine r_iconst S dX10_areFoes_43 (by decide) (fun v1267 z1268 => ?_)
        have r1269 := R_eq z1268
        refine r_icmp_lt (tgt := 120) S dX10_areFoes_44 (by decide) (fun c1270 => ?_) (fun c1270 => ?_)
        ·
          have r1271 : R (0) (4) v1264 := ⟨by omega, by omega⟩
          refine r_iinc (k := 7) S dX10_areFoes_120 hl rfl (by decide) (by decide) (fun v1272 d1273 ls z1274 z1275 hl => ?_)
          obtain ⟨e1276, r1277⟩ := i_add (lo := 1) (hi := 9) z1274 r1250 (R_eq z1275) rfl
          have hl : lv_has ls 8 [(5, .int v1272), (7, .int v1261), (6, .int v1255), (0, .ref (G.2.2.2.1 22)), (1, .int a0), (2, .int a1), (3, .int i1222), (4, .int i1224)] := hl
          refine r_goto (tgt := 8) S dX10_areFoes_123 (by decide) ?_
          exact ih1230 _ _ _ i1222 i1224 v1272 X1259 r1223 r1225 (R_of r1277 rfl) (lv_sub hl [3, 4, 5, 6, 7, 0] rfl) (by omega)
        ·
          have r1278 : R (5) (9) v1264 := ⟨by omega, by omega⟩
          refine r_iload S dX10_areFoes_47 (lv_at hl 0 rfl) ?_
          refine r_abs S hl.1 kw3 kw4 kw5 cd_J9_abs_0f7a4 ⟨Nat.le_of_ble_eq_true rfl, Nat.le_of_ble_eq_true rfl⟩ ⟨Nat.le_refl 0, Nat.le_refl 0⟩ (by omega) dX10_areFoes_49 (fun v1279 h1280 => ?_)
          have r1281 : R 0 (9) v1279 := ⟨by omega, by omega⟩
          refine r_iconst S dX10_areFoes_52 (by decide) (fun v1282 z1283 => ?_)
          have r1284 := R_eq z1283
          refine r_icmp_lt (tgt := 120) S dX10_areFoes_53 (by decide) (fun c1285 => ?_) (fun c1285 => ?_)
          ·
            have r1286 : R (0) (4) v1279 := ⟨by omega, by omega⟩
            refine r_iinc (k := 7) S dX10_areFoes_120 hl rfl (by decide) (by decide) (fun v1287 d1288 ls z1289 z1290 hl => ?_)
            obtain ⟨e1291, r1292⟩ := i_add (lo := 1) (hi := 9) z1289 r1250 (R_eq z1290) rfl
            have hl : lv_has ls 8 [(5, .int v1287), (7, .int v1261), (6, .int v1255), (0, .ref (G.2.2.2.1 22)), (1, .int a0), (2, .int a1), (3, .int i1222), (4, .int i1224)] := hl
            refine r_goto (tgt := 8) S dX10_areFoes_123 (by decide) ?_
            exact ih1230 _ _ _ i1222 i1224 v1287 X1259 r1223 r1225 (R_of r1292 rfl) (lv_sub hl [3, 4, 5, 6, 7, 0] rfl) (by omega)
          ·
            have r1293 : R (5) (9) v1279 := ⟨by omega, by omega⟩
            refine r_iload_n S dX10_areFoes_56 rfl (lv_at hl 5 rfl) ?_
            refine r_iload S dX10_areFoes_57 (lv_at hl 1 rfl) ?_
            refine r_if_le (tgt := 66) S dX10_areFoes_59 (by decide) (fun c1294 => ?_) (fun c1294 => ?_)
            ·
              have r1295 : R (-9) (0) v1255 := ⟨by omega, by omega⟩
              refine r_iconst S dX10_areFoes_66 (by decide) (fun v1296 z1297 => ?_)
              have r1298 := R_eq z1297
              refine r_iload S dX10_areFoes_67 (lv_at hl 0 rfl) ?_
              refine r_if_le (tgt := 76) S dX10_areFoes_69 (by decide) (fun c1299 => ?_) (fun c1299 => ?_)
              ·
                have r1300 : R (-9) (0) v1261 := ⟨by omega, by omega⟩
                refine r_iconst S dX10_areFoes_76 (by decide) (fun v1301 z1302 => ?_)
                have r1303 := R_eq z1302
                refine r_icmp_eq (tgt := 84) S dX10_areFoes_77 (by decide) (fun c1304 => ?_) (fun c1304 => ?_)
                ·
                  refine r_iconst S dX10_areFoes_84 (by decide) (fun v1305 z1306 => ?_)
                  have r1307 := R_eq z1306
                  refine r_ior S dX10_areFoes_85 (fun v1308 z1309 => ?_)
                  have r1311 : R (0) (1) v1308 := i_or 1 z1309 r1223 r1307 rfl
                  refine r_istore_n (lv' := [(3, .int v1308), (7, .int v1261), (6, .int v1255), (0, .ref (G.2.2.2.1 22)), (1, .int a0), (2, .int a1), (4, .int i1224), (5, .int i1226)]) S dX10_areFoes_86 rfl hl (by decide) rfl (fun ls hl => ?_)
                  refine r_iload S dX10_areFoes_87 (lv_at hl 6 rfl) ?_
                  refine r_iload S dX10_areFoes_89 (lv_at hl 2 rfl) ?_
                  refine r_if_le (tgt := 98) S dX10_areFoes_91 (by decide) (fun c1312 => ?_) (fun c1312 => ?_)
                  ·
                    refine r_iconst S dX10_areFoes_98 (by decide) (fun v1313 z1314 => ?_)
                    have r1315 := R_eq z1314
                    refine r_iload S dX10_areFoes_99 (lv_at hl 1 rfl) ?_
                    refine r_if_le (tgt := 108) S dX10_areFoes_101 (by decide) (fun c1316 => ?_) (fun c1316 => ?_)
                    ·
                      refine r_iconst S dX10_areFoes_108 (by decide) (fun v1317 z1318 => ?_)
                      have r1319 := R_eq z1318
                      refine r_icmp_ne (tgt := 116) S dX10_areFoes_109 (by decide) (fun c1320 => ?_) (fun c1320 => ?_)
                      ·
                        exfalso; omega
                      ·
                        refine r_iconst S dX10_areFoes_112 (by decide) (fun v1321 z1322 => ?_)
                        have r1323 := R_eq z1322
                        refine r_goto (tgt := 117) S dX10_areFoes_113 (by decide) ?_
                        refine r_ior S dX10_areFoes_117 (fun v1324 z1325 => ?_)
                        have r1327 : R (0) (1) v1324 := i_or 1 z1325 r1225 r1323 rfl
                        refine r_istore (lv' := [(4, .int v1324), (3, .int v1308), (7, .int v1261), (6, .int v1255), (0, .ref (G.2.2.2.1 22)), (1, .int a0), (2, .int a1), (5, .int i1226)]) S dX10_areFoes_118 hl (by decide) rfl (fun ls hl => ?_)
                        refine r_iinc (k := 7) S dX10_areFoes_120 hl rfl (by decide) (by decide) (fun v1328 d1329 ls z1330 z1331 hl => ?_)
                        obtain ⟨e1332, r1333⟩ := i_add (lo := 1) (hi := 9) z1330 r1250 (R_eq z1331) rfl
                        have hl : lv_has ls 8 [(5, .int v1328), (4, .int v1324), (3, .int v1308), (7, .int v1261), (6, .int v1255), (0, .ref (G.2.2.2.1 22)), (1, .int a0), (2, .int a1)] := hl
                        refine r_goto (tgt := 8) S dX10_areFoes_123 (by decide) ?_
                        exact ih1230 _ _ _ v1308 v1324 v1328 X1259 r1311 r1327 (R_of r1333 rfl) (lv_sub hl [5, 6, 7, 2, 1, 0] rfl) (by omega)
                    ·
                      exfalso; omega
                  ·
                    exfalso; omega
                ·
                  exfalso; omega
              ·
                have r1334 : R (1) (9) v1261 := ⟨by omega, by omega⟩
                refine r_iconst S dX10_areFoes_72 (by decide) (fun v1335 z1336 => ?_)
                have r1337 := R_eq z1336
                refine r_goto (tgt := 77) S dX10_areFoes_73 (by decide) ?_
                refine r_icmp_eq (tgt := 84) S dX10_areFoes_77 (by decide) (fun c1338 => ?_) (fun c1338 => ?_)
                ·
                  exfalso; omega
                ·
                  refine r_iconst S dX10_areFoes_80 (by decide) (fun v1339 z1340 => ?_)
                  have r1341 := R_eq z1340
                  refine r_goto (tgt := 85) S dX10_areFoes_81 (by decide) ?_
                  refine r_ior S dX10_areFoes_85 (fun v1342 z1343 => ?_)
                  have r1345 : R (0) (1) v1342 := i_or 1 z1343 r1223 r1341 rfl
                  refine r_istore_n (lv' := [(3, .int v1342), (7, .int v1261), (6, .int v1255), (0, .ref (G.2.2.2.1 22)), (1, .int a0), (2, .int a1), (4, .int i1224), (5, .int i1226)]) S dX10_areFoes_86 rfl hl (by decide) rfl (fun ls hl => ?_)
                  refine r_iload S dX10_areFoes_87 (lv_at hl 6 rfl) ?_
                  refine r_iload S dX10_areFoes_89 (lv_at hl 2 rfl) ?_
                  refine r_if_le (tgt := 98) S dX10_areFoes_91 (by decide) (fun c1346 => ?_) (fun c1346 => ?_)
                  ·
                    refine r_iconst S dX10_areFoes_98 (by decide) (fun v1347 z1348 => ?_)
                    have r1349 := R_eq z1348
                    refine r_iload S dX10_areFoes_99 (lv_at hl 1 rfl) ?_
                    refine r_if_le (tgt := 108) S dX10_areFoes_101 (by decide) (fun c1350 => ?_) (fun c1350 => ?_)
                    ·
                      exfalso; omega
                    ·
                      refine r_iconst S dX10_areFoes_104 (by decide) (fun v1351 z1352 => ?_)
                      have r1353 := R_eq z1352
                      refine r_goto (tgt := 109) S dX10_areFoes_105 (by decide) ?_
                      refine r_icmp_ne (tgt := 116) S dX10_areFoes_109 (by decide) (fun c1354 => ?_) (fun c1354 => ?_)
                      ·
                        refine r_iconst S dX10_areFoes_116 (by decide) (fun v1355 z1356 => ?_)
                        have r1357 := R_eq z1356
                        refine r_ior S dX10_areFoes_117 (fun v1358 z1359 => ?_)
                        have r1361 : R (0) (1) v1358 := i_or 1 z1359 r1225 r1357 rfl
                        refine r_istore (lv' := [(4, .int v1358), (3, .int v1342), (7, .int v1261), (6, .int v1255), (0, .ref (G.2.2.2.1 22)), (1, .int a0), (2, .int a1), (5, .int i1226)]) S dX10_areFoes_118 hl (by decide) rfl (fun ls hl => ?_)
                        refine r_iinc (k := 7) S dX10_areFoes_120 hl rfl (by decide) (by decide) (fun v1362 d1363 ls z1364 z1365 hl => ?_)
                        obtain ⟨e1366, r1367⟩ := i_add (lo := 1) (hi := 9) z1364 r1250 (R_eq z1365) rfl
                        have hl : lv_has ls 8 [(5, .int v1362), (4, .int v1358), (3, .int v1342), (7, .int v1261), (6, .int v1255), (0, .ref (G.2.2.2.1 22)), (1, .int a0), (2, .int a1)] := hl
                        refine r_goto (tgt := 8) S dX10_areFoes_123 (by decide) ?_
                        exact ih1230 _ _ _ v1342 v1358 v1362 X1259 r1345 r1361 (R_of r1367 rfl) (lv_sub hl [5, 6, 7, 2, 1, 0] rfl) (by omega)
                      ·
                        exfalso; omega
                  ·
                    exfalso; omega
            ·
              have r1368 : R (1) (9) v1255 := ⟨by omega, by omega⟩
              refine r_iconst S dX10_areFoes_62 (by decide) (fun v1369 z1370 => ?_)
              have r1371 := R_eq z1370
              refine r_goto (tgt := 67) S dX10_areFoes_63 (by decide) ?_
              refine r_iload S dX10_areFoes_67 (lv_at hl 0 rfl) ?_
              refine r_if_le (tgt := 76) S dX10_areFoes_69 (by decide) (fun c1372 => ?_) (fun c1372 => ?_)
              ·
                have r1373 : R (-9) (0) v1261 := ⟨by omega, by omega⟩
                refine r_iconst S dX10_areFoes_76 (by decide) (fun v1374 z1375 => ?_)
                have r1376 := R_eq z1375
                refine r_icmp_eq (tgt := 84) S dX10_areFoes_77 (by decide) (fun c1377 => ?_) (fun c1377 => ?_)
                ·
                  exfalso; omega
                ·
                  refine r_iconst S dX10_areFoes_80 (by decide) (fun v1378 z1379 => ?_)
                  have r1380 := R_eq z1379
                  refine r_goto (tgt := 85) S dX10_areFoes_81 (by decide) ?_
                  refine r_ior S dX10_areFoes_85 (fun v1381 z1382 => ?_)
                  have r1384 : R (0) (1) v1381 := i_or 1 z1382 r1223 r1380 rfl
                  refine r_istore_n (lv' := [(3, .int v1381), (7, .int v1261), (6, .int v1255), (0, .ref (G.2.2.2.1 22)), (1, .int a0), (2, .int a1), (4, .int i1224), (5, .int i1226)]) S dX10_areFoes_86 rfl hl (by decide) rfl (fun ls hl => ?_)
                  refine r_iload S dX10_areFoes_87 (lv_at hl 6 rfl) ?_
                  refine r_iload S dX10_areFoes_89 (lv_at hl 2 rfl) ?_
                  refine r_if_le (tgt := 98) S dX10_areFoes_91 (by decide) (fun c1385 => ?_) (fun c1385 => ?_)
                  ·
                    exfalso; omega
                  ·
                    refine r_iconst S dX10_areFoes_94 (by decide) (fun v1386 z1387 => ?_)
                    have r1388 := R_eq z1387
                    refine r_goto (tgt := 99) S dX10_areFoes_95 (by decide) ?_
                    refine r_iload S dX10_areFoes_99 (lv_at hl 1 rfl) ?_
                    refine r_if_le (tgt := 108) S dX10_areFoes_101 (by decide) (fun c1389 => ?_) (fun c1389 => ?_)
                    ·
                      refine r_iconst S dX10_areFoes_108 (by decide) (fun v1390 z1391 => ?_)
                      have r1392 := R_eq z1391
                      refine r_icmp_ne (tgt := 116) S dX10_areFoes_109 (by decide) (fun c1393 => ?_) (fun c1393 => ?_)
                      ·
                        refine r_iconst S dX10_areFoes_116 (by decide) (fun v1394 z1395 => ?_)
                        have r1396 := R_eq z1395
                        refine r_ior S dX10_areFoes_117 (fun v1397 z1398 => ?_)
                        have r1400 : R (0) (1) v1397 := i_or 1 z1398 r1225 r1396 rfl
                        refine r_istore (lv' := [(4, .int v1397), (3, .int v1381), (7, .int v1261), (6, .int v1255), (0, .ref (G.2.2.2.1 22)), (1, .int a0), (2, .int a1), (5, .int i1226)]) S dX10_areFoes_118 hl (by decide) rfl (fun ls hl => ?_)
                        refine r_iinc (k := 7) S dX10_areFoes_120 hl rfl (by decide) (by decide) (fun v1401 d1402 ls z1403 z1404 hl => ?_)
                        obtain ⟨e1405, r1406⟩ := i_add (lo := 1) (hi := 9) z1403 r1250 (R_eq z1404) rfl
                        have hl : lv_has ls 8 [(5, .int v1401), (4, .int v1397), (3, .int v1381), (7, .int v1261), (6, .int v1255), (0, .ref (G.2.2.2.1 22)), (1, .int a0), (2, .int a1)] := hl
                        refine r_goto (tgt := 8) S dX10_areFoes_123 (by decide) ?_
                        exact ih1230 _ _ _ v1381 v1397 v1401 X1259 r1384 r1400 (R_of r1406 rfl) (lv_sub hl [5, 6, 7, 2, 1, 0] rfl) (by omega)
                      ·
                        exfalso; omega
                    ·
                      exfalso; omega
              ·
                have r1407 : R (1) (9) v1261 := ⟨by omega, by omega⟩
                refine r_iconst S dX10_areFoes_72 (by decide) (fun v1408 z1409 => ?_)
                have r1410 := R_eq z1409
                refine r_goto (tgt := 77) S dX10_areFoes_73 (by decide) ?_
                refine r_icmp_eq (tgt := 84) S dX10_areFoes_77 (by decide) (fun c1411 => ?_) (fun c1411 => ?_)
                ·
                  refine r_iconst S dX10_areFoes_84 (by decide) (fun v1412 z1413 => ?_)
                  have r1414 := R_eq z1413
                  refine r_ior S dX10_areFoes_85 (fun v1415 z1416 => ?_)
                  have r1418 : R (0) (1) v1415 := i_or 1 z1416 r1223 r1414 rfl
                  refine r_istore_n (lv' := [(3, .int v1415), (7, .int v1261), (6, .int v1255), (0, .ref (G.2.2.2.1 22)), (1, .int a0), (2, .int a1), (4, .int i1224), (5, .int i1226)]) S dX10_areFoes_86 rfl hl (by decide) rfl (fun ls hl => ?_)
                  refine r_iload S dX10_areFoes_87 (lv_at hl 6 rfl) ?_
                  refine r_iload S dX10_areFoes_89 (lv_at hl 2 rfl) ?_
                  refine r_if_le (tgt := 98) S dX10_areFoes_91 (by decide) (fun c1419 => ?_) (fun c1419 => ?_)
                  ·
                    exfalso; omega
                  ·
                    refine r_iconst S dX10_areFoes_94 (by decide) (fun v1420 z1421 => ?_)
                    have r1422 := R_eq z1421
                    refine r_goto (tgt := 99) S dX10_areFoes_95 (by decide) ?_
                    refine r_iload S dX10_areFoes_99 (lv_at hl 1 rfl) ?_
                    refine r_if_le (tgt := 108) S dX10_areFoes_101 (by decide) (fun c1423 => ?_) (fun c1423 => ?_)
                    ·
                      exfalso; omega
                    ·
                      refine r_iconst S dX10_areFoes_104 (by decide) (fun v1424 z1425 => ?_)
                      have r1426 := R_eq z1425
                      refine r_goto (tgt := 109) S dX10_areFoes_105 (by decide) ?_
                      refine r_icmp_ne (tgt := 116) S dX10_areFoes_109 (by decide) (fun c1427 => ?_) (fun c1427 => ?_)
                      ·
                        exfalso; omega
                      ·
                        refine r_iconst S dX10_areFoes_112 (by decide) (fun v1428 z1429 => ?_)
                        have r1430 := R_eq z1429
                        refine r_goto (tgt := 117) S dX10_areFoes_113 (by decide) ?_
                        refine r_ior S dX10_areFoes_117 (fun v1431 z1432 => ?_)
                        have r1434 : R (0) (1) v1431 := i_or 1 z1432 r1225 r1430 rfl
                        refine r_istore (lv' := [(4, .int v1431), (3, .int v1415), (7, .int v1261), (6, .int v1255), (0, .ref (G.2.2.2.1 22)), (1, .int a0), (2, .int a1), (5, .int i1226)]) S dX10_areFoes_118 hl (by decide) rfl (fun ls hl => ?_)
                        refine r_iinc (k := 7) S dX10_areFoes_120 hl rfl (by decide) (by decide) (fun v1435 d1436 ls z1437 z1438 hl => ?_)
                        obtain ⟨e1439, r1440⟩ := i_add (lo := 1) (hi := 9) z1437 r1250 (R_eq z1438) rfl
                        have hl : lv_has ls 8 [(5, .int v1435), (4, .int v1431), (3, .int v1415), (7, .int v1261), (6, .int v1255), (0, .ref (G.2.2.2.1 22)), (1, .int a0), (2, .int a1)] := hl
                        refine r_goto (tgt := 8) S dX10_areFoes_123 (by decide) ?_
                        exact ih1230 _ _ _ v1415 v1431 v1435 X1259 r1418 r1434 (R_of r1440 rfl) (lv_sub hl [5, 6, 7, 2, 1, 0] rfl) (by omega)
                ·
                  exfalso; omega
  exact L1229 _ _ _ _ v1 v4 v7 X (R_of r3 rfl) (R_of r6 rfl) (R_of r9 rfl) (lv_sub hl [3, 4, 5, 2, 1, 0] rfl) (Nat.lt_succ_self _)
def po_X10_holdsFoes (τ : Tau)  (a0 : Int32)   (r : Int32) (u : Tau) : Prop := u = τ ∧ R (0) (1) r
set_option maxHeartbeats 4000000 in
set_option maxRecDepth 100000 in
theorem c_X10_holdsFoes (l : Launch) (G : Gx) (τ : Tau) (hI : Inv τ) (a0 : Int32) (h_a0 : R (-2147483648) (2147483647) a0) : Ci l G yX10_holdsFoes cX10_holdsFoes 4 (some .boolean) 3 74 [.ref (G.2.2.2.1 22), .int a0] τ (po_X10_holdsFoes τ  a0  ) := by
  unfold Ci
  refine C_of (own := RX10) (by decide) rfl (Nat.le_of_ble_eq_true rfl) ?_
  intro p e s m below meth c ls S hr hlk X hl
  have hl : lv_has ls 4 [(0, .ref (G.2.2.2.1 22)), (1, .int a0)] := hl
  refine r_iconst S dX10_holdsFoes_0 (by decide) (fun v1 z2 => ?_)
  have r3 := R_eq z2
  refine r_istore_n (lv' := [(2, .int v1), (0, .ref (G.2.2.2.1 22)), (1, .int a0)]) S dX10_holdsFoes_1 rfl hl (by decide) rfl (fun ls hl => ?_)
  have L1942 : ∀ (n : Nat) (H : Heap) (lc : List Loc) (ls : Array Slot) (i1939 : Int32), Xd G s H lc τ → R (0) (10) i1939 → lv_has ls 4 [(0, .ref (G.2.2.2.1 22)), (1, .int a0), (2, .int i1939)] → (10 - i1939.toInt).toNat < n → W p l e (Rm 3 74) s m ([.ref (G.2.2.2.1 22), .int a0] : List Value).toArray below meth c H lc 0 0 (MQ below (va_Qi (po_X10_holdsFoes τ  a0  ) (Bs G) G.2.2.2.2) ([.ref (G.2.2.2.1 22), .int a0] : List Value).toArray s 0 0 G.2.2.2.2) (F0 m 2 ls []) := by
    intro n
    induction n with
    | zero => intros; omega
    | succ n ih1943 =>
      intro H lc ls i1939 X1941 r1940 hl hm
      refine r_iload_n S dX10_holdsFoes_2 rfl (lv_at hl 2 rfl) ?_
      refine r_aload_n S dX10_holdsFoes_3 rfl (lv_at hl 0 rfl) ?_
      refine r_get (K := 22) (v := .ref (G.2.2.2.1 23)) S X1941 (Nat.le_of_ble_eq_true rfl) rfl lk10_12_8 (fun _ => ⟨_, rfl, rfl⟩) dX10_holdsFoes_4 ?_
      refine r_getn (K := 4) S X1941 (Nat.le_of_ble_eq_true rfl) rfl lk10_49_2 (fun _ => ⟨_, rfl, rfl⟩) dX10_holdsFoes_7 (fun v1944 z1945 => ?_)
      have r1946 : R (0) (10) v1944 := rd hI rfl z1945
      refine r_icmp_ge (tgt := 69) S dX10_holdsFoes_10 (by decide) (fun c1947 => ?_) (fun c1947 => ?_)
      ·
        refine r_iconst S dX10_holdsFoes_69 (by decide) (fun v1948 z1949 => ?_)
        have r1950 := R_eq z1949
        exact r_ret S hr hlk X1941 ⟨rfl, (R_of r1950 rfl)⟩ (nr_bool (R_of (lo := 0) (hi := 1) r1950 rfl)) dX10_holdsFoes_70
      ·
        have r1951 : R (0) (9) i1939 := ⟨by omega, by omega⟩
        have r1952 : R (1) (10) v1944 := ⟨by omega, by omega⟩
        refine r_iload_n S dX10_holdsFoes_13 rfl (lv_at hl 2 rfl) ?_
        refine r_iconst S dX10_holdsFoes_14 (by decide) (fun v1953 z1954 => ?_)
        have r1955 := R_eq z1954
        refine r_iadd S dX10_holdsFoes_15 (fun v1956 z1957 => ?_)
        obtain ⟨e1958, r1959⟩ := i_add (lo := 1) (hi := 10) z1957 r1951 r1955 rfl
        refine r_istore_n (lv' := [(3, .int v1956), (0, .ref (G.2.2.2.1 22)), (1, .int a0), (2, .int i1939)]) S dX10_holdsFoes_16 rfl hl (by decide) rfl (fun ls hl => ?_)
        have L2020 : ∀ (n : Nat) (H : Heap) (lc : List Loc) (ls : Array Slot) (i2017 : Int32), Xd G s H lc τ → R (1) (10) i2017 → lv_has ls 4 [(0, .ref (G.2.2.2.1 22)), (1, .int a0), (2, .int i1939), (3, .int i2017)] → (10 - i2017.toInt).toNat < n → W p l e (Rm 3 74) s m ([.ref (G.2.2.2.1 22), .int a0] : List Value).toArray below meth c H lc 0 0 (MQ below (va_Qi (po_X10_holdsFoes τ  a0  ) (Bs G) G.2.2.2.2) ([.ref (G.2.2.2.1 22), .int a0] : List Value).toArray s 0 0 G.2.2.2.2) (F0 m 17 ls []) := by
          intro n
          induction n with
          | zero => intros; omega
          | succ n ih2021 =>
            intro H lc ls i2017 X2019 r2018 hl hm
            refine r_iload_n S dX10_holdsFoes_17 rfl (lv_at hl 3 rfl) ?_
            refine r_aload_n S dX10_holdsFoes_18 rfl (lv_at hl 0 rfl) ?_
            refine r_get (K := 22) (v := .ref (G.2.2.2.1 23)) S X2019 (Nat.le_of_ble_eq_true rfl) rfl lk10_12_8 (fun _ => ⟨_, rfl, rfl⟩) dX10_holdsFoes_19 ?_
            refine r_geti (K := 4) S X2019 (Nat.le_of_ble_eq_true rfl) rfl lk10_49_2 (fun _ => ⟨_, rfl, rfl⟩) z1945 dX10_holdsFoes_22 ?_
            refine r_icmp_ge (tgt := 63) S dX10_holdsFoes_25 (by decide) (fun c2022 => ?_) (fun c2022 => ?_)
            ·
              refine r_iinc (k := 2) S dX10_holdsFoes_63 hl rfl (by decide) (by decide) (fun v2023 d2024 ls z2025 z2026 hl => ?_)
              obtain ⟨e2027, r2028⟩ := i_add (lo := 1) (hi := 10) z2025 r1951 (R_eq z2026) rfl
              have hl : lv_has ls 4 [(2, .int v2023), (0, .ref (G.2.2.2.1 22)), (1, .int a0), (3, .int i2017)] := hl
              refine r_goto (tgt := 2) S dX10_holdsFoes_66 (by decide) ?_
              exact ih1943 _ _ _ v2023 X2019 (R_of r2028 rfl) (lv_sub hl [1, 2, 0] rfl) (by omega)
            ·
              have r2029 : R (1) (9) i2017 := ⟨by omega, by omega⟩
              have r2030 : R (2) (10) v1944 := ⟨by omega, by omega⟩
              refine r_iload_n S dX10_holdsFoes_28 rfl (lv_at hl 1 rfl) ?_
              refine r_iload_n S dX10_holdsFoes_29 rfl (lv_at hl 2 rfl) ?_
              refine r_ki (q_N (As := [.int a0, .int i1939]) (rest := []) S X2019 (c_X11_bit l G τ hI a0 i1939 h_a0 (R_of (lo := -2147483648) (hi := 2147483647) r1951 rfl)) ck10_65 ⟨Nat.le_of_ble_eq_true rfl, Nat.le_of_ble_eq_true rfl⟩ rfl hl.1 rfl (Nat.le_of_ble_eq_true rfl) dX10_holdsFoes_30 ⟨Nat.le_refl 0, Nat.le_refl 0⟩) X2019 (fun v2034 t2033 H lc q2031 X2032 => ?_)
              unfold po_X11_bit at q2031
              obtain ⟨q2035, q2036⟩ := q2031
              rw [q2035] at X2032
              refine r_iconst S dX10_holdsFoes_33 (by decide) (fun v2037 z2038 => ?_)
              have r2039 := R_eq z2038
              refine r_icmp_ne (tgt := 57) S dX10_holdsFoes_34 (by decide) (fun c2040 => ?_) (fun c2040 => ?_)
              ·
                have r2041 : R (0) (0) v2034 := ⟨by omega, by omega⟩
                refine r_iinc (k := 3) S dX10_holdsFoes_57 hl rfl (by decide) (by decide) (fun v2042 d2043 ls z2044 z2045 hl => ?_)
                obtain ⟨e2046, r2047⟩ := i_add (lo := 2) (hi := 10) z2044 r2029 (R_eq z2045) rfl
                have hl : lv_has ls 4 [(3, .int v2042), (0, .ref (G.2.2.2.1 22)), (1, .int a0), (2, .int i1939)] := hl
                refine r_goto (tgt := 17) S dX10_holdsFoes_60 (by decide) ?_
                exact ih2021 _ _ _ v2042 X2032 (R_of r2047 rfl) (lv_sub hl [1, 2, 3, 0] rfl) (by omega)
              ·
                have r2048 : R (1) (1) v2034 := ⟨by omega, by omega⟩
                refine r_iload_n S dX10_holdsFoes_37 rfl (lv_at hl 1 rfl) ?_
                refine r_iload_n S dX10_holdsFoes_38 rfl (lv_at hl 3 rfl) ?_
                refine r_ki (q_N (As := [.int a0, .int i2017]) (rest := []) S X2032 (c_X11_bit l G τ hI a0 i2017 h_a0 (R_of (lo := -2147483648) (hi := 2147483647) r2029 rfl)) ck10_65 ⟨Nat.le_of_ble_eq_true rfl, Nat.le_of_ble_eq_true rfl⟩ rfl hl.1 rfl (Nat.le_of_ble_eq_true rfl) dX10_holdsFoes_39 ⟨Nat.le_refl 0, Nat.le_refl 0⟩) X2032 (fun v2052 t2051 H lc q2049 X2050 => ?_)
                unfold po_X11_bit at q2049
                obtain ⟨q2053, q2054⟩ := q2049
                rw [q2053] at X2050
                refine r_iconst S dX10_holdsFoes_42 (by decide) (fun v2055 z2056 => ?_)
                have r2057 := R_eq z2056
                refine r_icmp_ne (tgt := 57) S dX10_holdsFoes_43 (by decide) (fun c2058 => ?_) (fun c2058 => ?_)
                ·
                  have r2059 : R (0) (0) v2052 := ⟨by omega, by omega⟩
                  refine r_iinc (k := 3) S dX10_holdsFoes_57 hl rfl (by decide) (by decide) (fun v2060 d2061 ls z2062 z2063 hl => ?_)
                  obtain ⟨e2064, r2065⟩ := i_add (lo := 2) (hi := 10) z2062 r2029 (R_eq z2063) rfl
                  have hl : lv_has ls 4 [(3, .int v2060), (0, .ref (G.2.2.2.1 22)), (1, .int a0), (2, .int i1939)] := hl
                  refine r_goto (tgt := 17) S dX10_holdsFoes_60 (by decide) ?_
                  exact ih2021 _ _ _ v2060 X2050 (R_of r2065 rfl) (lv_sub hl [1, 2, 3, 0] rfl) (by omega)
                ·
                  have r2066 : R (1) (1) v2052 := ⟨by omega, by omega⟩
                  refine r_aload_n S dX10_holdsFoes_46 rfl (lv_at hl 0 rfl) ?_
                  refine r_iload_n S dX10_holdsFoes_47 rfl (lv_at hl 2 rfl) ?_
                  refine r_iload_n S dX10_holdsFoes_48 rfl (lv_at hl 3 rfl) ?_
                  refine r_ki (q_V (As := [.int i1939, .int i2017]) (rest := []) (K := 22) (ci := 8) S X2050 (c_X10_areFoes l G τ hI i1939 i2017 r1951 (R_of (lo := 0) (hi := 9) r2029 rfl)) ck10_105 (Nat.le_of_ble_eq_true rfl) rfl (fun _ => ⟨_, rfl⟩) ⟨_, _, rfl⟩ ⟨Nat.le_of_ble_eq_true rfl, Nat.le_of_ble_eq_true rfl⟩ rfl hl.1 rfl (Nat.le_of_ble_eq_true rfl) dX10_holdsFoes_49 ⟨Nat.le_refl 0, Nat.le_refl 0⟩) X2050 (fun v2070 t2069 H lc q2067 X2068 => ?_)
                  unfold po_X10_areFoes at q2067
                  obtain ⟨q2071, q2072⟩ := q2067
                  rw [q2071] at X2068
                  refine r_if_eq (tgt := 57) S dX10_holdsFoes_52 (by decide) (fun c2073 => ?_) (fun c2073 => ?_)
                  ·
                    have r2074 : R (0) (0) v2070 := ⟨by omega, by omega⟩
                    refine r_iinc (k := 3) S dX10_holdsFoes_57 hl rfl (by decide) (by decide) (fun v2075 d2076 ls z2077 z2078 hl => ?_)
                    obtain ⟨e2079, r2080⟩ := i_add (lo := 2) (hi := 10) z2077 r2029 (R_eq z2078) rfl
                    have hl : lv_has ls 4 [(3, .int v2075), (0, .ref (G.2.2.2.1 22)), (1, .int a0), (2, .int i1939)] := hl
                    refine r_goto (tgt := 17) S dX10_holdsFoes_60 (by decide) ?_
                    exact ih2021 _ _ _ v2075 X2068 (R_of r2080 rfl) (lv_sub hl [1, 2, 3, 0] rfl) (by omega)
                  ·
                    have r2081 : R (1) (1) v2070 := ⟨by omega, by omega⟩
                    refine r_iconst S dX10_holdsFoes_55 (by decide) (fun v2082 z2083 => ?_)
                    have r2084 := R_eq z2083
                    exact r_ret S hr hlk X2068 ⟨rfl, (R_of r2084 rfl)⟩ (nr_bool (R_of (lo := 0) (hi := 1) r2084 rfl)) dX10_holdsFoes_56
        exact L2020 _ _ _ _ v1956 X1941 r1959 (lv_sub hl [1, 2, 3, 0] rfl) (Nat.lt_succ_self _)
  exact L1942 _ _ _ _ v1 X (R_of r3 rfl) (lv_sub hl [1, 2, 0] rfl) (Nat.lt_succ_self _)
def po_X10_whyStay (τ : Tau)  (a0 : Int32)   (r : Int32) (u : Tau) : Prop := u = τ ∧ R (0) (4) r
set_option maxHeartbeats 4000000 in
set_option maxRecDepth 100000 in
theorem c_X10_whyStay (l : Launch) (G : Gx) (τ : Tau) (hI : Inv τ) (a0 : Int32) (h_a0 : R (-2147483648) (2147483647) a0) (hWI : WI τ) : Ci l G yX10_whyStay cX10_whyStay 2 (some .int) 4 97 [.ref (G.2.2.2.1 22), .int a0] τ (po_X10_whyStay τ  a0  ) := by
  unfold Ci
  refine C_of (own := RX10) (by decide) rfl (Nat.le_of_ble_eq_true rfl) ?_
  intro p e s m below meth c ls S hr hlk X hl
  have hl : lv_has ls 2 [(0, .ref (G.2.2.2.1 22)), (1, .int a0)] := hl
  refine r_iload_n S dX10_whyStay_0 rfl (lv_at hl 1 rfl) ?_
  refine r_if_eq (tgt := 15) S dX10_whyStay_1 (by decide) (fun c1 => ?_) (fun c1 => ?_)
  ·
    have r2 : R (0) (0) a0 := ⟨by omega, by omega⟩
    refine r_iconst S dX10_whyStay_15 (by decide) (fun v3 z4 => ?_)
    have r5 := R_eq z4
    exact r_ret S hr hlk X ⟨rfl, (R_of r5 rfl)⟩ rfl dX10_whyStay_16
  ·
    refine r_iload_n S dX10_whyStay_4 rfl (lv_at hl 1 rfl) ?_
    refine r_aload_n S dX10_whyStay_5 rfl (lv_at hl 0 rfl) ?_
    refine r_ki (q_V (As := []) (rest := [.int a0]) (K := 22) (ci := 8) S X (c_X10_here l G τ hI ) ck10_109 (Nat.le_of_ble_eq_true rfl) rfl (fun _ => ⟨_, rfl⟩) ⟨_, _, rfl⟩ ⟨Nat.le_of_ble_eq_true rfl, Nat.le_of_ble_eq_true rfl⟩ rfl hl.1 rfl (Nat.le_of_ble_eq_true rfl) dX10_whyStay_6 ⟨Nat.le_refl 0, Nat.le_refl 0⟩) X (fun v9 t8 H lc q6 X7 => ?_)
    unfold po_X10_here at q6
    obtain ⟨q10, q11⟩ := q6
    rw [q10] at X7
    refine r_iconst S dX10_whyStay_9 (by decide) (fun v12 z13 => ?_)
    have r14 := R_eq z13
    refine r_ixor S dX10_whyStay_10 (fun v15 z16 => ?_)
    have r17 := R_any v15
    refine r_iand S dX10_whyStay_11 (fun v18 z19 => ?_)
    have r20 := R_any v18
    refine r_if_eq (tgt := 17) S dX10_whyStay_12 (by decide) (fun c21 => ?_) (fun c21 => ?_)
    ·
      have r22 : R (0) (0) v18 := ⟨by omega, by omega⟩
      refine r_iload_n S dX10_whyStay_17 rfl (lv_at hl 1 rfl) ?_
      refine r_ki (q_S (As := [.int a0]) (rest := []) S X7 (c_J6_bitCount_0f7a4 l G τ hI a0 h_a0) ck10_73 ⟨Nat.le_of_ble_eq_true rfl, Nat.le_of_ble_eq_true rfl⟩ rfl hl.1 rfl (Nat.le_of_ble_eq_true rfl) dX10_whyStay_18 ⟨Nat.le_refl 0, Nat.le_refl 0⟩) X7 (fun v26 t25 H lc q23 X24 => ?_)
      unfold po_J6_bitCount_0f7a4 at q23
      obtain ⟨q27, q28⟩ := q23
      rw [q27] at X24
      refine r_aload_n S dX10_whyStay_21 rfl (lv_at hl 0 rfl) ?_
      refine r_get (K := 22) (v := .ref (G.2.2.2.1 23)) S X24 (Nat.le_of_ble_eq_true rfl) rfl lk10_12_8 (fun _ => ⟨_, rfl, rfl⟩) dX10_whyStay_22 ?_
      refine r_getn (K := 4) S X24 (Nat.le_of_ble_eq_true rfl) rfl lk10_112_2 (fun _ => ⟨_, rfl, rfl⟩) dX10_whyStay_25 (fun v29 z30 => ?_)
      have r31 : R (0) (8) v29 := rd hI rfl z30
      refine r_icmp_le (tgt := 33) S dX10_whyStay_28 (by decide) (fun c32 => ?_) (fun c32 => ?_)
      ·
        have r33 : R (0) (8) v26 := ⟨by omega, by omega⟩
        refine r_aload_n S dX10_whyStay_33 rfl (lv_at hl 0 rfl) ?_
        refine r_get (K := 22) (v := .ref (G.2.2.2.1 23)) S X24 (Nat.le_of_ble_eq_true rfl) rfl lk10_12_8 (fun _ => ⟨_, rfl, rfl⟩) dX10_whyStay_34 ?_
        refine r_getn (K := 4) S X24 (Nat.le_of_ble_eq_true rfl) rfl lk10_52_2 (fun _ => ⟨_, rfl, rfl⟩) dX10_whyStay_37 (fun v34 z35 => ?_)
        have r36 : R (0) (9) v34 := rd hI rfl z35
        refine r_if_eq (tgt := 62) S dX10_whyStay_40 (by decide) (fun c37 => ?_) (fun c37 => ?_)
        ·
          have r38 : R (0) (0) v34 := ⟨by omega, by omega⟩
          refine r_iconst S dX10_whyStay_62 (by decide) (fun v39 z40 => ?_)
          have r41 := R_eq z40
          exact r_ret S hr hlk X24 ⟨rfl, (R_of r41 rfl)⟩ rfl dX10_whyStay_63
        ·
          have r42 : R (1) (9) v34 := ⟨by omega, by omega⟩
          refine r_aload_n S dX10_whyStay_43 rfl (lv_at hl 0 rfl) ?_
          refine r_aload_n S dX10_whyStay_44 rfl (lv_at hl 0 rfl) ?_
          refine r_iload_n S dX10_whyStay_45 rfl (lv_at hl 1 rfl) ?_
          refine r_aload_n S dX10_whyStay_46 rfl (lv_at hl 0 rfl) ?_
          refine r_get (K := 22) (v := .ref (G.2.2.2.1 30)) S X24 (Nat.le_of_ble_eq_true rfl) rfl lk10_21_8 (fun _ => ⟨_, rfl, rfl⟩) dX10_whyStay_47 ?_
          refine r_getn (K := 23) S X24 (Nat.le_of_ble_eq_true rfl) rfl lk10_115_3 (fun _ => ⟨_, rfl, rfl⟩) dX10_whyStay_50 (fun v43 z44 => ?_)
          have r45 : R (-1) (8) v43 := rd hI rfl z44
          have r46 : R 0 8 v43 := WI_r hWI z35 z44 (R_of r42 rfl) (R_of r45 rfl)
          refine r_ki (q_V (As := [.int a0, .int v43]) (rest := [.ref (G.2.2.2.1 22)]) (K := 22) (ci := 8) S X24 (c_X10_together l G τ hI a0 v43 h_a0 r46) ck10_118 (Nat.le_of_ble_eq_true rfl) rfl (fun _ => ⟨_, rfl⟩) ⟨_, _, rfl⟩ ⟨Nat.le_of_ble_eq_true rfl, Nat.le_of_ble_eq_true rfl⟩ rfl hl.1 rfl (Nat.le_of_ble_eq_true rfl) dX10_whyStay_53 ⟨Nat.le_refl 0, Nat.le_refl 0⟩) X24 (fun v50 t49 H lc q47 X48 => ?_)
          unfold po_X10_together at q47
          have q51 := q47
          rw [q51] at X48
          have r52 := R_any v50
          refine r_ki (q_V (As := [.int v50]) (rest := []) (K := 22) (ci := 8) S X48 (c_X10_isLevel l G τ hI v50 r52) ck10_121 (Nat.le_of_ble_eq_true rfl) rfl (fun _ => ⟨_, rfl⟩) ⟨_, _, rfl⟩ ⟨Nat.le_of_ble_eq_true rfl, Nat.le_of_ble_eq_true rfl⟩ rfl hl.1 rfl (Nat.le_of_ble_eq_true rfl) dX10_whyStay_56 ⟨Nat.le_refl 0, Nat.le_refl 0⟩) X48 (fun v56 t55 H lc q53 X54 => ?_)
          unfold po_X10_isLevel at q53
          obtain ⟨q57, q58⟩ := q53
          rw [q57] at X54
          refine r_if_ne (tgt := 64) S dX10_whyStay_59 (by decide) (fun c59 => ?_) (fun c59 => ?_)
          ·
            have r60 : R (1) (1) v56 := ⟨by omega, by omega⟩
            refine r_aload_n S dX10_whyStay_64 rfl (lv_at hl 0 rfl) ?_
            refine r_iload_n S dX10_whyStay_65 rfl (lv_at hl 1 rfl) ?_
            refine r_ki (q_V (As := [.int a0]) (rest := []) (K := 22) (ci := 8) S X54 (c_X10_holdsFoes l G τ hI a0 h_a0) ck10_125 (Nat.le_of_ble_eq_true rfl) rfl (fun _ => ⟨_, rfl⟩) ⟨_, _, rfl⟩ ⟨Nat.le_of_ble_eq_true rfl, Nat.le_of_ble_eq_true rfl⟩ rfl hl.1 rfl (Nat.le_of_ble_eq_true rfl) dX10_whyStay_66 ⟨Nat.le_refl 0, Nat.le_refl 0⟩) X54 (fun v64 t63 H lc q61 X62 => ?_)
            unfold po_X10_holdsFoes at q61
            obtain ⟨q65, q66⟩ := q61
            rw [q65] at X62
            refine r_if_eq (tgt := 76) S dX10_whyStay_69 (by decide) (fun c67 => ?_) (fun c67 => ?_)
            ·
              have r68 : R (0) (0) v64 := ⟨by omega, by omega⟩
              refine r_iconst S dX10_whyStay_76 (by decide) (fun v69 z70 => ?_)
              have r71 := R_eq z70
              exact r_ret S hr hlk X62 ⟨rfl, (R_of r71 rfl)⟩ rfl dX10_whyStay_77
            ·
              have r72 : R (1) (1) v64 := ⟨by omega, by omega⟩
              refine r_iconst S dX10_whyStay_72 (by decide) (fun v73 z74 => ?_)
              have r75 := R_eq z74
              refine r_goto (tgt := 77) S dX10_whyStay_73 (by decide) ?_
              exact r_ret S hr hlk X62 ⟨rfl, (R_of r75 rfl)⟩ rfl dX10_whyStay_77
          ·
            have r76 : R (0) (0) v56 := ⟨by omega, by omega⟩
            refine r_iconst S dX10_whyStay_62 (by decide) (fun v77 z78 => ?_)
            have r79 := R_eq z78
            exact r_ret S hr hlk X54 ⟨rfl, (R_of r79 rfl)⟩ rfl dX10_whyStay_63
      ·
        have r80 : R (1) (63) v26 := ⟨by omega, by omega⟩
        refine r_iconst S dX10_whyStay_31 (by decide) (fun v81 z82 => ?_)
        have r83 := R_eq z82
        exact r_ret S hr hlk X24 ⟨rfl, (R_of r83 rfl)⟩ rfl dX10_whyStay_32
    ·
      refine r_iconst S dX10_whyStay_15 (by decide) (fun v84 z85 => ?_)
      have r86 := R_eq z85
      exact r_ret S hr hlk X7 ⟨rfl, (R_of r86 rfl)⟩ rfl dX10_whyStay_16
def po_X7_addNumber (τ : Tau)  (a0 : Int32)   (u : Tau) : Prop := Inv u ∧ Fr [(1, 1)] [2] τ u ∧ ((τ 1 1).toInt ≤ 936 → (u 1 1).toInt = (τ 1 1).toInt + 4)
set_option maxHeartbeats 4000000 in
set_option maxRecDepth 100000 in
theorem c_X7_addNumber (l : Launch) (G : Gx) (τ : Tau) (hI : Inv τ) (a0 : Int32) (h_a0 : R (-2147483648) (2147483647) a0) : Cv l G yX7_addNumber cX7_addNumber 3 0 0 [.ref (G.2.2.2.1 1), .int a0] τ (po_X7_addNumber τ  a0  ) := by
  unfold Cv
  refine C_of (own := RX7) (by decide) rfl (Nat.le_of_ble_eq_true rfl) ?_
  intro p e s m below meth c ls S hr hlk X hl
  have hl : lv_has ls 3 [(0, .ref (G.2.2.2.1 1)), (1, .int a0)] := hl
  refine r_aload_n S dX7_addNumber_0 rfl (lv_at hl 0 rfl) ?_
  refine r_getn (K := 1) S X (Nat.le_of_ble_eq_true rfl) rfl lk7_15_7 (fun _ => ⟨_, rfl, rfl⟩) dX7_addNumber_1 (fun v1 z2 => ?_)
  have r3 : R (0) (940) v1 := rd hI rfl z2
  refine r_iconst S dX7_addNumber_4 (by decide) (fun v4 z5 => ?_)
  have r6 := R_eq z5
  refine r_iadd S dX7_addNumber_5 (fun v7 z8 => ?_)
  obtain ⟨e9, r10⟩ := i_add (lo := 4) (hi := 944) z8 r3 r6 rfl
  refine r_sipush S dX7_addNumber_6 (by decide) (fun v11 z12 => ?_)
  have r13 := R_eq z12
  refine r_icmp_le (tgt := 13) S dX7_addNumber_9 (by decide) (fun c14 => ?_) (fun c14 => ?_)
  ·
    have r15 : R (4) (940) v7 := ⟨by omega, by omega⟩
    have r16 : R (0) (936) v1 := ⟨by omega, by omega⟩
    refine r_bipush S dX7_addNumber_13 (by decide) (fun v17 z18 => ?_)
    have r19 := R_eq z18
    refine r_istore_n (lv' := [(2, .int v17), (0, .ref (G.2.2.2.1 1)), (1, .int a0)]) S dX7_addNumber_15 rfl hl (by decide) rfl (fun ls hl => ?_)
    refine r_iload_n S dX7_addNumber_16 rfl (lv_at hl 0 rfl) ?_
    refine r_if_lt (tgt := 52) S dX7_addNumber_17 (by decide) (fun c20 => ?_) (fun c20 => ?_)
    ·
      exfalso; omega
    ·
      refine r_aload_n S dX7_addNumber_20 rfl (lv_at hl 1 rfl) ?_
      refine r_get (K := 1) (v := .ref (G.2.2.2.1 2)) S X (Nat.le_of_ble_eq_true rfl) rfl lk7_9_7 (fun _ => ⟨_, rfl, rfl⟩) dX7_addNumber_21 ?_
      refine r_aload_n S dX7_addNumber_24 rfl (lv_at hl 1 rfl) ?_
      refine r_geti (K := 1) S X (Nat.le_of_ble_eq_true rfl) rfl lk7_15_7 (fun _ => ⟨_, rfl, rfl⟩) z2 dX7_addNumber_25 ?_
      refine r_iload_n S dX7_addNumber_28 rfl (lv_at hl 2 rfl) ?_
      refine r_iload_n S dX7_addNumber_29 rfl (lv_at hl 0 rfl) ?_
      refine r_iushr S dX7_addNumber_30 (fun v21 z22 => ?_)
      have r24 : R (0) (255) v21 := i_ushrc z22 h_a0 r19 rfl
      refine r_sipush S dX7_addNumber_31 (by decide) (fun v25 z26 => ?_)
      have r27 := R_eq z26
      refine r_iand S dX7_addNumber_34 (fun v28 z29 => ?_)
      have r31 : R (0) (255) v28 := i_and1 z29 r24 r27 rfl
      have e32 := i_andle z29 r24 rfl
      refine r_ast (n := 940) (K := 2) S X (Nat.le_of_ble_eq_true rfl) rfl (fun _ _ => rfl) (ix_of r16 rfl) dX7_addNumber_35 (fun t33 H lc M34 X35 => ?_)
      have I36 := Inv_mu hI M34 (show Rg (kd 2) _ v28 from (R_of (lo := 0) (hi := 255) r31 rfl))
      have F37 : Fr [(1, 1)] [2] τ t33 := Fr_cell Fr_rfl M34 (by decide)
      refine r_aload_n S dX7_addNumber_36 rfl (lv_at hl 1 rfl) ?_
      refine r_dup S dX7_addNumber_37 rfl ?_
      refine r_geti (K := 1) S X35 (Nat.le_of_ble_eq_true rfl) rfl lk7_15_7 (fun _ => ⟨_, rfl, rfl⟩) ((M34.2 1 1 (Or.inl (by decide))).trans z2) dX7_addNumber_38 ?_
      refine r_iconst S dX7_addNumber_41 (by decide) (fun v38 z39 => ?_)
      have r40 := R_eq z39
      refine r_iadd S dX7_addNumber_42 (fun v41 z42 => ?_)
      obtain ⟨e43, r44⟩ := i_add (lo := 1) (hi := 937) z42 r16 r40 rfl
      refine r_put (K := 1) (ty := .int) S X35 (Nat.le_of_ble_eq_true rfl) rfl lk7_15_7 (fun _ => ⟨_, rfl, Nat.le_of_ble_eq_true rfl, rfl⟩) (fun _ _ _ h => by cases h; exact ⟨rfl, rfl⟩) rfl rfl dX7_addNumber_43 (fun t45 H lc M46 X47 => ?_)
      have I48 := Inv_mu I36 M46 (show Rg (kd 1) 1 v41 from (R_of (lo := 0) (hi := 940) r44 rfl))
      have F49 : Fr [(1, 1)] [2] τ t45 := Fr_mu F37 M46 (by decide)
      refine r_iinc (k := 0) S dX7_addNumber_46 hl rfl (by decide) (by decide) (fun v50 d51 ls z52 z53 hl => ?_)
      obtain ⟨e54, r55⟩ := i_add (lo := 16) (hi := 16) z52 r19 (R_eq z53) rfl
      have hl : lv_has ls 3 [(2, .int v50), (0, .ref (G.2.2.2.1 1)), (1, .int a0)] := hl
      refine r_goto (tgt := 16) S dX7_addNumber_49 (by decide) ?_
      refine r_iload_n S dX7_addNumber_16 rfl (lv_at hl 0 rfl) ?_
      refine r_if_lt (tgt := 52) S dX7_addNumber_17 (by decide) (fun c56 => ?_) (fun c56 => ?_)
      ·
        exfalso; omega
      ·
        refine r_aload_n S dX7_addNumber_20 rfl (lv_at hl 1 rfl) ?_
        refine r_get (K := 1) (v := .ref (G.2.2.2.1 2)) S X47 (Nat.le_of_ble_eq_true rfl) rfl lk7_9_7 (fun _ => ⟨_, rfl, rfl⟩) dX7_addNumber_21 ?_
        refine r_aload_n S dX7_addNumber_24 rfl (lv_at hl 1 rfl) ?_
        refine r_geti (K := 1) S X47 (Nat.le_of_ble_eq_true rfl) rfl lk7_15_7 (fun _ => ⟨_, rfl, rfl⟩) M46.1 dX7_addNumber_25 ?_
        refine r_iload_n S dX7_addNumber_28 rfl (lv_at hl 2 rfl) ?_
        refine r_iload_n S dX7_addNumber_29 rfl (lv_at hl 0 rfl) ?_
        refine r_iushr S dX7_addNumber_30 (fun v57 z58 => ?_)
        have r60 : R (0) (65535) v57 := i_ushrc z58 h_a0 r55 rfl
        refine r_sipush S dX7_addNumber_31 (by decide) (fun v61 z62 => ?_)
        have r63 := R_eq z62
        refine r_iand S dX7_addNumber_34 (fun v64 z65 => ?_)
        have r67 : R (0) (255) v64 := i_and2 z65 r60 r63 rfl
        have e68 := i_andle z65 r60 rfl
        refine r_ast (n := 940) (K := 2) S X47 (Nat.le_of_ble_eq_true rfl) rfl (fun _ _ => rfl) (ix_of r44 rfl) dX7_addNumber_35 (fun t69 H lc M70 X71 => ?_)
        have I72 := Inv_mu I48 M70 (show Rg (kd 2) _ v64 from (R_of (lo := 0) (hi := 255) r67 rfl))
        have F73 : Fr [(1, 1)] [2] τ t69 := Fr_cell F49 M70 (by decide)
        refine r_aload_n S dX7_addNumber_36 rfl (lv_at hl 1 rfl) ?_
        refine r_dup S dX7_addNumber_37 rfl ?_
        refine r_geti (K := 1) S X71 (Nat.le_of_ble_eq_true rfl) rfl lk7_15_7 (fun _ => ⟨_, rfl, rfl⟩) ((M70.2 1 1 (Or.inl (by decide))).trans M46.1) dX7_addNumber_38 ?_
        refine r_iconst S dX7_addNumber_41 (by decide) (fun v74 z75 => ?_)
        have r76 := R_eq z75
        refine r_iadd S dX7_addNumber_42 (fun v77 z78 => ?_)
        obtain ⟨e79, r80⟩ := i_add (lo := 2) (hi := 938) z78 r44 r76 rfl
        refine r_put (K := 1) (ty := .int) S X71 (Nat.le_of_ble_eq_true rfl) rfl lk7_15_7 (fun _ => ⟨_, rfl, Nat.le_of_ble_eq_true rfl, rfl⟩) (fun _ _ _ h => by cases h; exact ⟨rfl, rfl⟩) rfl rfl dX7_addNumber_43 (fun t81 H lc M82 X83 => ?_)
        have I84 := Inv_mu I72 M82 (show Rg (kd 1) 1 v77 from (R_of (lo := 0) (hi := 940) r80 rfl))
        have F85 : Fr [(1, 1)] [2] τ t81 := Fr_mu F73 M82 (by decide)
        refine r_iinc (k := 0) S dX7_addNumber_46 hl rfl (by decide) (by decide) (fun v86 d87 ls z88 z89 hl => ?_)
        obtain ⟨e90, r91⟩ := i_add (lo := 8) (hi := 8) z88 r55 (R_eq z89) rfl
        have hl : lv_has ls 3 [(2, .int v86), (0, .ref (G.2.2.2.1 1)), (1, .int a0)] := hl
        refine r_goto (tgt := 16) S dX7_addNumber_49 (by decide) ?_
        refine r_iload_n S dX7_addNumber_16 rfl (lv_at hl 0 rfl) ?_
        refine r_if_lt (tgt := 52) S dX7_addNumber_17 (by decide) (fun c92 => ?_) (fun c92 => ?_)
        ·
          exfalso; omega
        ·
          refine r_aload_n S dX7_addNumber_20 rfl (lv_at hl 1 rfl) ?_
          refine r_get (K := 1) (v := .ref (G.2.2.2.1 2)) S X83 (Nat.le_of_ble_eq_true rfl) rfl lk7_9_7 (fun _ => ⟨_, rfl, rfl⟩) dX7_addNumber_21 ?_
          refine r_aload_n S dX7_addNumber_24 rfl (lv_at hl 1 rfl) ?_
          refine r_geti (K := 1) S X83 (Nat.le_of_ble_eq_true rfl) rfl lk7_15_7 (fun _ => ⟨_, rfl, rfl⟩) M82.1 dX7_addNumber_25 ?_
          refine r_iload_n S dX7_addNumber_28 rfl (lv_at hl 2 rfl) ?_
          refine r_iload_n S dX7_addNumber_29 rfl (lv_at hl 0 rfl) ?_
          refine r_iushr S dX7_addNumber_30 (fun v93 z94 => ?_)
          have r96 : R (0) (16777215) v93 := i_ushrc z94 h_a0 r91 rfl
          refine r_sipush S dX7_addNumber_31 (by decide) (fun v97 z98 => ?_)
          have r99 := R_eq z98
          refine r_iand S dX7_addNumber_34 (fun v100 z101 => ?_)
          have r103 : R (0) (255) v100 := i_and2 z101 r96 r99 rfl
          have e104 := i_andle z101 r96 rfl
          refine r_ast (n := 940) (K := 2) S X83 (Nat.le_of_ble_eq_true rfl) rfl (fun _ _ => rfl) (ix_of r80 rfl) dX7_addNumber_35 (fun t105 H lc M106 X107 => ?_)
          have I108 := Inv_mu I84 M106 (show Rg (kd 2) _ v100 from (R_of (lo := 0) (hi := 255) r103 rfl))
          have F109 : Fr [(1, 1)] [2] τ t105 := Fr_cell F85 M106 (by decide)
          refine r_aload_n S dX7_addNumber_36 rfl (lv_at hl 1 rfl) ?_
          refine r_dup S dX7_addNumber_37 rfl ?_
          refine r_geti (K := 1) S X107 (Nat.le_of_ble_eq_true rfl) rfl lk7_15_7 (fun _ => ⟨_, rfl, rfl⟩) ((M106.2 1 1 (Or.inl (by decide))).trans M82.1) dX7_addNumber_38 ?_
          refine r_iconst S dX7_addNumber_41 (by decide) (fun v110 z111 => ?_)
          have r112 := R_eq z111
          refine r_iadd S dX7_addNumber_42 (fun v113 z114 => ?_)
          obtain ⟨e115, r116⟩ := i_add (lo := 3) (hi := 939) z114 r80 r112 rfl
          refine r_put (K := 1) (ty := .int) S X107 (Nat.le_of_ble_eq_true rfl) rfl lk7_15_7 (fun _ => ⟨_, rfl, Nat.le_of_ble_eq_true rfl, rfl⟩) (fun _ _ _ h => by cases h; exact ⟨rfl, rfl⟩) rfl rfl dX7_addNumber_43 (fun t117 H lc M118 X119 => ?_)
          have I120 := Inv_mu I108 M118 (show Rg (kd 1) 1 v113 from (R_of (lo := 0) (hi := 940) r116 rfl))
          have F121 : Fr [(1, 1)] [2] τ t117 := Fr_mu F109 M118 (by decide)
          refine r_iinc (k := 0) S dX7_addNumber_46 hl rfl (by decide) (by decide) (fun v122 d123 ls z124 z125 hl => ?_)
          obtain ⟨e126, r127⟩ := i_add (lo := 0) (hi := 0) z124 r91 (R_eq z125) rfl
          have hl : lv_has ls 3 [(2, .int v122), (0, .ref (G.2.2.2.1 1)), (1, .int a0)] := hl
          refine r_goto (tgt := 16) S dX7_addNumber_49 (by decide) ?_
          refine r_iload_n S dX7_addNumber_16 rfl (lv_at hl 0 rfl) ?_
          refine r_if_lt (tgt := 52) S dX7_addNumber_17 (by decide) (fun c128 => ?_) (fun c128 => ?_)
          ·
            exfalso; omega
          ·
            refine r_aload_n S dX7_addNumber_20 rfl (lv_at hl 1 rfl) ?_
            refine r_get (K := 1) (v := .ref (G.2.2.2.1 2)) S X119 (Nat.le_of_ble_eq_true rfl) rfl lk7_9_7 (fun _ => ⟨_, rfl, rfl⟩) dX7_addNumber_21 ?_
            refine r_aload_n S dX7_addNumber_24 rfl (lv_at hl 1 rfl) ?_
            refine r_geti (K := 1) S X119 (Nat.le_of_ble_eq_true rfl) rfl lk7_15_7 (fun _ => ⟨_, rfl, rfl⟩) M118.1 dX7_addNumber_25 ?_
            refine r_iload_n S dX7_addNumber_28 rfl (lv_at hl 2 rfl) ?_
            refine r_iload_n S dX7_addNumber_29 rfl (lv_at hl 0 rfl) ?_
            refine r_iushr S dX7_addNumber_30 (fun v129 z130 => ?_)
            have r131 := R_any v129
            refine r_sipush S dX7_addNumber_31 (by decide) (fun v132 z133 => ?_)
            have r134 := R_eq z133
            refine r_iand S dX7_addNumber_34 (fun v135 z136 => ?_)
            have r138 : R (0) (255) v135 := i_and2 z136 r131 r134 rfl
            refine r_ast (n := 940) (K := 2) S X119 (Nat.le_of_ble_eq_true rfl) rfl (fun _ _ => rfl) (ix_of r116 rfl) dX7_addNumber_35 (fun t139 H lc M140 X141 => ?_)
            have I142 := Inv_mu I120 M140 (show Rg (kd 2) _ v135 from (R_of (lo := 0) (hi := 255) r138 rfl))
            have F143 : Fr [(1, 1)] [2] τ t139 := Fr_cell F121 M140 (by decide)
            refine r_aload_n S dX7_addNumber_36 rfl (lv_at hl 1 rfl) ?_
            refine r_dup S dX7_addNumber_37 rfl ?_
            refine r_geti (K := 1) S X141 (Nat.le_of_ble_eq_true rfl) rfl lk7_15_7 (fun _ => ⟨_, rfl, rfl⟩) ((M140.2 1 1 (Or.inl (by decide))).trans M118.1) dX7_addNumber_38 ?_
            refine r_iconst S dX7_addNumber_41 (by decide) (fun v144 z145 => ?_)
            have r146 := R_eq z145
            refine r_iadd S dX7_addNumber_42 (fun v147 z148 => ?_)
            obtain ⟨e149, r150⟩ := i_add (lo := 4) (hi := 940) z148 r116 r146 rfl
            refine r_put (K := 1) (ty := .int) S X141 (Nat.le_of_ble_eq_true rfl) rfl lk7_15_7 (fun _ => ⟨_, rfl, Nat.le_of_ble_eq_true rfl, rfl⟩) (fun _ _ _ h => by cases h; exact ⟨rfl, rfl⟩) rfl rfl dX7_addNumber_43 (fun t151 H lc M152 X153 => ?_)
            have I154 := Inv_mu I142 M152 (show Rg (kd 1) 1 v147 from (R_of (lo := 0) (hi := 940) r150 rfl))
            have F155 : Fr [(1, 1)] [2] τ t151 := Fr_mu F143 M152 (by decide)
            refine r_iinc (k := 0) S dX7_addNumber_46 hl rfl (by decide) (by decide) (fun v156 d157 ls z158 z159 hl => ?_)
            obtain ⟨e160, r161⟩ := i_add (lo := -8) (hi := -8) z158 r127 (R_eq z159) rfl
            have hl : lv_has ls 3 [(2, .int v156), (0, .ref (G.2.2.2.1 1)), (1, .int a0)] := hl
            refine r_goto (tgt := 16) S dX7_addNumber_49 (by decide) ?_
            refine r_iload_n S dX7_addNumber_16 rfl (lv_at hl 0 rfl) ?_
            refine r_if_lt (tgt := 52) S dX7_addNumber_17 (by decide) (fun c162 => ?_) (fun c162 => ?_)
            ·
              exact r_vret S hr hlk X153 ⟨I154, F155, (by have h1_0 := congrArg Int32.toInt M152.1; have h2_0 := congrArg Int32.toInt z2; omega)⟩ dX7_addNumber_52
            ·
              exfalso; omega
  ·
    have r163 : R (941) (944) v7 := ⟨by omega, by omega⟩
    have r164 : R (937) (940) v1 := ⟨by omega, by omega⟩
    exact r_vret S hr hlk X ⟨hI, Fr_rfl, (by have h1_0 := congrArg Int32.toInt z2; have h2_0 := congrArg Int32.toInt z2; omega)⟩ dX7_addNumber_12
def po_X7_pairAt (τ : Tau)  (a0 : Int32)   (r : Int32) (u : Tau) : Prop := u = τ ∧ R (0) (65535) r
set_option maxHeartbeats 4000000 in
set_option maxRecDepth 100000 in
theorem c_X7_pairAt (l : Launch) (G : Gx) (τ : Tau) (hI : Inv τ) (a0 : Int32) (h_a0 : R (0) (400) a0) : Ci l G yX7_pairAt cX7_pairAt 2 (some .int) 0 0 [.ref (G.2.2.2.1 1), .int a0] τ (po_X7_pairAt τ  a0  ) := by
  unfold Ci
  refine C_of (own := RX7) (by decide) rfl (Nat.le_of_ble_eq_true rfl) ?_
  intro p e s m below meth c ls S hr hlk X hl
  have hl : lv_has ls 2 [(0, .ref (G.2.2.2.1 1)), (1, .int a0)] := hl
  refine r_iload_n S dX7_pairAt_0 rfl (lv_at hl 1 rfl) ?_
  refine r_if_lt (tgt := 13) S dX7_pairAt_1 (by decide) (fun c1 => ?_) (fun c1 => ?_)
  ·
    exfalso; omega
  ·
    refine r_iload_n S dX7_pairAt_4 rfl (lv_at hl 1 rfl) ?_
    refine r_iconst S dX7_pairAt_5 (by decide) (fun v2 z3 => ?_)
    have r4 := R_eq z3
    refine r_iadd S dX7_pairAt_6 (fun v5 z6 => ?_)
    obtain ⟨e7, r8⟩ := i_add (lo := 1) (hi := 401) z6 h_a0 r4 rfl
    refine r_sipush S dX7_pairAt_7 (by decide) (fun v9 z10 => ?_)
    have r11 := R_eq z10
    refine r_icmp_lt (tgt := 17) S dX7_pairAt_10 (by decide) (fun c12 => ?_) (fun c12 => ?_)
    ·
      refine r_aload_n S dX7_pairAt_17 rfl (lv_at hl 0 rfl) ?_
      refine r_get (K := 1) (v := .ref (G.2.2.2.1 2)) S X (Nat.le_of_ble_eq_true rfl) rfl lk7_9_7 (fun _ => ⟨_, rfl, rfl⟩) dX7_pairAt_18 ?_
      refine r_iload_n S dX7_pairAt_21 rfl (lv_at hl 1 rfl) ?_
      refine r_aldn (n := 940) (K := 2) S X (Nat.le_of_ble_eq_true rfl) rfl (fun _ => rfl) (ix_of h_a0 rfl) dX7_pairAt_22 (fun v13 z14 => ?_)
      have r15 : R (0) (255) v13 := rd hI rfl z14
      refine r_sipush S dX7_pairAt_23 (by decide) (fun v16 z17 => ?_)
      have r18 := R_eq z17
      refine r_imul S dX7_pairAt_26 (fun v19 z20 => ?_)
      obtain ⟨e21, r22⟩ := i_mul (lo := 0) (hi := 65280) z20 r15 r18 rfl rfl
      have e23 : v19.toInt = v13.toInt * 256 := by rw [e21, show v16.toInt = 256 by omega]
      refine r_aload_n S dX7_pairAt_27 rfl (lv_at hl 0 rfl) ?_
      refine r_get (K := 1) (v := .ref (G.2.2.2.1 2)) S X (Nat.le_of_ble_eq_true rfl) rfl lk7_9_7 (fun _ => ⟨_, rfl, rfl⟩) dX7_pairAt_28 ?_
      refine r_iload_n S dX7_pairAt_31 rfl (lv_at hl 1 rfl) ?_
      refine r_iconst S dX7_pairAt_32 (by decide) (fun v24 z25 => ?_)
      have r26 := R_eq z25
      refine r_iadd S dX7_pairAt_33 (fun v27 z28 => ?_)
      obtain ⟨e29, r30⟩ := i_add (lo := 1) (hi := 401) z28 h_a0 r26 rfl
      refine r_aldn (n := 940) (K := 2) S X (Nat.le_of_ble_eq_true rfl) rfl (fun _ => rfl) (ix_of r30 rfl) dX7_pairAt_34 (fun v31 z32 => ?_)
      have r33 : R (0) (255) v31 := rd hI rfl z32
      refine r_iadd S dX7_pairAt_35 (fun v34 z35 => ?_)
      obtain ⟨e36, r37⟩ := i_add (lo := 0) (hi := 65535) z35 r22 r33 rfl
      exact r_ret S hr hlk X ⟨rfl, r37⟩ rfl dX7_pairAt_36
    ·
      exfalso; omega
def po_X7_step (τ : Tau)     (u : Tau) : Prop := Inv u ∧ Fr [(1, 3), (1, 4), (1, 5), (1, 7), (1, 8)] [201] τ u
set_option maxHeartbeats 4000000 in
set_option maxRecDepth 100000 in
theorem c_X7_step (l : Launch) (G : Gx) (τ : Tau) (hI : Inv τ) : Cv l G yX7_step cX7_step 5 0 0 [.ref (G.2.2.2.1 1)] τ (po_X7_step τ    ) := by
  unfold Cv
  refine C_of (own := RX7) (by decide) rfl (Nat.le_of_ble_eq_true rfl) ?_
  intro p e s m below meth c ls S hr hlk X hl
  have hl : lv_has ls 5 [(0, .ref (G.2.2.2.1 1))] := hl
  refine r_aload_n S dX7_step_0 rfl (lv_at hl 0 rfl) ?_
  refine r_getn (K := 1) S X (Nat.le_of_ble_eq_true rfl) rfl lk7_15_7 (fun _ => ⟨_, rfl, rfl⟩) dX7_step_1 (fun v1 z2 => ?_)
  have r3 : R (0) (940) v1 := rd hI rfl z2
  refine r_aload_n S dX7_step_4 rfl (lv_at hl 0 rfl) ?_
  refine r_getn (K := 1) S X (Nat.le_of_ble_eq_true rfl) rfl lk7_19_7 (fun _ => ⟨_, rfl, rfl⟩) dX7_step_5 (fun v4 z5 => ?_)
  have r6 : R (0) (900) v4 := rd hI rfl z5
  have J13 : ∀ (H : Heap) (lc : List Loc) (ls : Array Slot) (i11 : Int32), Xd G s H lc τ → R (0) (900) i11 → lv_has ls 5 [(0, .ref (G.2.2.2.1 1))] → W p l e (Rm 0 0) s m ([.ref (G.2.2.2.1 1)] : List Value).toArray below meth c H lc 0 0 (MQ below (va_Qv (po_X7_step τ    ) (Bs G) G.2.2.2.2) ([.ref (G.2.2.2.1 1)] : List Value).toArray s 0 0 G.2.2.2.2) (F0 m 22 ls [.int i11]) := by
    intro H lc ls i11 X10 r12 hl
    refine r_istore_n (lv' := [(1, .int i11), (0, .ref (G.2.2.2.1 1))]) S dX7_step_22 rfl hl (by decide) rfl (fun ls hl => ?_)
    refine r_aload_n S dX7_step_23 rfl (lv_at hl 1 rfl) ?_
    refine r_aload_n S dX7_step_24 rfl (lv_at hl 1 rfl) ?_
    refine r_getn (K := 1) S X10 (Nat.le_of_ble_eq_true rfl) rfl lk7_22_7 (fun _ => ⟨_, rfl, rfl⟩) dX7_step_25 (fun v14 z15 => ?_)
    have r16 : R (0) (940) v14 := rd hI rfl z15
    refine r_put (K := 1) (ty := .int) S X10 (Nat.le_of_ble_eq_true rfl) rfl lk7_28_7 (fun _ => ⟨_, rfl, Nat.le_of_ble_eq_true rfl, rfl⟩) (fun _ _ _ h => by cases h; exact ⟨rfl, rfl⟩) rfl rfl dX7_step_28 (fun t17 H lc M18 X19 => ?_)
    have I20 := Inv_mu hI M18 (show Rg (kd 1) 3 v14 from (R_of (lo := 0) (hi := 940) r16 rfl))
    have F21 : Fr [(1, 3), (1, 4), (1, 5), (1, 7), (1, 8)] [201] τ t17 := Fr_mu Fr_rfl M18 (by decide)
    have L309 : ∀ (n : Nat) (t299 : Tau) (H : Heap) (lc : List Loc) (ls : Array Slot) (f306 : Int32), Xd G s H lc t299 → Inv t299 → Fr [(1, 3), (1, 4), (1, 5), (1, 7), (1, 8)] [201] τ t299 → t299 1 1 = v1 → t299 1 2 = v4 → t299 1 4 = v14 → t299 1 3 = f306 → R (0) (940) f306 → lv_has ls 5 [(0, .ref (G.2.2.2.1 1)), (1, .int i11)] → (940 - f306.toInt).toNat < n → W p l e (Rm 0 0) s m ([.ref (G.2.2.2.1 1)] : List Value).toArray below meth c H lc 0 0 (MQ below (va_Qv (po_X7_step τ    ) (Bs G) G.2.2.2.2) ([.ref (G.2.2.2.1 1)] : List Value).toArray s 0 0 G.2.2.2.2) (F0 m 31 ls []) := by
      intro n
      induction n with
      | zero => intros; omega
      | succ n ih310 =>
        intro t299 H lc ls f306 X302 I300 F301 z303 z304 z305 z308 r307 hl hm
        refine r_aload_n S dX7_step_31 rfl (lv_at hl 0 rfl) ?_
        refine r_geti (K := 1) S X302 (Nat.le_of_ble_eq_true rfl) rfl lk7_28_7 (fun _ => ⟨_, rfl, rfl⟩) z308 dX7_step_32 ?_
        refine r_iload_n S dX7_step_35 rfl (lv_at hl 1 rfl) ?_
        have J355 : ∀ (H : Heap) (lc : List Loc) (ls : Array Slot), Xd G s H lc t299 → lv_has ls 5 [(0, .ref (G.2.2.2.1 1)), (1, .int i11)] → W p l e (Rm 0 0) s m ([.ref (G.2.2.2.1 1)] : List Value).toArray below meth c H lc 0 0 (MQ below (va_Qv (po_X7_step τ    ) (Bs G) G.2.2.2.2) ([.ref (G.2.2.2.1 1)] : List Value).toArray s 0 0 G.2.2.2.2) (F0 m 80 ls []) := by
          intro H lc ls X354 hl
          refine r_aload_n S dX7_step_80 rfl (lv_at hl 0 rfl) ?_
          refine r_geti (K := 1) S X354 (Nat.le_of_ble_eq_true rfl) rfl lk7_28_7 (fun _ => ⟨_, rfl, rfl⟩) z308 dX7_step_81 ?_
          refine r_iload_n S dX7_step_84 rfl (lv_at hl 1 rfl) ?_
          refine r_icmp_lt (tgt := 114) S dX7_step_85 (by decide) (fun c356 => ?_) (fun c356 => ?_)
          ·
            have r357 : R (0) (899) f306 := ⟨by omega, by omega⟩
            have r358 : R (1) (900) i11 := ⟨by omega, by omega⟩
            refine r_iconst S dX7_step_114 (by decide) (fun v359 z360 => ?_)
            have r361 := R_eq z360
            refine r_istore_n (lv' := [(2, .int v359), (0, .ref (G.2.2.2.1 1)), (1, .int i11)]) S dX7_step_115 rfl hl (by decide) rfl (fun ls hl => ?_)
            refine r_iconst S dX7_step_116 (by decide) (fun v362 z363 => ?_)
            have r364 := R_eq z363
            refine r_istore_n (lv' := [(3, .int v362), (2, .int v359), (0, .ref (G.2.2.2.1 1)), (1, .int i11)]) S dX7_step_117 rfl hl (by decide) rfl (fun ls hl => ?_)
            refine r_aload_n S dX7_step_118 rfl (lv_at hl 2 rfl) ?_
            refine lv_lconst S.1.1 S.1.2.1 dX7_step_119 rfl ?_
            refine lv_topl (fun j365 z366 => ?_)
            refine r_putJ (K := 1) S X354 (Nat.le_of_ble_eq_true rfl) rfl lk7_34_7 (fun _ => ⟨_, rfl, Nat.le_of_ble_eq_true rfl, rfl⟩) (fun _ _ _ h => by cases h; exact ⟨rfl, rfl⟩) dX7_step_120 (fun t368 H lc M369 X367 => ?_)
            have I370 := Inv_ml I300 M369
            have F371 : Fr [(1, 3), (1, 4), (1, 5), (1, 7), (1, 8)] [201] τ t368 := Fr_ml F301 M369 (by decide)
            refine r_aload_n S dX7_step_123 rfl (lv_at hl 2 rfl) ?_
            refine r_iconst S dX7_step_124 (by decide) (fun v372 z373 => ?_)
            have r374 := R_eq z373
            refine r_put (K := 1) (ty := .int) S X367 (Nat.le_of_ble_eq_true rfl) rfl lk7_38_7 (fun _ => ⟨_, rfl, Nat.le_of_ble_eq_true rfl, rfl⟩) (fun _ _ _ h => by cases h; exact ⟨rfl, rfl⟩) rfl rfl dX7_step_125 (fun t375 H lc M376 X377 => ?_)
            have I378 := Inv_mu I370 M376 (R_any v372)
            have F379 : Fr [(1, 3), (1, 4), (1, 5), (1, 7), (1, 8)] [201] τ t375 := Fr_mu F371 M376 (by decide)
            refine r_aload_n S dX7_step_128 rfl (lv_at hl 2 rfl) ?_
            refine r_aload_n S dX7_step_129 rfl (lv_at hl 2 rfl) ?_
            refine r_geti (K := 1) S X377 (Nat.le_of_ble_eq_true rfl) rfl lk7_28_7 (fun _ => ⟨_, rfl, rfl⟩) ((M376.2 1 3 (Or.inr (by decide))).trans ((M369.1 1 (by decide) 3).trans z308)) dX7_step_130 ?_
            refine r_put (K := 1) (ty := .int) S X377 (Nat.le_of_ble_eq_true rfl) rfl lk7_22_7 (fun _ => ⟨_, rfl, Nat.le_of_ble_eq_true rfl, rfl⟩) (fun _ _ _ h => by cases h; exact ⟨rfl, rfl⟩) rfl rfl dX7_step_133 (fun t380 H lc M381 X382 => ?_)
            have I383 := Inv_mu I378 M381 (show Rg (kd 1) 4 f306 from (R_of (lo := 0) (hi := 940) r357 rfl))
            have F384 : Fr [(1, 3), (1, 4), (1, 5), (1, 7), (1, 8)] [201] τ t380 := Fr_mu F379 M381 (by decide)
            have L23357 : ∀ (n : Nat) (t23344 : Tau) (H : Heap) (lc : List Loc) (ls : Array Slot) (i23340 : Int32) (i23342 : Int32) (f23351 : Int32) (f23354 : Int32), Xd G s H lc t23344 → Inv t23344 → Fr [(1, 3), (1, 4), (1, 5), (1, 7), (1, 8)] [201] τ t23344 → R (-2147483648) (2147483647) i23340 → R (-2147483648) (2147483647) i23342 → t23344 1 1 = v1 → t23344 1 2 = v4 → t23344 1 3 = f306 → t23344 1 7 = f23351 → R (-2147483648) (2147483647) f23351 → t23344 1 4 = f23354 → R (0) (940) f23354 → lv_has ls 5 [(0, .ref (G.2.2.2.1 1)), (2, .int i23340), (3, .int i23342)] → (940 - f23354.toInt).toNat < n → W p l e (Rm 0 0) s m ([.ref (G.2.2.2.1 1)] : List Value).toArray below meth c H lc 0 0 (MQ below (va_Qv (po_X7_step τ    ) (Bs G) G.2.2.2.2) ([.ref (G.2.2.2.1 1)] : List Value).toArray s 0 0 G.2.2.2.2) (F0 m 136 ls []) := by
              intro n
              induction n with
              | zero => intros; omega
              | succ n ih23358 =>
                intro t23344 H lc ls i23340 i23342 f23351 f23354 X23347 I23345 F23346 r23341 r23343 z23348 z23349 z23350 z23353 r23352 z23356 r23355 hl hm
                refine r_aload_n S dX7_step_136 rfl (lv_at hl 0 rfl) ?_
                refine r_geti (K := 1) S X23347 (Nat.le_of_ble_eq_true rfl) rfl lk7_22_7 (fun _ => ⟨_, rfl, rfl⟩) z23356 dX7_step_137 ?_
                refine r_aload_n S dX7_step_140 rfl (lv_at hl 0 rfl) ?_
                refine r_geti (K := 1) S X23347 (Nat.le_of_ble_eq_true rfl) rfl lk7_15_7 (fun _ => ⟨_, rfl, rfl⟩) z23348 dX7_step_141 ?_
                have J23613 : ∀ (H : Heap) (lc : List Loc) (ls : Array Slot), Xd G s H lc t23344 → lv_has ls 5 [(0, .ref (G.2.2.2.1 1)), (2, .int i23340), (3, .int i23342)] → W p l e (Rm 0 0) s m ([.ref (G.2.2.2.1 1)] : List Value).toArray below meth c H lc 0 0 (MQ below (va_Qv (po_X7_step τ    ) (Bs G) G.2.2.2.2) ([.ref (G.2.2.2.1 1)] : List Value).toArray s 0 0 G.2.2.2.2) (F0 m 246 ls []) := by
                  intro H lc ls X23612 hl
                  refine r_aload_n S dX7_step_246 rfl (lv_at hl 0 rfl) ?_
                  refine r_iconst S dX7_step_247 (by decide) (fun v23614 z23615 => ?_)
                  have r23616 := R_eq z23615
                  refine r_put (K := 1) (ty := .int) S X23612 (Nat.le_of_ble_eq_true rfl) rfl lk7_31_7 (fun _ => ⟨_, rfl, Nat.le_of_ble_eq_true rfl, rfl⟩) (fun _ _ _ h => by cases h; exact ⟨rfl, rfl⟩) rfl rfl dX7_step_248 (fun t23617 H lc M23618 X23619 => ?_)
                  have I23620 := Inv_mu I23345 M23618 (show Rg (kd 1) 5 v23614 from (R_of (lo := 0) (hi := 4) r23616 rfl))
                  have F23621 : Fr [(1, 3), (1, 4), (1, 5), (1, 7), (1, 8)] [201] τ t23617 := Fr_mu F23346 M23618 (by decide)
                  refine r_iload_n S dX7_step_251 rfl (lv_at hl 1 rfl) ?_
                  have J23772 : ∀ (H : Heap) (lc : List Loc) (ls : Array Slot), Xd G s H lc t23617 → lv_has ls 5 [(0, .ref (G.2.2.2.1 1)), (2, .int i23340), (3, .int i23342)] → W p l e (Rm 0 0) s m ([.ref (G.2.2.2.1 1)] : List Value).toArray below meth c H lc 0 0 (MQ below (va_Qv (po_X7_step τ    ) (Bs G) G.2.2.2.2) ([.ref (G.2.2.2.1 1)] : List Value).toArray s 0 0 G.2.2.2.2) (F0 m 360 ls []) := by
                    intro H lc ls X23771 hl
                    refine r_iload_n S dX7_step_360 rfl (lv_at hl 2 rfl) ?_
                    have J23790 : ∀ (H : Heap) (lc : List Loc) (ls : Array Slot), Xd G s H lc t23617 → lv_has ls 5 [(0, .ref (G.2.2.2.1 1)), (2, .int i23340), (3, .int i23342)] → W p l e (Rm 0 0) s m ([.ref (G.2.2.2.1 1)] : List Value).toArray below meth c H lc 0 0 (MQ below (va_Qv (po_X7_step τ    ) (Bs G) G.2.2.2.2) ([.ref (G.2.2.2.1 1)] : List Value).toArray s 0 0 G.2.2.2.2) (F0 m 378 ls []) := by
                      intro H lc ls X23789 hl
                      refine r_iload_n S dX7_step_378 rfl (lv_at hl 1 rfl) ?_
                      refine r_if_ne (tgt := 392) S dX7_step_379 (by decide) (fun c23791 => ?_) (fun c23791 => ?_)
                      ·
                        exact r_vret S hr hlk X23789 ⟨I23620, F23621⟩ dX7_step_392
                      ·
                        have r23792 : R (0) (0) i23340 := ⟨by omega, by omega⟩
                        refine r_iload_n S dX7_step_382 rfl (lv_at hl 2 rfl) ?_
                        refine r_iconst S dX7_step_383 (by decide) (fun v23793 z23794 => ?_)
                        have r23795 := R_eq z23794
                        refine r_icmp_gt (tgt := 392) S dX7_step_384 (by decide) (fun c23796 => ?_) (fun c23796 => ?_)
                        ·
                          have r23797 : R (3) (2147483647) i23342 := ⟨by omega, by omega⟩
                          exact r_vret S hr hlk X23789 ⟨I23620, F23621⟩ dX7_step_392
                        ·
                          have r23798 : R (-2147483648) (2) i23342 := ⟨by omega, by omega⟩
                          refine r_aload_n S dX7_step_387 rfl (lv_at hl 0 rfl) ?_
                          refine r_iconst S dX7_step_388 (by decide) (fun v23799 z23800 => ?_)
                          have r23801 := R_eq z23800
                          refine r_put (K := 1) (ty := .int) S X23789 (Nat.le_of_ble_eq_true rfl) rfl lk7_31_7 (fun _ => ⟨_, rfl, Nat.le_of_ble_eq_true rfl, rfl⟩) (fun _ _ _ h => by cases h; exact ⟨rfl, rfl⟩) rfl rfl dX7_step_389 (fun t23802 H lc M23803 X23804 => ?_)
                          have I23805 := Inv_mu I23620 M23803 (show Rg (kd 1) 5 v23799 from (R_of (lo := 0) (hi := 4) r23801 rfl))
                          have F23806 : Fr [(1, 3), (1, 4), (1, 5), (1, 7), (1, 8)] [201] τ t23802 := Fr_mu F23621 M23803 (by decide)
                          exact r_vret S hr hlk X23804 ⟨I23805, F23806⟩ dX7_step_392
                    refine r_if_ne (tgt := 378) S dX7_step_361 (by decide) (fun c23807 => ?_) (fun c23807 => ?_)
                    ·
                      exact J23790 _ _ _ X23771 (lv_sub hl [0, 1, 2] rfl)
                    ·
                      have r23808 : R (0) (0) i23342 := ⟨by omega, by omega⟩
                      refine r_iload_n S dX7_step_364 rfl (lv_at hl 1 rfl) ?_
                      refine r_bipush S dX7_step_365 (by decide) (fun v23809 z23810 => ?_)
                      have r23811 := R_eq z23810
                      refine r_icmp_gt (tgt := 378) S dX7_step_367 (by decide) (fun c23812 => ?_) (fun c23812 => ?_)
                      ·
                        have r23813 : R (8) (2147483647) i23340 := ⟨by omega, by omega⟩
                        exact J23790 _ _ _ X23771 (lv_sub hl [0, 1, 2] rfl)
                      ·
                        have r23814 : R (-2147483648) (7) i23340 := ⟨by omega, by omega⟩
                        refine r_aload_n S dX7_step_370 rfl (lv_at hl 0 rfl) ?_
                        refine r_iconst S dX7_step_371 (by decide) (fun v23815 z23816 => ?_)
                        have r23817 := R_eq z23816
                        refine r_put (K := 1) (ty := .int) S X23771 (Nat.le_of_ble_eq_true rfl) rfl lk7_31_7 (fun _ => ⟨_, rfl, Nat.le_of_ble_eq_true rfl, rfl⟩) (fun _ _ _ h => by cases h; exact ⟨rfl, rfl⟩) rfl rfl dX7_step_372 (fun t23818 H lc M23819 X23820 => ?_)
                        have I23821 := Inv_mu I23620 M23819 (show Rg (kd 1) 5 v23815 from (R_of (lo := 0) (hi := 4) r23817 rfl))
                        have F23822 : Fr [(1, 3), (1, 4), (1, 5), (1, 7), (1, 8)] [201] τ t23818 := Fr_mu F23621 M23819 (by decide)
                        refine r_goto (tgt := 392) S dX7_step_375 (by decide) ?_
                        exact r_vret S hr hlk X23820 ⟨I23821, F23822⟩ dX7_step_392
                  refine r_if_ne (tgt := 360) S dX7_step_252 (by decide) (fun c23823 => ?_) (fun c23823 => ?_)
                  ·
                    exact J23772 _ _ _ X23619 (lv_sub hl [0, 1, 2] rfl)
                  ·
                    have r23824 : R (0) (0) i23340 := ⟨by omega, by omega⟩
                    refine r_iload_n S dX7_step_255 rfl (lv_at hl 2 rfl) ?_
                    refine r_if_ne (tgt := 360) S dX7_step_256 (by decide) (fun c23825 => ?_) (fun c23825 => ?_)
                    ·
                      exact J23772 _ _ _ X23619 (lv_sub hl [0, 1, 2] rfl)
                    ·
                      have r23826 : R (0) (0) i23342 := ⟨by omega, by omega⟩
                      refine r_aload_n S dX7_step_259 rfl (lv_at hl 0 rfl) ?_
                      refine r_aload_n S dX7_step_260 rfl (lv_at hl 0 rfl) ?_
                      refine r_get (K := 1) (v := .ref (G.2.2.2.1 2)) S X23619 (Nat.le_of_ble_eq_true rfl) rfl lk7_9_7 (fun _ => ⟨_, rfl, rfl⟩) dX7_step_261 ?_
                      refine r_aload_n S dX7_step_264 rfl (lv_at hl 0 rfl) ?_
                      refine r_geti (K := 1) S X23619 (Nat.le_of_ble_eq_true rfl) rfl lk7_28_7 (fun _ => ⟨_, rfl, rfl⟩) ((M23618.2 1 3 (Or.inr (by decide))).trans z23350) dX7_step_265 ?_
                      refine r_aldn (n := 940) (K := 2) S X23619 (Nat.le_of_ble_eq_true rfl) rfl (fun _ => rfl) (ix_of r357 rfl) dX7_step_268 (fun v23827 z23828 => ?_)
                      have r23829 : R (0) (255) v23827 := rd I23620 rfl z23828
                      refine r_put (K := 1) (ty := .int) S X23619 (Nat.le_of_ble_eq_true rfl) rfl lk7_43_7 (fun _ => ⟨_, rfl, Nat.le_of_ble_eq_true rfl, rfl⟩) (fun _ _ _ h => by cases h; exact ⟨rfl, rfl⟩) rfl rfl dX7_step_269 (fun t23830 H lc M23831 X23832 => ?_)
                      have I23833 := Inv_mu I23620 M23831 (R_any v23827)
                      have F23834 : Fr [(1, 3), (1, 4), (1, 5), (1, 7), (1, 8)] [201] τ t23830 := Fr_mu F23621 M23831 (by decide)
                      refine r_aload_n S dX7_step_272 rfl (lv_at hl 0 rfl) ?_
                      refine r_aload_n S dX7_step_273 rfl (lv_at hl 0 rfl) ?_
                      refine r_geti (K := 1) S X23832 (Nat.le_of_ble_eq_true rfl) rfl lk7_28_7 (fun _ => ⟨_, rfl, rfl⟩) ((M23831.2 1 3 (Or.inr (by decide))).trans ((M23618.2 1 3 (Or.inr (by decide))).trans z23350)) dX7_step_274 ?_
                      refine r_iconst S dX7_step_277 (by decide) (fun v23835 z23836 => ?_)
                      have r23837 := R_eq z23836
                      refine r_iadd S dX7_step_278 (fun v23838 z23839 => ?_)
                      obtain ⟨e23840, r23841⟩ := i_add (lo := 1) (hi := 900) z23839 r357 r23837 rfl
                      refine r_put (K := 1) (ty := .int) S X23832 (Nat.le_of_ble_eq_true rfl) rfl lk7_22_7 (fun _ => ⟨_, rfl, Nat.le_of_ble_eq_true rfl, rfl⟩) (fun _ _ _ h => by cases h; exact ⟨rfl, rfl⟩) rfl rfl dX7_step_279 (fun t23842 H lc M23843 X23844 => ?_)
                      have I23845 := Inv_mu I23833 M23843 (show Rg (kd 1) 4 v23838 from (R_of (lo := 0) (hi := 940) r23841 rfl))
                      have F23846 : Fr [(1, 3), (1, 4), (1, 5), (1, 7), (1, 8)] [201] τ t23842 := Fr_mu F23834 M23843 (by decide)
                      refine r_aload_n S dX7_step_282 rfl (lv_at hl 0 rfl) ?_
                      refine r_geti (K := 1) S X23844 (Nat.le_of_ble_eq_true rfl) rfl lk7_43_7 (fun _ => ⟨_, rfl, rfl⟩) ((M23843.2 1 8 (Or.inr (by decide))).trans M23831.1) dX7_step_283 ?_
                      refine r_bipush S dX7_step_286 (by decide) (fun v23847 z23848 => ?_)
                      have r23849 := R_eq z23848
                      have J23877 : ∀ (H : Heap) (lc : List Loc) (ls : Array Slot) (i23875 : Int32), Xd G s H lc t23842 → R (0) (1) i23875 → lv_has ls 5 [(0, .ref (G.2.2.2.1 1))] → W p l e (Rm 0 0) s m ([.ref (G.2.2.2.1 1)] : List Value).toArray below meth c H lc 0 0 (MQ below (va_Qv (po_X7_step τ    ) (Bs G) G.2.2.2.2) ([.ref (G.2.2.2.1 1)] : List Value).toArray s 0 0 G.2.2.2.2) (F0 m 314 ls [.int i23875]) := by
                        intro H lc ls i23875 X23874 r23876 hl
                        refine r_istore (lv' := [(4, .int i23875), (0, .ref (G.2.2.2.1 1))]) S dX7_step_314 hl (by decide) rfl (fun ls hl => ?_)
                        refine r_aload_n S dX7_step_316 rfl (lv_at hl 1 rfl) ?_
                        refine r_iload S dX7_step_317 (lv_at hl 0 rfl) ?_
                        refine r_if_ne (tgt := 349) S dX7_step_319 (by decide) (fun c23878 => ?_) (fun c23878 => ?_)
                        ·
                          have r23879 : R (1) (1) i23875 := ⟨by omega, by omega⟩
                          refine r_iconst S dX7_step_349 (by decide) (fun v23880 z23881 => ?_)
                          have r23882 := R_eq z23881
                          refine r_goto (tgt := 354) S dX7_step_350 (by decide) ?_
                          refine r_put (K := 1) (ty := .int) S X23874 (Nat.le_of_ble_eq_true rfl) rfl lk7_31_7 (fun _ => ⟨_, rfl, Nat.le_of_ble_eq_true rfl, rfl⟩) (fun _ _ _ h => by cases h; exact ⟨rfl, rfl⟩) rfl rfl dX7_step_354 (fun t23883 H lc M23884 X23885 => ?_)
                          have I23886 := Inv_mu I23845 M23884 (show Rg (kd 1) 5 v23880 from (R_of (lo := 0) (hi := 4) r23882 rfl))
                          have F23887 : Fr [(1, 3), (1, 4), (1, 5), (1, 7), (1, 8)] [201] τ t23883 := Fr_mu F23846 M23884 (by decide)
                          refine r_goto (tgt := 392) S dX7_step_357 (by decide) ?_
                          exact r_vret S hr hlk X23885 ⟨I23886, F23887⟩ dX7_step_392
                        ·
                          have r23888 : R (0) (0) i23875 := ⟨by omega, by omega⟩
                          refine r_aload_n S dX7_step_322 rfl (lv_at hl 1 rfl) ?_
                          refine r_geti (K := 1) S X23874 (Nat.le_of_ble_eq_true rfl) rfl lk7_43_7 (fun _ => ⟨_, rfl, rfl⟩) ((M23843.2 1 8 (Or.inr (by decide))).trans M23831.1) dX7_step_323 ?_
                          refine r_bipush S dX7_step_326 (by decide) (fun v23889 z23890 => ?_)
                          have r23891 := R_eq z23890
                          refine r_icmp_eq (tgt := 349) S dX7_step_328 (by decide) (fun c23892 => ?_) (fun c23892 => ?_)
                          ·
                            have r23893 : R (59) (59) v23827 := ⟨by omega, by omega⟩
                            refine r_iconst S dX7_step_349 (by decide) (fun v23894 z23895 => ?_)
                            have r23896 := R_eq z23895
                            refine r_goto (tgt := 354) S dX7_step_350 (by decide) ?_
                            refine r_put (K := 1) (ty := .int) S X23874 (Nat.le_of_ble_eq_true rfl) rfl lk7_31_7 (fun _ => ⟨_, rfl, Nat.le_of_ble_eq_true rfl, rfl⟩) (fun _ _ _ h => by cases h; exact ⟨rfl, rfl⟩) rfl rfl dX7_step_354 (fun t23897 H lc M23898 X23899 => ?_)
                            have I23900 := Inv_mu I23845 M23898 (show Rg (kd 1) 5 v23894 from (R_of (lo := 0) (hi := 4) r23896 rfl))
                            have F23901 : Fr [(1, 3), (1, 4), (1, 5), (1, 7), (1, 8)] [201] τ t23897 := Fr_mu F23846 M23898 (by decide)
                            refine r_goto (tgt := 392) S dX7_step_357 (by decide) ?_
                            exact r_vret S hr hlk X23899 ⟨I23900, F23901⟩ dX7_step_392
                          ·
                            refine r_aload_n S dX7_step_331 rfl (lv_at hl 1 rfl) ?_
                            refine r_geti (K := 1) S X23874 (Nat.le_of_ble_eq_true rfl) rfl lk7_43_7 (fun _ => ⟨_, rfl, rfl⟩) ((M23843.2 1 8 (Or.inr (by decide))).trans M23831.1) dX7_step_332 ?_
                            refine r_bipush S dX7_step_335 (by decide) (fun v23902 z23903 => ?_)
                            have r23904 := R_eq z23903
                            refine r_icmp_eq (tgt := 349) S dX7_step_337 (by decide) (fun c23905 => ?_) (fun c23905 => ?_)
                            ·
                              have r23906 : R (40) (40) v23827 := ⟨by omega, by omega⟩
                              refine r_iconst S dX7_step_349 (by decide) (fun v23907 z23908 => ?_)
                              have r23909 := R_eq z23908
                              refine r_goto (tgt := 354) S dX7_step_350 (by decide) ?_
                              refine r_put (K := 1) (ty := .int) S X23874 (Nat.le_of_ble_eq_true rfl) rfl lk7_31_7 (fun _ => ⟨_, rfl, Nat.le_of_ble_eq_true rfl, rfl⟩) (fun _ _ _ h => by cases h; exact ⟨rfl, rfl⟩) rfl rfl dX7_step_354 (fun t23910 H lc M23911 X23912 => ?_)
                              have I23913 := Inv_mu I23845 M23911 (show Rg (kd 1) 5 v23907 from (R_of (lo := 0) (hi := 4) r23909 rfl))
                              have F23914 : Fr [(1, 3), (1, 4), (1, 5), (1, 7), (1, 8)] [201] τ t23910 := Fr_mu F23846 M23911 (by decide)
                              refine r_goto (tgt := 392) S dX7_step_357 (by decide) ?_
                              exact r_vret S hr hlk X23912 ⟨I23913, F23914⟩ dX7_step_392
                            ·
                              refine r_aload_n S dX7_step_340 rfl (lv_at hl 1 rfl) ?_
                              refine r_geti (K := 1) S X23874 (Nat.le_of_ble_eq_true rfl) rfl lk7_43_7 (fun _ => ⟨_, rfl, rfl⟩) ((M23843.2 1 8 (Or.inr (by decide))).trans M23831.1) dX7_step_341 ?_
                              refine r_bipush S dX7_step_344 (by decide) (fun v23915 z23916 => ?_)
                              have r23917 := R_eq z23916
                              refine r_icmp_ne (tgt := 353) S dX7_step_346 (by decide) (fun c23918 => ?_) (fun c23918 => ?_)
                              ·
                                refine r_iconst S dX7_step_353 (by decide) (fun v23919 z23920 => ?_)
                                have r23921 := R_eq z23920
                                refine r_put (K := 1) (ty := .int) S X23874 (Nat.le_of_ble_eq_true rfl) rfl lk7_31_7 (fun _ => ⟨_, rfl, Nat.le_of_ble_eq_true rfl, rfl⟩) (fun _ _ _ h => by cases h; exact ⟨rfl, rfl⟩) rfl rfl dX7_step_354 (fun t23922 H lc M23923 X23924 => ?_)
                                have I23925 := Inv_mu I23845 M23923 (show Rg (kd 1) 5 v23919 from (R_of (lo := 0) (hi := 4) r23921 rfl))
                                have F23926 : Fr [(1, 3), (1, 4), (1, 5), (1, 7), (1, 8)] [201] τ t23922 := Fr_mu F23846 M23923 (by decide)
                                refine r_goto (tgt := 392) S dX7_step_357 (by decide) ?_
                                exact r_vret S hr hlk X23924 ⟨I23925, F23926⟩ dX7_step_392
                              ·
                                have r23927 : R (41) (41) v23827 := ⟨by omega, by omega⟩
                                refine r_iconst S dX7_step_349 (by decide) (fun v23928 z23929 => ?_)
                                have r23930 := R_eq z23929
                                refine r_goto (tgt := 354) S dX7_step_350 (by decide) ?_
                                refine r_put (K := 1) (ty := .int) S X23874 (Nat.le_of_ble_eq_true rfl) rfl lk7_31_7 (fun _ => ⟨_, rfl, Nat.le_of_ble_eq_true rfl, rfl⟩) (fun _ _ _ h => by cases h; exact ⟨rfl, rfl⟩) rfl rfl dX7_step_354 (fun t23931 H lc M23932 X23933 => ?_)
                                have I23934 := Inv_mu I23845 M23932 (show Rg (kd 1) 5 v23928 from (R_of (lo := 0) (hi := 4) r23930 rfl))
                                have F23935 : Fr [(1, 3), (1, 4), (1, 5), (1, 7), (1, 8)] [201] τ t23931 := Fr_mu F23846 M23932 (by decide)
                                refine r_goto (tgt := 392) S dX7_step_357 (by decide) ?_
                                exact r_vret S hr hlk X23933 ⟨I23934, F23935⟩ dX7_step_392
                      have J23953 : ∀ (H : Heap) (lc : List Loc) (ls : Array Slot), Xd G s H lc t23842 → R (60) (62) v23827 → lv_has ls 5 [(0, .ref (G.2.2.2.1 1))] → W p l e (Rm 0 0) s m ([.ref (G.2.2.2.1 1)] : List Value).toArray below meth c H lc 0 0 (MQ below (va_Qv (po_X7_step τ    ) (Bs G) G.2.2.2.2) ([.ref (G.2.2.2.1 1)] : List Value).toArray s 0 0 G.2.2.2.2) (F0 m 309 ls []) := by
                        intro H lc ls X23951 r23952 hl
                        refine r_iconst S dX7_step_309 (by decide) (fun v23954 z23955 => ?_)
                        have r23956 := R_eq z23955
                        refine r_goto (tgt := 314) S dX7_step_310 (by decide) ?_
                        exact J23877 _ _ _ v23954 X23951 (R_of r23956 rfl) (lv_sub hl [0] rfl)
                      refine r_icmp_eq (tgt := 309) S dX7_step_288 (by decide) (fun c23957 => ?_) (fun c23957 => ?_)
                      ·
                        have r23958 : R (60) (60) v23827 := ⟨by omega, by omega⟩
                        exact J23953 _ _ _ X23844 (R_of r23958 rfl) (lv_sub hl [0] rfl)
                      ·
                        refine r_aload_n S dX7_step_291 rfl (lv_at hl 0 rfl) ?_
                        refine r_geti (K := 1) S X23844 (Nat.le_of_ble_eq_true rfl) rfl lk7_43_7 (fun _ => ⟨_, rfl, rfl⟩) ((M23843.2 1 8 (Or.inr (by decide))).trans M23831.1) dX7_step_292 ?_
                        refine r_bipush S dX7_step_295 (by decide) (fun v23959 z23960 => ?_)
                        have r23961 := R_eq z23960
                        refine r_icmp_eq (tgt := 309) S dX7_step_297 (by decide) (fun c23962 => ?_) (fun c23962 => ?_)
                        ·
                          have r23963 : R (61) (61) v23827 := ⟨by omega, by omega⟩
                          exact J23953 _ _ _ X23844 (R_of r23963 rfl) (lv_sub hl [0] rfl)
                        ·
                          refine r_aload_n S dX7_step_300 rfl (lv_at hl 0 rfl) ?_
                          refine r_geti (K := 1) S X23844 (Nat.le_of_ble_eq_true rfl) rfl lk7_43_7 (fun _ => ⟨_, rfl, rfl⟩) ((M23843.2 1 8 (Or.inr (by decide))).trans M23831.1) dX7_step_301 ?_
                          refine r_bipush S dX7_step_304 (by decide) (fun v23964 z23965 => ?_)
                          have r23966 := R_eq z23965
                          refine r_icmp_ne (tgt := 313) S dX7_step_306 (by decide) (fun c23967 => ?_) (fun c23967 => ?_)
                          ·
                            refine r_iconst S dX7_step_313 (by decide) (fun v23968 z23969 => ?_)
                            have r23970 := R_eq z23969
                            exact J23877 _ _ _ v23968 X23844 (R_of r23970 rfl) (lv_sub hl [0] rfl)
                          ·
                            have r23971 : R (62) (62) v23827 := ⟨by omega, by omega⟩
                            exact J23953 _ _ _ X23844 (R_of r23971 rfl) (lv_sub hl [0] rfl)
                refine r_icmp_ge (tgt := 246) S dX7_step_144 (by decide) (fun c23972 => ?_) (fun c23972 => ?_)
                ·
                  exact J23613 _ _ _ X23347 (lv_sub hl [0, 1, 2] rfl)
                ·
                  have r23973 : R (0) (939) f23354 := ⟨by omega, by omega⟩
                  have r23974 : R (1) (940) v1 := ⟨by omega, by omega⟩
                  refine r_aload_n S dX7_step_147 rfl (lv_at hl 0 rfl) ?_
                  refine r_get (K := 1) (v := .ref (G.2.2.2.1 2)) S X23347 (Nat.le_of_ble_eq_true rfl) rfl lk7_9_7 (fun _ => ⟨_, rfl, rfl⟩) dX7_step_148 ?_
                  refine r_aload_n S dX7_step_151 rfl (lv_at hl 0 rfl) ?_
                  refine r_geti (K := 1) S X23347 (Nat.le_of_ble_eq_true rfl) rfl lk7_22_7 (fun _ => ⟨_, rfl, rfl⟩) z23356 dX7_step_152 ?_
                  refine r_aldn (n := 940) (K := 2) S X23347 (Nat.le_of_ble_eq_true rfl) rfl (fun _ => rfl) (ix_of r23973 rfl) dX7_step_155 (fun v23975 z23976 => ?_)
                  have r23977 : R (0) (255) v23975 := rd I23345 rfl z23976
                  refine r_istore (lv' := [(4, .int v23975), (0, .ref (G.2.2.2.1 1)), (2, .int i23340), (3, .int i23342)]) S dX7_step_156 hl (by decide) rfl (fun ls hl => ?_)
                  refine r_iload S dX7_step_158 (lv_at hl 0 rfl) ?_
                  refine r_bipush S dX7_step_160 (by decide) (fun v23978 z23979 => ?_)
                  have r23980 := R_eq z23979
                  have J24085 : ∀ (t24070 : Tau) (H : Heap) (lc : List Loc) (ls : Array Slot) (i24074 : Int32) (i24076 : Int32) (i24082 : Int32), Xd G s H lc t24070 → Inv t24070 → Fr [(1, 3), (1, 4), (1, 5), (1, 7), (1, 8)] [201] τ t24070 → R (-2147483648) (2147483647) i24074 → R (-2147483648) (2147483647) i24076 → t24070 1 1 = v1 → t24070 1 2 = v4 → t24070 1 3 = f306 → t24070 1 4 = f23354 → R (-2147483648) (2147483647) i24082 → t24070 1 7 = i24082 → lv_has ls 5 [(0, .ref (G.2.2.2.1 1)), (2, .int i24074), (3, .int i24076)] → W p l e (Rm 0 0) s m ([.ref (G.2.2.2.1 1)] : List Value).toArray below meth c H lc 0 0 (MQ below (va_Qv (po_X7_step τ    ) (Bs G) G.2.2.2.2) ([.ref (G.2.2.2.1 1)] : List Value).toArray s 0 0 G.2.2.2.2) (F0 m 233 ls []) := by
                    intro t24070 H lc ls i24074 i24076 i24082 X24073 I24071 F24072 r24075 r24077 z24078 z24079 z24080 z24081 r24083 z24084 hl
                    refine r_aload_n S dX7_step_233 rfl (lv_at hl 0 rfl) ?_
                    refine r_dup S dX7_step_234 rfl ?_
                    refine r_geti (K := 1) S X24073 (Nat.le_of_ble_eq_true rfl) rfl lk7_22_7 (fun _ => ⟨_, rfl, rfl⟩) z24081 dX7_step_235 ?_
                    refine r_iconst S dX7_step_238 (by decide) (fun v24086 z24087 => ?_)
                    have r24088 := R_eq z24087
                    refine r_iadd S dX7_step_239 (fun v24089 z24090 => ?_)
                    obtain ⟨e24091, r24092⟩ := i_add (lo := 1) (hi := 940) z24090 r23973 r24088 rfl
                    refine r_put (K := 1) (ty := .int) S X24073 (Nat.le_of_ble_eq_true rfl) rfl lk7_22_7 (fun _ => ⟨_, rfl, Nat.le_of_ble_eq_true rfl, rfl⟩) (fun _ _ _ h => by cases h; exact ⟨rfl, rfl⟩) rfl rfl dX7_step_240 (fun t24093 H lc M24094 X24095 => ?_)
                    have I24096 := Inv_mu I24071 M24094 (show Rg (kd 1) 4 v24089 from (R_of (lo := 0) (hi := 940) r24092 rfl))
                    have F24097 : Fr [(1, 3), (1, 4), (1, 5), (1, 7), (1, 8)] [201] τ t24093 := Fr_mu F24072 M24094 (by decide)
                    refine r_goto (tgt := 136) S dX7_step_243 (by decide) ?_
                    exact ih23358 t24093 _ _ _ i24074 i24076 i24082 v24089 X24095 I24096 F24097 r24075 r24077 ((M24094.2 1 1 (Or.inr (by decide))).trans z24078) ((M24094.2 1 2 (Or.inr (by decide))).trans z24079) ((M24094.2 1 3 (Or.inr (by decide))).trans z24080) ((M24094.2 1 7 (Or.inr (by decide))).trans z24084) ⟨by omega, by omega⟩ M24094.1 ⟨by omega, by omega⟩ (lv_sub hl [0, 1, 2] rfl) (by omega)
                  have J24143 : ∀ (H : Heap) (lc : List Loc) (ls : Array Slot), Xd G s H lc t23344 → R (0) (255) v23975 → lv_has ls 5 [(0, .ref (G.2.2.2.1 1)), (2, .int i23340), (3, .int i23342), (4, .int v23975)] → W p l e (Rm 0 0) s m ([.ref (G.2.2.2.1 1)] : List Value).toArray below meth c H lc 0 0 (MQ below (va_Qv (po_X7_step τ    ) (Bs G) G.2.2.2.2) ([.ref (G.2.2.2.1 1)] : List Value).toArray s 0 0 G.2.2.2.2) (F0 m 199 ls []) := by
                    intro H lc ls X24141 r24142 hl
                    refine r_iload S dX7_step_199 (lv_at hl 3 rfl) ?_
                    refine r_bipush S dX7_step_201 (by decide) (fun v24144 z24145 => ?_)
                    have r24146 := R_eq z24145
                    refine r_icmp_lt (tgt := 246) S dX7_step_203 (by decide) (fun c24147 => ?_) (fun c24147 => ?_)
                    ·
                      have r24148 : R (0) (47) v23975 := ⟨by omega, by omega⟩
                      exact J23613 _ _ _ X24141 (lv_sub hl [0, 1, 2] rfl)
                    ·
                      have r24149 : R (48) (255) v23975 := ⟨by omega, by omega⟩
                      refine r_iload S dX7_step_206 (lv_at hl 3 rfl) ?_
                      refine r_bipush S dX7_step_208 (by decide) (fun v24150 z24151 => ?_)
                      have r24152 := R_eq z24151
                      refine r_icmp_gt (tgt := 246) S dX7_step_210 (by decide) (fun c24153 => ?_) (fun c24153 => ?_)
                      ·
                        have r24154 : R (58) (255) v23975 := ⟨by omega, by omega⟩
                        exact J23613 _ _ _ X24141 (lv_sub hl [0, 1, 2] rfl)
                      ·
                        have r24155 : R (48) (57) v23975 := ⟨by omega, by omega⟩
                        refine r_iinc (k := 2) S dX7_step_213 hl rfl (by decide) (by decide) (fun v24156 d24157 ls z24158 z24159 hl => ?_)
                        have r24160 := R_any v24156
                        have hl : lv_has ls 5 [(3, .int v24156), (0, .ref (G.2.2.2.1 1)), (2, .int i23340), (4, .int v23975)] := hl
                        refine r_aload_n S dX7_step_216 rfl (lv_at hl 1 rfl) ?_
                        refine r_aload_n S dX7_step_217 rfl (lv_at hl 1 rfl) ?_
                        refine r_geti (K := 1) S X24141 (Nat.le_of_ble_eq_true rfl) rfl lk7_38_7 (fun _ => ⟨_, rfl, rfl⟩) z23353 dX7_step_218 ?_
                        refine r_bipush S dX7_step_221 (by decide) (fun v24161 z24162 => ?_)
                        have r24163 := R_eq z24162
                        refine r_imul S dX7_step_223 (fun v24164 z24165 => ?_)
                        have r24166 := R_any v24164
                        refine r_iload S dX7_step_224 (lv_at hl 3 rfl) ?_
                        refine r_bipush S dX7_step_226 (by decide) (fun v24167 z24168 => ?_)
                        have r24169 := R_eq z24168
                        refine r_isub S dX7_step_228 (fun v24170 z24171 => ?_)
                        obtain ⟨e24172, r24173⟩ := i_sub (lo := 0) (hi := 9) z24171 r24155 r24169 rfl
                        refine r_iadd S dX7_step_229 (fun v24174 z24175 => ?_)
                        have r24176 := R_any v24174
                        refine r_put (K := 1) (ty := .int) S X24141 (Nat.le_of_ble_eq_true rfl) rfl lk7_38_7 (fun _ => ⟨_, rfl, Nat.le_of_ble_eq_true rfl, rfl⟩) (fun _ _ _ h => by cases h; exact ⟨rfl, rfl⟩) rfl rfl dX7_step_230 (fun t24177 H lc M24178 X24179 => ?_)
                        have I24180 := Inv_mu I23345 M24178 (R_any v24174)
                        have F24181 : Fr [(1, 3), (1, 4), (1, 5), (1, 7), (1, 8)] [201] τ t24177 := Fr_mu F23346 M24178 (by decide)
                        exact J24085 t24177 _ _ _ i23340 v24156 v24174 X24179 I24180 F24181 r23341 r24160 ((M24178.2 1 1 (Or.inr (by decide))).trans z23348) ((M24178.2 1 2 (Or.inr (by decide))).trans z23349) ((M24178.2 1 3 (Or.inr (by decide))).trans z23350) ((M24178.2 1 4 (Or.inr (by decide))).trans z23356) r24176 M24178.1 (lv_sub hl [1, 2, 0] rfl)
                  refine r_icmp_lt (tgt := 199) S dX7_step_162 (by decide) (fun c24182 => ?_) (fun c24182 => ?_)
                  ·
                    have r24183 : R (0) (96) v23975 := ⟨by omega, by omega⟩
                    exact J24143 _ _ _ X23347 (R_of r24183 rfl) (lv_sub hl [1, 2, 3, 0] rfl)
                  ·
                    have r24184 : R (97) (255) v23975 := ⟨by omega, by omega⟩
                    refine r_iload S dX7_step_165 (lv_at hl 0 rfl) ?_
                    refine r_bipush S dX7_step_167 (by decide) (fun v24185 z24186 => ?_)
                    have r24187 := R_eq z24186
                    refine r_icmp_gt (tgt := 199) S dX7_step_169 (by decide) (fun c24188 => ?_) (fun c24188 => ?_)
                    ·
                      have r24189 : R (123) (255) v23975 := ⟨by omega, by omega⟩
                      exact J24143 _ _ _ X23347 (R_of r24189 rfl) (lv_sub hl [1, 2, 3, 0] rfl)
                    ·
                      have r24190 : R (97) (122) v23975 := ⟨by omega, by omega⟩
                      refine r_iinc (k := 2) S dX7_step_172 hl rfl (by decide) (by decide) (fun v24191 d24192 ls z24193 z24194 hl => ?_)
                      have r24195 := R_any v24191
                      have hl : lv_has ls 5 [(2, .int v24191), (4, .int v23975), (0, .ref (G.2.2.2.1 1)), (3, .int i23342)] := hl
                      refine r_aload_n S dX7_step_175 rfl (lv_at hl 2 rfl) ?_
                      refine r_aload_n S dX7_step_176 rfl (lv_at hl 2 rfl) ?_
                      refine r_getJ (K := 1) S X23347 (Nat.le_of_ble_eq_true rfl) rfl lk7_34_7 (fun _ => ⟨_, rfl, rfl⟩) dX7_step_177 (fun j24196 z24197 => ?_)
                      refine lv_ldc2 S.1.1 S.1.2.1 S.1.2.2.2.1 (S.1.2.2.2.2 _ kw6) dX7_step_180 ?_
                      refine lv_topl (fun j24198 z24199 => ?_)
                      refine lv_lmul S.1.1 S.1.2.1 dX7_step_183 ?_
                      refine lv_topl (fun j24200 z24201 => ?_)
                      refine r_iload S dX7_step_184 (lv_at hl 1 rfl) ?_
                      refine r_bipush S dX7_step_186 (by decide) (fun v24202 z24203 => ?_)
                      have r24204 := R_eq z24203
                      refine r_isub S dX7_step_188 (fun v24205 z24206 => ?_)
                      obtain ⟨e24207, r24208⟩ := i_sub (lo := 0) (hi := 25) z24206 r24190 r24204 rfl
                      refine r_iconst S dX7_step_189 (by decide) (fun v24209 z24210 => ?_)
                      have r24211 := R_eq z24210
                      refine r_iadd S dX7_step_190 (fun v24212 z24213 => ?_)
                      obtain ⟨e24214, r24215⟩ := i_add (lo := 1) (hi := 26) z24213 r24208 r24211 rfl
                      refine lv_i2l S.1.1 S.1.2.1 dX7_step_191 rfl ?_
                      refine lv_topl (fun j24216 z24217 => ?_)
                      refine lv_ladd S.1.1 S.1.2.1 dX7_step_192 ?_
                      refine lv_topl (fun j24218 z24219 => ?_)
                      refine r_putJ (K := 1) S X23347 (Nat.le_of_ble_eq_true rfl) rfl lk7_34_7 (fun _ => ⟨_, rfl, Nat.le_of_ble_eq_true rfl, rfl⟩) (fun _ _ _ h => by cases h; exact ⟨rfl, rfl⟩) dX7_step_193 (fun t24221 H lc M24222 X24220 => ?_)
                      have I24223 := Inv_ml I23345 M24222
                      have F24224 : Fr [(1, 3), (1, 4), (1, 5), (1, 7), (1, 8)] [201] τ t24221 := Fr_ml F23346 M24222 (by decide)
                      refine r_goto (tgt := 233) S dX7_step_196 (by decide) ?_
                      exact J24085 t24221 _ _ _ v24191 i23342 f23351 X24220 I24223 F24224 r24195 r23343 ((M24222.1 1 (by decide) 1).trans z23348) ((M24222.1 1 (by decide) 2).trans z23349) ((M24222.1 1 (by decide) 3).trans z23350) ((M24222.1 1 (by decide) 4).trans z23356) r23352 ((M24222.1 1 (by decide) 7).trans z23353) (lv_sub hl [2, 0, 3] rfl)
            exact L23357 _ t380 _ _ _ v359 v362 v372 f306 X382 I383 F384 (R_of r361 rfl) (R_of r364 rfl) ((M381.2 1 1 (Or.inr (by decide))).trans ((M376.2 1 1 (Or.inr (by decide))).trans ((M369.1 1 (by decide) 1).trans z303))) ((M381.2 1 2 (Or.inr (by decide))).trans ((M376.2 1 2 (Or.inr (by decide))).trans ((M369.1 1 (by decide) 2).trans z304))) ((M381.2 1 3 (Or.inr (by decide))).trans ((M376.2 1 3 (Or.inr (by decide))).trans ((M369.1 1 (by decide) 3).trans z308))) ((M381.2 1 7 (Or.inr (by decide))).trans M376.1) ⟨by omega, by omega⟩ M381.1 ⟨by omega, by omega⟩ (lv_sub hl [2, 1, 0] rfl) (Nat.lt_succ_self _)
          ·
            refine r_aload_n S dX7_step_88 rfl (lv_at hl 0 rfl) ?_
            refine r_iload_n S dX7_step_89 rfl (lv_at hl 1 rfl) ?_
            refine r_put (K := 1) (ty := .int) S X354 (Nat.le_of_ble_eq_true rfl) rfl lk7_28_7 (fun _ => ⟨_, rfl, Nat.le_of_ble_eq_true rfl, rfl⟩) (fun _ _ _ h => by cases h; exact ⟨rfl, rfl⟩) rfl rfl dX7_step_90 (fun t24225 H lc M24226 X24227 => ?_)
            have I24228 := Inv_mu I300 M24226 (show Rg (kd 1) 3 i11 from (R_of (lo := 0) (hi := 940) r12 rfl))
            have F24229 : Fr [(1, 3), (1, 4), (1, 5), (1, 7), (1, 8)] [201] τ t24225 := Fr_mu F301 M24226 (by decide)
            refine r_aload_n S dX7_step_93 rfl (lv_at hl 0 rfl) ?_
            refine r_aload_n S dX7_step_94 rfl (lv_at hl 0 rfl) ?_
            refine r_geti (K := 1) S X24227 (Nat.le_of_ble_eq_true rfl) rfl lk7_15_7 (fun _ => ⟨_, rfl, rfl⟩) ((M24226.2 1 1 (Or.inr (by decide))).trans z303) dX7_step_95 ?_
            refine r_aload_n S dX7_step_98 rfl (lv_at hl 0 rfl) ?_
            refine r_geti (K := 1) S X24227 (Nat.le_of_ble_eq_true rfl) rfl lk7_19_7 (fun _ => ⟨_, rfl, rfl⟩) ((M24226.2 1 2 (Or.inr (by decide))).trans z304) dX7_step_99 ?_
            refine r_icmp_le (tgt := 109) S dX7_step_102 (by decide) (fun c24230 => ?_) (fun c24230 => ?_)
            ·
              have r24231 : R (0) (900) v1 := ⟨by omega, by omega⟩
              refine r_iconst S dX7_step_109 (by decide) (fun v24232 z24233 => ?_)
              have r24234 := R_eq z24233
              refine r_put (K := 1) (ty := .int) S X24227 (Nat.le_of_ble_eq_true rfl) rfl lk7_31_7 (fun _ => ⟨_, rfl, Nat.le_of_ble_eq_true rfl, rfl⟩) (fun _ _ _ h => by cases h; exact ⟨rfl, rfl⟩) rfl rfl dX7_step_110 (fun t24235 H lc M24236 X24237 => ?_)
              have I24238 := Inv_mu I24228 M24236 (show Rg (kd 1) 5 v24232 from (R_of (lo := 0) (hi := 4) r24234 rfl))
              have F24239 : Fr [(1, 3), (1, 4), (1, 5), (1, 7), (1, 8)] [201] τ t24235 := Fr_mu F24229 M24236 (by decide)
              exact r_vret S hr hlk X24237 ⟨I24238, F24239⟩ dX7_step_113
            ·
              have r24240 : R (1) (940) v1 := ⟨by omega, by omega⟩
              refine r_iconst S dX7_step_105 (by decide) (fun v24241 z24242 => ?_)
              have r24243 := R_eq z24242
              refine r_goto (tgt := 110) S dX7_step_106 (by decide) ?_
              refine r_put (K := 1) (ty := .int) S X24227 (Nat.le_of_ble_eq_true rfl) rfl lk7_31_7 (fun _ => ⟨_, rfl, Nat.le_of_ble_eq_true rfl, rfl⟩) (fun _ _ _ h => by cases h; exact ⟨rfl, rfl⟩) rfl rfl dX7_step_110 (fun t24244 H lc M24245 X24246 => ?_)
              have I24247 := Inv_mu I24228 M24245 (show Rg (kd 1) 5 v24241 from (R_of (lo := 0) (hi := 4) r24243 rfl))
              have F24248 : Fr [(1, 3), (1, 4), (1, 5), (1, 7), (1, 8)] [201] τ t24244 := Fr_mu F24229 M24245 (by decide)
              exact r_vret S hr hlk X24246 ⟨I24247, F24248⟩ dX7_step_113
        refine r_icmp_ge (tgt := 80) S dX7_step_36 (by decide) (fun c24249 => ?_) (fun c24249 => ?_)
        ·
          exact J355 _ _ _ X302 (lv_sub hl [0, 1] rfl)
        ·
          have r24250 : R (0) (899) f306 := ⟨by omega, by omega⟩
          have r24251 : R (1) (900) i11 := ⟨by omega, by omega⟩
          refine r_aload_n S dX7_step_39 rfl (lv_at hl 0 rfl) ?_
          refine r_get (K := 1) (v := .ref (G.2.2.2.1 2)) S X302 (Nat.le_of_ble_eq_true rfl) rfl lk7_9_7 (fun _ => ⟨_, rfl, rfl⟩) dX7_step_40 ?_
          refine r_aload_n S dX7_step_43 rfl (lv_at hl 0 rfl) ?_
          refine r_geti (K := 1) S X302 (Nat.le_of_ble_eq_true rfl) rfl lk7_28_7 (fun _ => ⟨_, rfl, rfl⟩) z308 dX7_step_44 ?_
          refine r_aldn (n := 940) (K := 2) S X302 (Nat.le_of_ble_eq_true rfl) rfl (fun _ => rfl) (ix_of r24250 rfl) dX7_step_47 (fun v24252 z24253 => ?_)
          have r24254 : R (0) (255) v24252 := rd I300 rfl z24253
          refine r_bipush S dX7_step_48 (by decide) (fun v24255 z24256 => ?_)
          have r24257 := R_eq z24256
          have J24269 : ∀ (H : Heap) (lc : List Loc) (ls : Array Slot), Xd G s H lc t299 → lv_has ls 5 [(0, .ref (G.2.2.2.1 1)), (1, .int i11)] → W p l e (Rm 0 0) s m ([.ref (G.2.2.2.1 1)] : List Value).toArray below meth c H lc 0 0 (MQ below (va_Qv (po_X7_step τ    ) (Bs G) G.2.2.2.2) ([.ref (G.2.2.2.1 1)] : List Value).toArray s 0 0 G.2.2.2.2) (F0 m 67 ls []) := by
            intro H lc ls X24268 hl
            refine r_aload_n S dX7_step_67 rfl (lv_at hl 0 rfl) ?_
            refine r_dup S dX7_step_68 rfl ?_
            refine r_geti (K := 1) S X24268 (Nat.le_of_ble_eq_true rfl) rfl lk7_28_7 (fun _ => ⟨_, rfl, rfl⟩) z308 dX7_step_69 ?_
            refine r_iconst S dX7_step_72 (by decide) (fun v24270 z24271 => ?_)
            have r24272 := R_eq z24271
            refine r_iadd S dX7_step_73 (fun v24273 z24274 => ?_)
            obtain ⟨e24275, r24276⟩ := i_add (lo := 1) (hi := 900) z24274 r24250 r24272 rfl
            refine r_put (K := 1) (ty := .int) S X24268 (Nat.le_of_ble_eq_true rfl) rfl lk7_28_7 (fun _ => ⟨_, rfl, Nat.le_of_ble_eq_true rfl, rfl⟩) (fun _ _ _ h => by cases h; exact ⟨rfl, rfl⟩) rfl rfl dX7_step_74 (fun t24277 H lc M24278 X24279 => ?_)
            have I24280 := Inv_mu I300 M24278 (show Rg (kd 1) 3 v24273 from (R_of (lo := 0) (hi := 940) r24276 rfl))
            have F24281 : Fr [(1, 3), (1, 4), (1, 5), (1, 7), (1, 8)] [201] τ t24277 := Fr_mu F301 M24278 (by decide)
            refine r_goto (tgt := 31) S dX7_step_77 (by decide) ?_
            exact ih310 t24277 _ _ _ v24273 X24279 I24280 F24281 ((M24278.2 1 1 (Or.inr (by decide))).trans z303) ((M24278.2 1 2 (Or.inr (by decide))).trans z304) ((M24278.2 1 4 (Or.inr (by decide))).trans z305) M24278.1 ⟨by omega, by omega⟩ (lv_sub hl [0, 1] rfl) (by omega)
          refine r_icmp_eq (tgt := 67) S dX7_step_50 (by decide) (fun c24282 => ?_) (fun c24282 => ?_)
          ·
            have r24283 : R (32) (32) v24252 := ⟨by omega, by omega⟩
            exact J24269 _ _ _ X302 (lv_sub hl [0, 1] rfl)
          ·
            refine r_aload_n S dX7_step_53 rfl (lv_at hl 0 rfl) ?_
            refine r_get (K := 1) (v := .ref (G.2.2.2.1 2)) S X302 (Nat.le_of_ble_eq_true rfl) rfl lk7_9_7 (fun _ => ⟨_, rfl, rfl⟩) dX7_step_54 ?_
            refine r_aload_n S dX7_step_57 rfl (lv_at hl 0 rfl) ?_
            refine r_geti (K := 1) S X302 (Nat.le_of_ble_eq_true rfl) rfl lk7_28_7 (fun _ => ⟨_, rfl, rfl⟩) z308 dX7_step_58 ?_
            refine r_aldn (n := 940) (K := 2) S X302 (Nat.le_of_ble_eq_true rfl) rfl (fun _ => rfl) (ix_of r24250 rfl) dX7_step_61 (fun v24284 z24285 => ?_)
            have r24286 : R (0) (255) v24284 := rd I300 rfl z24285
            refine r_bipush S dX7_step_62 (by decide) (fun v24287 z24288 => ?_)
            have r24289 := R_eq z24288
            refine r_icmp_ne (tgt := 80) S dX7_step_64 (by decide) (fun c24290 => ?_) (fun c24290 => ?_)
            ·
              exact J355 _ _ _ X302 (lv_sub hl [0, 1] rfl)
            ·
              have r24291 : R (10) (10) v24284 := ⟨by omega, by omega⟩
              exact J24269 _ _ _ X302 (lv_sub hl [0, 1] rfl)
    exact L309 _ t17 _ _ _ v14 X19 I20 F21 ((M18.2 1 1 (Or.inr (by decide))).trans z2) ((M18.2 1 2 (Or.inr (by decide))).trans z5) ((M18.2 1 4 (Or.inr (by decide))).trans z15) M18.1 ⟨by omega, by omega⟩ (lv_sub hl [1, 0] rfl) (Nat.lt_succ_self _)
  refine r_icmp_ge (tgt := 18) S dX7_step_8 (by decide) (fun c24292 => ?_) (fun c24292 => ?_)
  ·
    refine r_aload_n S dX7_step_18 rfl (lv_at hl 0 rfl) ?_
    refine r_geti (K := 1) S X (Nat.le_of_ble_eq_true rfl) rfl lk7_19_7 (fun _ => ⟨_, rfl, rfl⟩) z5 dX7_step_19 ?_
    exact J13 _ _ _ v4 X r6 (lv_sub hl [0] rfl)
  ·
    have r24293 : R (0) (899) v1 := ⟨by omega, by omega⟩
    have r24294 : R (1) (900) v4 := ⟨by omega, by omega⟩
    refine r_aload_n S dX7_step_11 rfl (lv_at hl 0 rfl) ?_
    refine r_geti (K := 1) S X (Nat.le_of_ble_eq_true rfl) rfl lk7_15_7 (fun _ => ⟨_, rfl, rfl⟩) z2 dX7_step_12 ?_
    refine r_goto (tgt := 22) S dX7_step_15 (by decide) ?_
    exact J13 _ _ _ v1 X (R_of r24293 rfl) (lv_sub hl [0] rfl)
def po_X7_open (τ : Tau)  (a0 : Int32)   (u : Tau) : Prop := Inv u ∧ Fr [(1, 2), (1, 3), (1, 4), (1, 5), (1, 7), (1, 8)] [201] τ u
set_option maxHeartbeats 4000000 in
set_option maxRecDepth 100000 in
theorem c_X7_open (l : Launch) (G : Gx) (τ : Tau) (hI : Inv τ) (a0 : Int32) (h_a0 : R (0) (900) a0) : Cv l G yX7_open cX7_open 2 1 24 [.ref (G.2.2.2.1 1), .int a0] τ (po_X7_open τ  a0  ) := by
  unfold Cv
  refine C_of (own := RX7) (by decide) rfl (Nat.le_of_ble_eq_true rfl) ?_
  intro p e s m below meth c ls S hr hlk X hl
  have hl : lv_has ls 2 [(0, .ref (G.2.2.2.1 1)), (1, .int a0)] := hl
  refine r_aload_n S dX7_open_0 rfl (lv_at hl 0 rfl) ?_
  refine r_iload_n S dX7_open_1 rfl (lv_at hl 1 rfl) ?_
  refine r_put (K := 1) (ty := .int) S X (Nat.le_of_ble_eq_true rfl) rfl lk7_19_7 (fun _ => ⟨_, rfl, Nat.le_of_ble_eq_true rfl, rfl⟩) (fun _ _ _ h => by cases h; exact ⟨rfl, rfl⟩) rfl rfl dX7_open_2 (fun t1 H lc M2 X3 => ?_)
  have I4 := Inv_mu hI M2 (show Rg (kd 1) 2 a0 from (R_of (lo := 0) (hi := 900) h_a0 rfl))
  have F5 : Fr [(1, 2), (1, 3), (1, 4), (1, 5), (1, 7), (1, 8)] [201] τ t1 := Fr_mu Fr_rfl M2 (by decide)
  refine r_aload_n S dX7_open_5 rfl (lv_at hl 0 rfl) ?_
  refine r_iconst S dX7_open_6 (by decide) (fun v6 z7 => ?_)
  have r8 := R_eq z7
  refine r_put (K := 1) (ty := .int) S X3 (Nat.le_of_ble_eq_true rfl) rfl lk7_22_7 (fun _ => ⟨_, rfl, Nat.le_of_ble_eq_true rfl, rfl⟩) (fun _ _ _ h => by cases h; exact ⟨rfl, rfl⟩) rfl rfl dX7_open_7 (fun t9 H lc M10 X11 => ?_)
  have I12 := Inv_mu I4 M10 (show Rg (kd 1) 4 v6 from (R_of (lo := 0) (hi := 940) r8 rfl))
  have F13 : Fr [(1, 2), (1, 3), (1, 4), (1, 5), (1, 7), (1, 8)] [201] τ t9 := Fr_mu F5 M10 (by decide)
  refine r_aload_n S dX7_open_10 rfl (lv_at hl 0 rfl) ?_
  refine r_kv (q_V (As := []) (rest := []) (K := 1) (ci := 7) S X11 (c_X7_step l G t9 I12 ) ck7_25 (Nat.le_of_ble_eq_true rfl) rfl (fun _ => ⟨_, rfl⟩) ⟨_, _, rfl⟩ ⟨Nat.le_of_ble_eq_true rfl, Nat.le_of_ble_eq_true rfl⟩ rfl hl.1 rfl (Nat.le_of_ble_eq_true rfl) dX7_open_11 ⟨Nat.le_refl 0, Nat.le_refl 0⟩) X11 (fun t16 H lc q14 X15 => ?_)
  unfold po_X7_step at q14
  obtain ⟨q17, q18⟩ := q14
  have F19 : Fr [(1, 2), (1, 3), (1, 4), (1, 5), (1, 7), (1, 8)] [201] τ t16 := Fr_call F13 q18 (by decide)
  exact r_vret S hr hlk X15 ⟨q17, F19⟩ dX7_open_14
def po_X7_is (τ : Tau)     (r : Int32) (u : Tau) : Prop := u = τ ∧ R (0) (1) r
set_option maxHeartbeats 4000000 in
set_option maxRecDepth 100000 in
theorem c_X7_is (l : Launch) (G : Gx) (τ : Tau) (hI : Inv τ) (a0 : Nat) (h_a0 : a0 < 24) : Ci l G yX7_is cX7_is 2 (some .boolean) 0 0 [.ref (G.2.2.2.1 1), .ref (G.2.2.1 a0)] τ (po_X7_is τ    ) := by
  unfold Ci
  refine C_of (own := RX7) (by decide) rfl (Nat.le_of_ble_eq_true rfl) ?_
  intro p e s m below meth c ls S hr hlk X hl
  have hl : lv_has ls 2 [(0, .ref (G.2.2.2.1 1)), (1, .ref (G.2.2.1 a0))] := hl
  refine r_aload_n S dX7_is_0 rfl (lv_at hl 0 rfl) ?_
  refine r_getn (K := 1) S X (Nat.le_of_ble_eq_true rfl) rfl lk7_31_7 (fun _ => ⟨_, rfl, rfl⟩) dX7_is_1 (fun v1 z2 => ?_)
  have r3 : R (0) (4) v1 := rd hI rfl z2
  refine r_iconst S dX7_is_4 (by decide) (fun v4 z5 => ?_)
  have r6 := R_eq z5
  refine r_icmp_ne (tgt := 24) S dX7_is_5 (by decide) (fun c7 => ?_) (fun c7 => ?_)
  ·
    refine r_iconst S dX7_is_24 (by decide) (fun v8 z9 => ?_)
    have r10 := R_eq z9
    exact r_ret S hr hlk X ⟨rfl, (R_of r10 rfl)⟩ (nr_bool (R_of (lo := 0) (hi := 1) r10 rfl)) dX7_is_25
  ·
    have r11 : R (2) (2) v1 := ⟨by omega, by omega⟩
    refine r_aload_n S dX7_is_8 rfl (lv_at hl 0 rfl) ?_
    refine r_getJ (K := 1) S X (Nat.le_of_ble_eq_true rfl) rfl lk7_34_7 (fun _ => ⟨_, rfl, rfl⟩) dX7_is_9 (fun j12 z13 => ?_)
    refine r_aload_n S dX7_is_12 rfl (lv_at hl 1 rfl) ?_
    refine r_wsp S X h_a0 kw7 dX7_is_13 (fun j14 z15 => ?_)
    refine r_lcmp S dX7_is_16 (fun v16 r17 e18 => ?_)
    refine r_if_ne (tgt := 24) S dX7_is_17 (by decide) (fun c19 => ?_) (fun c19 => ?_)
    ·
      refine r_iconst S dX7_is_24 (by decide) (fun v20 z21 => ?_)
      have r22 := R_eq z21
      exact r_ret S hr hlk X ⟨rfl, (R_of r22 rfl)⟩ (nr_bool (R_of (lo := 0) (hi := 1) r22 rfl)) dX7_is_25
    ·
      have r23 : R (0) (0) v16 := ⟨by omega, by omega⟩
      refine r_iconst S dX7_is_20 (by decide) (fun v24 z25 => ?_)
      have r26 := R_eq z25
      refine r_goto (tgt := 25) S dX7_is_21 (by decide) ?_
      exact r_ret S hr hlk X ⟨rfl, (R_of r26 rfl)⟩ (nr_bool (R_of (lo := 0) (hi := 1) r26 rfl)) dX7_is_25
def po_X7_isSigned (τ : Tau)  (a0 : Int32)   (r : Int32) (u : Tau) : Prop := u = τ ∧ R (0) (1) r
set_option maxHeartbeats 4000000 in
set_option maxRecDepth 100000 in
theorem c_X7_isSigned (l : Launch) (G : Gx) (τ : Tau) (hI : Inv τ) (a0 : Int32) (h_a0 : R (0) (65535) a0) : Ci l G yX7_isSigned cX7_isSigned 2 (some .boolean) 0 0 [.ref (G.2.2.2.1 1), .int a0] τ (po_X7_isSigned τ  a0  ) := by
  unfold Ci
  refine C_of (own := RX7) (by decide) rfl (Nat.le_of_ble_eq_true rfl) ?_
  intro p e s m below meth c ls S hr hlk X hl
  have hl : lv_has ls 2 [(0, .ref (G.2.2.2.1 1)), (1, .int a0)] := hl
  refine r_aload_n S dX7_isSigned_0 rfl (lv_at hl 0 rfl) ?_
  refine r_getn (K := 1) S X (Nat.le_of_ble_eq_true rfl) rfl lk7_31_7 (fun _ => ⟨_, rfl, rfl⟩) dX7_isSigned_1 (fun v1 z2 => ?_)
  have r3 : R (0) (4) v1 := rd hI rfl z2
  refine r_iconst S dX7_isSigned_4 (by decide) (fun v4 z5 => ?_)
  have r6 := R_eq z5
  refine r_icmp_ne (tgt := 20) S dX7_isSigned_5 (by decide) (fun c7 => ?_) (fun c7 => ?_)
  ·
    have r8 : R (0) (3) v1 := ⟨by omega, by omega⟩
    refine r_iconst S dX7_isSigned_20 (by decide) (fun v9 z10 => ?_)
    have r11 := R_eq z10
    exact r_ret S hr hlk X ⟨rfl, (R_of r11 rfl)⟩ (nr_bool (R_of (lo := 0) (hi := 1) r11 rfl)) dX7_isSigned_21
  ·
    have r12 : R (4) (4) v1 := ⟨by omega, by omega⟩
    refine r_aload_n S dX7_isSigned_8 rfl (lv_at hl 0 rfl) ?_
    refine r_getn (K := 1) S X (Nat.le_of_ble_eq_true rfl) rfl lk7_43_7 (fun _ => ⟨_, rfl, rfl⟩) dX7_isSigned_9 (fun v13 z14 => ?_)
    have r16 := R_any v13
    refine r_iload_n S dX7_isSigned_12 rfl (lv_at hl 1 rfl) ?_
    refine r_icmp_ne (tgt := 20) S dX7_isSigned_13 (by decide) (fun c17 => ?_) (fun c17 => ?_)
    ·
      refine r_iconst S dX7_isSigned_20 (by decide) (fun v18 z19 => ?_)
      have r20 := R_eq z19
      exact r_ret S hr hlk X ⟨rfl, (R_of r20 rfl)⟩ (nr_bool (R_of (lo := 0) (hi := 1) r20 rfl)) dX7_isSigned_21
    ·
      have r21 : R (0) (65535) v13 := ⟨by omega, by omega⟩
      refine r_iconst S dX7_isSigned_16 (by decide) (fun v22 z23 => ?_)
      have r24 := R_eq z23
      refine r_goto (tgt := 21) S dX7_isSigned_17 (by decide) ?_
      exact r_ret S hr hlk X ⟨rfl, (R_of r24 rfl)⟩ (nr_bool (R_of (lo := 0) (hi := 1) r24 rfl)) dX7_isSigned_21
