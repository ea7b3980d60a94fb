def po_fillq_6 (τ : Tau)  (a1 : Int32)   (u : Tau) : Prop := Inv u ∧ Fr [] [6] τ u ∧ (∀ j, j < 10 → u 6 j = a1)
set_option maxHeartbeats 4000000 in
set_option maxRecDepth 100000 in
theorem c_fillq_6 (l : Launch) (G : Gx) (τ : Tau) (hI : Inv τ) (a1 : Int32) (h_a1 : R (-1) (-1) a1) : Cv l G yJ7_fill_53178 cJ7_fill_53178 4 0 0 [.ref (G.2.2.2.1 6), .int a1] τ (po_fillq_6 τ  a1  ) := by
  unfold Cv
  refine C_of (own := RJ7) (by decide) rfl (Nat.le_of_ble_eq_true rfl) ?_
  intro p e s m below meth c ls S hr hlk X hl
  have hl : lv_has ls 4 [(0, .ref (G.2.2.2.1 6)), (1, .int a1)] := hl
  refine r_iconst S dJ7_fill_53178_0 (by decide) (fun v1 z2 => ?_)
  have r3 := R_eq z2
  refine r_istore_n (lv' := [(2, .int v1), (0, .ref (G.2.2.2.1 6)), (1, .int a1)]) S dJ7_fill_53178_1 rfl hl (by decide) rfl (fun ls hl => ?_)
  refine r_aload_n S dJ7_fill_53178_2 rfl (lv_at hl 1 rfl) ?_
  refine r_alen (x := (0, .inl fun _ => 0)) (n := 10) (K := 6) (t0 := 0) S X (Nat.le_of_ble_eq_true rfl) rfl (fun _ => ⟨_, rfl⟩) rfl (by decide) dJ7_fill_53178_3 (fun v4 z5 => ?_)
  have r6 := R_eq z5
  refine r_istore_n (lv' := [(3, .int v4), (2, .int v1), (0, .ref (G.2.2.2.1 6)), (1, .int a1)]) S dJ7_fill_53178_4 rfl hl (by decide) rfl (fun ls hl => ?_)
  have L156 : ∀ (n : Nat) (t152 : Tau) (H : Heap) (lc : List Loc) (ls : Array Slot) (i150 : Int32), Xd G s H lc t152 → Inv t152 → Fr [] [6] τ t152 → R (0) (10) i150 → (∀ j : Nat, (j : Int) < (i150).toInt → t152 6 j = a1) → lv_has ls 4 [(0, .ref (G.2.2.2.1 6)), (1, .int a1), (2, .int i150), (3, .int v4)] → (10 - i150.toInt).toNat < n → W p l e (Rm 0 0) s m ([.ref (G.2.2.2.1 6), .int a1] : List Value).toArray below meth c H lc 0 0 (MQ below (va_Qv (po_fillq_6 τ  a1  ) (Bs G) G.2.2.2.2) ([.ref (G.2.2.2.1 6), .int a1] : List Value).toArray s 0 0 G.2.2.2.2) (F0 m 5 ls []) := by
    intro n
    induction n with
    | zero => intros; omega
    | succ n ih158 =>
      intro t152 H lc ls i150 X155 I153 F154 r151 x157 hl hm
      refine r_iload_n S dJ7_fill_53178_5 rfl (lv_at hl 2 rfl) ?_
      refine r_iload_n S dJ7_fill_53178_6 rfl (lv_at hl 3 rfl) ?_
      refine r_icmp_ge (tgt := 20) S dJ7_fill_53178_7 (by decide) (fun c159 => ?_) (fun c159 => ?_)
      ·
        have r160 : R (10) (10) i150 := ⟨by omega, by omega⟩
        exact r_vret S hr hlk X155 ⟨I153, F154, (fun j hj => x157 j (by omega))⟩ dJ7_fill_53178_20
      ·
        have r161 : R (0) (9) i150 := ⟨by omega, by omega⟩
        refine r_aload_n S dJ7_fill_53178_10 rfl (lv_at hl 0 rfl) ?_
        refine r_iload_n S dJ7_fill_53178_11 rfl (lv_at hl 2 rfl) ?_
        refine r_iload_n S dJ7_fill_53178_12 rfl (lv_at hl 1 rfl) ?_
        refine r_ast (n := 10) (K := 6) S X155 (Nat.le_of_ble_eq_true rfl) rfl (fun _ _ => rfl) (ix_of r161 rfl) dJ7_fill_53178_13 (fun t162 H lc M163 X164 => ?_)
        have I165 := Inv_mu I153 M163 (show Rg (kd 6) _ a1 from (R_of (lo := -1) (hi := 9) h_a1 rfl))
        have F166 : Fr [] [6] τ t162 := Fr_cell F154 M163 (by decide)
        refine r_iinc (k := 2) S dJ7_fill_53178_14 hl rfl (by decide) (by decide) (fun v167 d168 ls z169 z170 hl => ?_)
        obtain ⟨e171, r172⟩ := i_add (lo := 1) (hi := 10) z169 r161 (R_eq z170) rfl
        have hl : lv_has ls 4 [(2, .int v167), (0, .ref (G.2.2.2.1 6)), (1, .int a1), (3, .int v4)] := hl
        refine r_goto (tgt := 5) S dJ7_fill_53178_17 (by decide) ?_
        exact ih158 t162 _ _ _ v167 X164 I165 F166 (R_of r172 rfl) (fill_up x157 M163 (by omega) (by omega)) (lv_sub hl [1, 2, 0, 3] rfl) (by omega)
  exact L156 _ τ _ _ _ v1 X hI Fr_rfl (R_of r3 rfl) (fun j hj => by exfalso; omega) (lv_sub hl [2, 3, 1, 0] rfl) (Nat.lt_succ_self _)
def po_fillq_7 (τ : Tau)  (a1 : Int32)   (u : Tau) : Prop := Inv u ∧ Fr [] [7] τ u ∧ (∀ j, j < 10 → u 7 j = a1)
set_option maxHeartbeats 4000000 in
set_option maxRecDepth 100000 in
theorem c_fillq_7 (l : Launch) (G : Gx) (τ : Tau) (hI : Inv τ) (a1 : Int32) (h_a1 : R (0) (0) a1) : Cv l G yJ7_fill_53178 cJ7_fill_53178 4 0 0 [.ref (G.2.2.2.1 7), .int a1] τ (po_fillq_7 τ  a1  ) := by
  unfold Cv
  refine C_of (own := RJ7) (by decide) rfl (Nat.le_of_ble_eq_true rfl) ?_
  intro p e s m below meth c ls S hr hlk X hl
  have hl : lv_has ls 4 [(0, .ref (G.2.2.2.1 7)), (1, .int a1)] := hl
  refine r_iconst S dJ7_fill_53178_0 (by decide) (fun v1 z2 => ?_)
  have r3 := R_eq z2
  refine r_istore_n (lv' := [(2, .int v1), (0, .ref (G.2.2.2.1 7)), (1, .int a1)]) S dJ7_fill_53178_1 rfl hl (by decide) rfl (fun ls hl => ?_)
  refine r_aload_n S dJ7_fill_53178_2 rfl (lv_at hl 1 rfl) ?_
  refine r_alen (x := (0, .inl fun _ => 0)) (n := 10) (K := 7) (t0 := 0) S X (Nat.le_of_ble_eq_true rfl) rfl (fun _ => ⟨_, rfl⟩) rfl (by decide) dJ7_fill_53178_3 (fun v4 z5 => ?_)
  have r6 := R_eq z5
  refine r_istore_n (lv' := [(3, .int v4), (2, .int v1), (0, .ref (G.2.2.2.1 7)), (1, .int a1)]) S dJ7_fill_53178_4 rfl hl (by decide) rfl (fun ls hl => ?_)
  have L156 : ∀ (n : Nat) (t152 : Tau) (H : Heap) (lc : List Loc) (ls : Array Slot) (i150 : Int32), Xd G s H lc t152 → Inv t152 → Fr [] [7] τ t152 → R (0) (10) i150 → (∀ j : Nat, (j : Int) < (i150).toInt → t152 7 j = a1) → lv_has ls 4 [(0, .ref (G.2.2.2.1 7)), (1, .int a1), (2, .int i150), (3, .int v4)] → (10 - i150.toInt).toNat < n → W p l e (Rm 0 0) s m ([.ref (G.2.2.2.1 7), .int a1] : List Value).toArray below meth c H lc 0 0 (MQ below (va_Qv (po_fillq_7 τ  a1  ) (Bs G) G.2.2.2.2) ([.ref (G.2.2.2.1 7), .int a1] : List Value).toArray s 0 0 G.2.2.2.2) (F0 m 5 ls []) := by
    intro n
    induction n with
    | zero => intros; omega
    | succ n ih158 =>
      intro t152 H lc ls i150 X155 I153 F154 r151 x157 hl hm
      refine r_iload_n S dJ7_fill_53178_5 rfl (lv_at hl 2 rfl) ?_
      refine r_iload_n S dJ7_fill_53178_6 rfl (lv_at hl 3 rfl) ?_
      refine r_icmp_ge (tgt := 20) S dJ7_fill_53178_7 (by decide) (fun c159 => ?_) (fun c159 => ?_)
      ·
        have r160 : R (10) (10) i150 := ⟨by omega, by omega⟩
        exact r_vret S hr hlk X155 ⟨I153, F154, (fun j hj => x157 j (by omega))⟩ dJ7_fill_53178_20
      ·
        have r161 : R (0) (9) i150 := ⟨by omega, by omega⟩
        refine r_aload_n S dJ7_fill_53178_10 rfl (lv_at hl 0 rfl) ?_
        refine r_iload_n S dJ7_fill_53178_11 rfl (lv_at hl 2 rfl) ?_
        refine r_iload_n S dJ7_fill_53178_12 rfl (lv_at hl 1 rfl) ?_
        refine r_ast (n := 10) (K := 7) S X155 (Nat.le_of_ble_eq_true rfl) rfl (fun _ _ => rfl) (ix_of r161 rfl) dJ7_fill_53178_13 (fun t162 H lc M163 X164 => ?_)
        have I165 := Inv_mu I153 M163 (show Rg (kd 7) _ a1 from (R_of (lo := 0) (hi := 1023) h_a1 rfl))
        have F166 : Fr [] [7] τ t162 := Fr_cell F154 M163 (by decide)
        refine r_iinc (k := 2) S dJ7_fill_53178_14 hl rfl (by decide) (by decide) (fun v167 d168 ls z169 z170 hl => ?_)
        obtain ⟨e171, r172⟩ := i_add (lo := 1) (hi := 10) z169 r161 (R_eq z170) rfl
        have hl : lv_has ls 4 [(2, .int v167), (0, .ref (G.2.2.2.1 7)), (1, .int a1), (3, .int v4)] := hl
        refine r_goto (tgt := 5) S dJ7_fill_53178_17 (by decide) ?_
        exact ih158 t162 _ _ _ v167 X164 I165 F166 (R_of r172 rfl) (fill_up x157 M163 (by omega) (by omega)) (lv_sub hl [1, 2, 0, 3] rfl) (by omega)
  exact L156 _ τ _ _ _ v1 X hI Fr_rfl (R_of r3 rfl) (fun j hj => by exfalso; omega) (lv_sub hl [2, 3, 1, 0] rfl) (Nat.lt_succ_self _)
def po_fillq_8 (τ : Tau)  (a1 : Int32)   (u : Tau) : Prop := Inv u ∧ Fr [] [8] τ u ∧ (∀ j, j < 90 → u 8 j = a1)
set_option maxHeartbeats 4000000 in
set_option maxRecDepth 100000 in
theorem c_fillq_8 (l : Launch) (G : Gx) (τ : Tau) (hI : Inv τ) (a1 : Int32) (h_a1 : R (0) (0) a1) : Cv l G yJ7_fill_53178 cJ7_fill_53178 4 0 0 [.ref (G.2.2.2.1 8), .int a1] τ (po_fillq_8 τ  a1  ) := by
  unfold Cv
  refine C_of (own := RJ7) (by decide) rfl (Nat.le_of_ble_eq_true rfl) ?_
  intro p e s m below meth c ls S hr hlk X hl
  have hl : lv_has ls 4 [(0, .ref (G.2.2.2.1 8)), (1, .int a1)] := hl
  refine r_iconst S dJ7_fill_53178_0 (by decide) (fun v1 z2 => ?_)
  have r3 := R_eq z2
  refine r_istore_n (lv' := [(2, .int v1), (0, .ref (G.2.2.2.1 8)), (1, .int a1)]) S dJ7_fill_53178_1 rfl hl (by decide) rfl (fun ls hl => ?_)
  refine r_aload_n S dJ7_fill_53178_2 rfl (lv_at hl 1 rfl) ?_
  refine r_alen (x := (0, .inl fun _ => 0)) (n := 90) (K := 8) (t0 := 0) S X (Nat.le_of_ble_eq_true rfl) rfl (fun _ => ⟨_, rfl⟩) rfl (by decide) dJ7_fill_53178_3 (fun v4 z5 => ?_)
  have r6 := R_eq z5
  refine r_istore_n (lv' := [(3, .int v4), (2, .int v1), (0, .ref (G.2.2.2.1 8)), (1, .int a1)]) S dJ7_fill_53178_4 rfl hl (by decide) rfl (fun ls hl => ?_)
  have L318 : ∀ (n : Nat) (t314 : Tau) (H : Heap) (lc : List Loc) (ls : Array Slot) (i312 : Int32), Xd G s H lc t314 → Inv t314 → Fr [] [8] τ t314 → R (0) (90) i312 → (∀ j : Nat, (j : Int) < (i312).toInt → t314 8 j = a1) → lv_has ls 4 [(0, .ref (G.2.2.2.1 8)), (1, .int a1), (2, .int i312), (3, .int v4)] → (90 - i312.toInt).toNat < n → W p l e (Rm 0 0) s m ([.ref (G.2.2.2.1 8), .int a1] : List Value).toArray below meth c H lc 0 0 (MQ below (va_Qv (po_fillq_8 τ  a1  ) (Bs G) G.2.2.2.2) ([.ref (G.2.2.2.1 8), .int a1] : List Value).toArray s 0 0 G.2.2.2.2) (F0 m 5 ls []) := by
    intro n
    induction n with
    | zero => intros; omega
    | succ n ih320 =>
      intro t314 H lc ls i312 X317 I315 F316 r313 x319 hl hm
      refine r_iload_n S dJ7_fill_53178_5 rfl (lv_at hl 2 rfl) ?_
      refine r_iload_n S dJ7_fill_53178_6 rfl (lv_at hl 3 rfl) ?_
      refine r_icmp_ge (tgt := 20) S dJ7_fill_53178_7 (by decide) (fun c321 => ?_) (fun c321 => ?_)
      ·
        have r322 : R (90) (90) i312 := ⟨by omega, by omega⟩
        exact r_vret S hr hlk X317 ⟨I315, F316, (fun j hj => x319 j (by omega))⟩ dJ7_fill_53178_20
      ·
        have r323 : R (0) (89) i312 := ⟨by omega, by omega⟩
        refine r_aload_n S dJ7_fill_53178_10 rfl (lv_at hl 0 rfl) ?_
        refine r_iload_n S dJ7_fill_53178_11 rfl (lv_at hl 2 rfl) ?_
        refine r_iload_n S dJ7_fill_53178_12 rfl (lv_at hl 1 rfl) ?_
        refine r_ast (n := 90) (K := 8) S X317 (Nat.le_of_ble_eq_true rfl) rfl (fun _ _ => rfl) (ix_of r323 rfl) dJ7_fill_53178_13 (fun t324 H lc M325 X326 => ?_)
        have I327 := Inv_mu I315 M325 (show Rg (kd 8) _ a1 from (R_of (lo := -9) (hi := 9) h_a1 rfl))
        have F328 : Fr [] [8] τ t324 := Fr_cell F316 M325 (by decide)
        refine r_iinc (k := 2) S dJ7_fill_53178_14 hl rfl (by decide) (by decide) (fun v329 d330 ls z331 z332 hl => ?_)
        obtain ⟨e333, r334⟩ := i_add (lo := 1) (hi := 90) z331 r323 (R_eq z332) rfl
        have hl : lv_has ls 4 [(2, .int v329), (0, .ref (G.2.2.2.1 8)), (1, .int a1), (3, .int v4)] := hl
        refine r_goto (tgt := 5) S dJ7_fill_53178_17 (by decide) ?_
        exact ih320 t324 _ _ _ v329 X326 I327 F328 (R_of r334 rfl) (fill_up x319 M325 (by omega) (by omega)) (lv_sub hl [1, 2, 0, 3] rfl) (by omega)
  exact L318 _ τ _ _ _ v1 X hI Fr_rfl (R_of r3 rfl) (fun j hj => by exfalso; omega) (lv_sub hl [2, 3, 1, 0] rfl) (Nat.lt_succ_self _)
def po_X2_clear_q (τ : Tau)     (u : Tau) : Prop := Inv u ∧ Fr [(4, 0), (4, 1), (4, 2), (4, 3), (4, 4)] [6, 7, 8] τ u ∧ R (4) (4) (u 4 0) ∧ R (0) (0) (u 4 1) ∧ R (0) (0) (u 4 2) ∧ R (0) (0) (u 4 3) ∧ R (0) (0) (u 4 4) ∧ (∀ j, j < 10 → (u 6 j).toInt = -1) ∧ (∀ j, j < 10 → (u 7 j).toInt = 0) ∧ (∀ j, j < 90 → (u 8 j).toInt = 0)
set_option maxHeartbeats 4000000 in
set_option maxRecDepth 100000 in
theorem c_X2_clear_q (l : Launch) (G : Gx) (τ : Tau) (hI : Inv τ) : Cv l G yX2_clear cX2_clear 1 1 23 [.ref (G.2.2.2.1 4)] τ (po_X2_clear_q τ    ) := by
  unfold Cv
  refine C_of (own := RX2) (by decide) rfl (Nat.le_of_ble_eq_true rfl) ?_
  intro p e s m below meth c ls S hr hlk X hl
  have hl : lv_has ls 1 [(0, .ref (G.2.2.2.1 4))] := hl
  refine r_aload_n S dX2_clear_0 rfl (lv_at hl 0 rfl) ?_
  refine r_iconst S dX2_clear_1 (by decide) (fun v1 z2 => ?_)
  have r3 := R_eq z2
  refine r_put (K := 4) (ty := .int) S X (Nat.le_of_ble_eq_true rfl) rfl lk2_34_2 (fun _ => ⟨_, rfl, Nat.le_of_ble_eq_true rfl, rfl⟩) (fun _ _ _ h => by cases h; exact ⟨rfl, rfl⟩) rfl rfl dX2_clear_2 (fun t4 H lc M5 X6 => ?_)
  have I7 := Inv_mu hI M5 (show Rg (kd 4) 0 v1 from (R_of (lo := 0) (hi := 8) r3 rfl))
  have F8 : Fr [(4, 0), (4, 1), (4, 2), (4, 3), (4, 4)] [6, 7, 8] τ t4 := Fr_mu Fr_rfl M5 (by decide)
  refine r_aload_n S dX2_clear_5 rfl (lv_at hl 0 rfl) ?_
  refine r_iconst S dX2_clear_6 (by decide) (fun v9 z10 => ?_)
  have r11 := R_eq z10
  refine r_put (K := 4) (ty := .int) S X6 (Nat.le_of_ble_eq_true rfl) rfl lk2_38_2 (fun _ => ⟨_, rfl, Nat.le_of_ble_eq_true rfl, rfl⟩) (fun _ _ _ h => by cases h; exact ⟨rfl, rfl⟩) rfl rfl dX2_clear_7 (fun t12 H lc M13 X14 => ?_)
  have I15 := Inv_mu I7 M13 (show Rg (kd 4) 1 v9 from (R_of (lo := 0) (hi := 9) r11 rfl))
  have F16 : Fr [(4, 0), (4, 1), (4, 2), (4, 3), (4, 4)] [6, 7, 8] τ t12 := Fr_mu F8 M13 (by decide)
  refine r_aload_n S dX2_clear_10 rfl (lv_at hl 0 rfl) ?_
  refine r_iconst S dX2_clear_11 (by decide) (fun v17 z18 => ?_)
  have r19 := R_eq z18
  refine r_put (K := 4) (ty := .int) S X14 (Nat.le_of_ble_eq_true rfl) rfl lk2_41_2 (fun _ => ⟨_, rfl, Nat.le_of_ble_eq_true rfl, rfl⟩) (fun _ _ _ h => by cases h; exact ⟨rfl, rfl⟩) rfl rfl dX2_clear_12 (fun t20 H lc M21 X22 => ?_)
  have I23 := Inv_mu I15 M21 (show Rg (kd 4) 2 v17 from (R_of (lo := 0) (hi := 9) r19 rfl))
  have F24 : Fr [(4, 0), (4, 1), (4, 2), (4, 3), (4, 4)] [6, 7, 8] τ t20 := Fr_mu F16 M21 (by decide)
  refine r_aload_n S dX2_clear_15 rfl (lv_at hl 0 rfl) ?_
  refine r_iconst S dX2_clear_16 (by decide) (fun v25 z26 => ?_)
  have r27 := R_eq z26
  refine r_put (K := 4) (ty := .int) S X22 (Nat.le_of_ble_eq_true rfl) rfl lk2_44_2 (fun _ => ⟨_, rfl, Nat.le_of_ble_eq_true rfl, rfl⟩) (fun _ _ _ h => by cases h; exact ⟨rfl, rfl⟩) rfl rfl dX2_clear_17 (fun t28 H lc M29 X30 => ?_)
  have I31 := Inv_mu I23 M29 (show Rg (kd 4) 3 v25 from (R_of (lo := 0) (hi := 10) r27 rfl))
  have F32 : Fr [(4, 0), (4, 1), (4, 2), (4, 3), (4, 4)] [6, 7, 8] τ t28 := Fr_mu F24 M29 (by decide)
  refine r_aload_n S dX2_clear_20 rfl (lv_at hl 0 rfl) ?_
  refine r_iconst S dX2_clear_21 (by decide) (fun v33 z34 => ?_)
  have r35 := R_eq z34
  refine r_put (K := 4) (ty := .int) S X30 (Nat.le_of_ble_eq_true rfl) rfl lk2_47_2 (fun _ => ⟨_, rfl, Nat.le_of_ble_eq_true rfl, rfl⟩) (fun _ _ _ h => by cases h; exact ⟨rfl, rfl⟩) rfl rfl dX2_clear_22 (fun t36 H lc M37 X38 => ?_)
  have I39 := Inv_mu I31 M37 (R_any v33)
  have F40 : Fr [(4, 0), (4, 1), (4, 2), (4, 3), (4, 4)] [6, 7, 8] τ t36 := Fr_mu F32 M37 (by decide)
  refine r_aload_n S dX2_clear_25 rfl (lv_at hl 0 rfl) ?_
  refine r_get (K := 4) (v := .ref (G.2.2.2.1 6)) S X38 (Nat.le_of_ble_eq_true rfl) rfl lk2_15_2 (fun _ => ⟨_, rfl, rfl⟩) dX2_clear_26 ?_
  refine r_iconst S dX2_clear_29 (by decide) (fun v41 z42 => ?_)
  have r43 := R_eq z42
  refine r_kv (q_S (As := [.ref (G.2.2.2.1 6), .int v41]) (rest := []) S X38 (c_fillq_6 l G t36 I39 v41 r43) ck2_50 ⟨Nat.le_of_ble_eq_true rfl, Nat.le_of_ble_eq_true rfl⟩ rfl hl.1 rfl (Nat.le_of_ble_eq_true rfl) dX2_clear_30 ⟨Nat.le_refl 0, Nat.le_refl 0⟩) X38 (fun t46 H lc q44 X45 => ?_)
  unfold po_fillq_6 at q44
  obtain ⟨q47, q48, q49⟩ := q44
  have F50 : Fr [(4, 0), (4, 1), (4, 2), (4, 3), (4, 4)] [6, 7, 8] τ t46 := Fr_call F40 q48 (by decide)
  refine r_aload_n S dX2_clear_33 rfl (lv_at hl 0 rfl) ?_
  refine r_get (K := 4) (v := .ref (G.2.2.2.1 7)) S X45 (Nat.le_of_ble_eq_true rfl) rfl lk2_18_2 (fun _ => ⟨_, rfl, rfl⟩) dX2_clear_34 ?_
  refine r_iconst S dX2_clear_37 (by decide) (fun v51 z52 => ?_)
  have r53 := R_eq z52
  refine r_kv (q_S (As := [.ref (G.2.2.2.1 7), .int v51]) (rest := []) S X45 (c_fillq_7 l G t46 q47 v51 r53) ck2_50 ⟨Nat.le_of_ble_eq_true rfl, Nat.le_of_ble_eq_true rfl⟩ rfl hl.1 rfl (Nat.le_of_ble_eq_true rfl) dX2_clear_38 ⟨Nat.le_refl 0, Nat.le_refl 0⟩) X45 (fun t56 H lc q54 X55 => ?_)
  unfold po_fillq_7 at q54
  obtain ⟨q57, q58, q59⟩ := q54
  have F60 : Fr [(4, 0), (4, 1), (4, 2), (4, 3), (4, 4)] [6, 7, 8] τ t56 := Fr_call F50 q58 (by decide)
  refine r_aload_n S dX2_clear_41 rfl (lv_at hl 0 rfl) ?_
  refine r_get (K := 4) (v := .ref (G.2.2.2.1 8)) S X55 (Nat.le_of_ble_eq_true rfl) rfl lk2_21_2 (fun _ => ⟨_, rfl, rfl⟩) dX2_clear_42 ?_
  refine r_iconst S dX2_clear_45 (by decide) (fun v61 z62 => ?_)
  have r63 := R_eq z62
  refine r_kv (q_S (As := [.ref (G.2.2.2.1 8), .int v61]) (rest := []) S X55 (c_fillq_8 l G t56 q57 v61 r63) ck2_50 ⟨Nat.le_of_ble_eq_true rfl, Nat.le_of_ble_eq_true rfl⟩ rfl hl.1 rfl (Nat.le_of_ble_eq_true rfl) dX2_clear_46 ⟨Nat.le_refl 0, Nat.le_refl 0⟩) X55 (fun t66 H lc q64 X65 => ?_)
  unfold po_fillq_8 at q64
  obtain ⟨q67, q68, q69⟩ := q64
  have F70 : Fr [(4, 0), (4, 1), (4, 2), (4, 3), (4, 4)] [6, 7, 8] τ t66 := Fr_call F60 q68 (by decide)
  exact r_vret S hr hlk X65 ⟨q67, F70, (by rw [((q68 4 0 (by decide)).trans ((q58 4 0 (by decide)).trans ((q48 4 0 (by decide)).trans ((M37.2 4 0 (Or.inr (by decide))).trans ((M29.2 4 0 (Or.inr (by decide))).trans ((M21.2 4 0 (Or.inr (by decide))).trans ((M13.2 4 0 (Or.inr (by decide))).trans M5.1)))))))]; exact R_of r3 rfl), (by rw [((q68 4 1 (by decide)).trans ((q58 4 1 (by decide)).trans ((q48 4 1 (by decide)).trans ((M37.2 4 1 (Or.inr (by decide))).trans ((M29.2 4 1 (Or.inr (by decide))).trans ((M21.2 4 1 (Or.inr (by decide))).trans M13.1))))))]; exact R_of r11 rfl), (by rw [((q68 4 2 (by decide)).trans ((q58 4 2 (by decide)).trans ((q48 4 2 (by decide)).trans ((M37.2 4 2 (Or.inr (by decide))).trans ((M29.2 4 2 (Or.inr (by decide))).trans M21.1)))))]; exact R_of r19 rfl), (by rw [((q68 4 3 (by decide)).trans ((q58 4 3 (by decide)).trans ((q48 4 3 (by decide)).trans ((M37.2 4 3 (Or.inr (by decide))).trans M29.1))))]; exact R_of r27 rfl), (by rw [((q68 4 4 (by decide)).trans ((q58 4 4 (by decide)).trans ((q48 4 4 (by decide)).trans M37.1)))]; exact R_of r35 rfl), (fun j hj => by have q := congrArg Int32.toInt ((((q68 6 j (by simp [fz])).trans ((q58 6 j (by simp [fz])).trans rfl)) : t66 6 j = t46 6 j).trans (q49 j hj)); omega), (fun j hj => by have q := congrArg Int32.toInt ((((q68 7 j (by simp [fz])).trans rfl) : t66 7 j = t56 7 j).trans (q59 j hj)); omega), (fun j hj => by have q := congrArg Int32.toInt ((rfl : t66 8 j = t66 8 j).trans (q69 j hj)); omega)⟩ dX2_clear_49
def po_X7_open_q (τ : Tau)  (a0 : Int32)  (bb : Nat → Int) (nb : Nat) (u : Tau) : Prop := Inv u ∧ Fr [(1, 2), (1, 3), (1, 4), (1, 5), (1, 7), (1, 8)] [201] τ u ∧ RT bb nb 900 u (lex bb nb 900 0)
set_option maxHeartbeats 4000000 in
set_option maxRecDepth 100000 in
theorem c_X7_open_q (l : Launch) (G : Gx) (τ : Tau) (hI : Inv τ) (a0 : Int32) (h_a0 : R (900) (900) a0) (bb : Nat → Int) (nb : Nat) (hB0 : RB0 bb nb τ) : Cv l G yX7_open cX7_open 2 1 24 [.ref (G.2.2.2.1 1), .int a0] τ (po_X7_open_q τ  a0  bb nb) := by
  unfold Cv
  refine C_of (own := RX7) (by decide) rfl (Nat.le_of_ble_eq_true rfl) ?_
  intro p e s m below meth c ls S hr hlk X hl
  have hl : lv_has ls 2 [(0, .ref (G.2.2.2.1 1)), (1, .int a0)] := hl
  refine r_aload_n S dX7_open_0 rfl (lv_at hl 0 rfl) ?_
  refine r_iload_n S dX7_open_1 rfl (lv_at hl 1 rfl) ?_
  refine r_put (K := 1) (ty := .int) S X (Nat.le_of_ble_eq_true rfl) rfl lk7_19_7 (fun _ => ⟨_, rfl, Nat.le_of_ble_eq_true rfl, rfl⟩) (fun _ _ _ h => by cases h; exact ⟨rfl, rfl⟩) rfl rfl dX7_open_2 (fun t1 H lc M2 X3 => ?_)
  have I4 := Inv_mu hI M2 (show Rg (kd 1) 2 a0 from (R_of (lo := 0) (hi := 900) h_a0 rfl))
  have F5 : Fr [(1, 2), (1, 3), (1, 4), (1, 5), (1, 7), (1, 8)] [201] τ t1 := Fr_mu Fr_rfl M2 (by decide)
  refine r_aload_n S dX7_open_5 rfl (lv_at hl 0 rfl) ?_
  refine r_iconst S dX7_open_6 (by decide) (fun v6 z7 => ?_)
  have r8 := R_eq z7
  refine r_put (K := 1) (ty := .int) S X3 (Nat.le_of_ble_eq_true rfl) rfl lk7_22_7 (fun _ => ⟨_, rfl, Nat.le_of_ble_eq_true rfl, rfl⟩) (fun _ _ _ h => by cases h; exact ⟨rfl, rfl⟩) rfl rfl dX7_open_7 (fun t9 H lc M10 X11 => ?_)
  have I12 := Inv_mu I4 M10 (show Rg (kd 1) 4 v6 from (R_of (lo := 0) (hi := 940) r8 rfl))
  have F13 : Fr [(1, 2), (1, 3), (1, 4), (1, 5), (1, 7), (1, 8)] [201] τ t9 := Fr_mu F5 M10 (by decide)
  refine r_aload_n S dX7_open_10 rfl (lv_at hl 0 rfl) ?_
  refine r_kv (q_V (As := []) (rest := []) (K := 1) (ci := 7) S X11 (c_X7_step_q l G t9 I12 bb nb 900 0 (RB_of (RB0_eq hB0 (F13 1 1 (by simp [fz])) (fun j => F13 2 j (by simp [fz]))) ((M10.2 1 2 (Or.inr (by decide))).trans M2.1) (by omega)) (by rw [M10.1]; omega) (Nat.zero_le _)) ck7_25 (Nat.le_of_ble_eq_true rfl) rfl (fun _ => ⟨_, rfl⟩) ⟨_, _, rfl⟩ ⟨Nat.le_of_ble_eq_true rfl, Nat.le_of_ble_eq_true rfl⟩ rfl hl.1 rfl (Nat.le_of_ble_eq_true rfl) dX7_open_11 ⟨Nat.le_refl 0, Nat.le_refl 0⟩) X11 (fun t16 H lc q14 X15 => ?_)
  unfold po_X7_step_q at q14
  obtain ⟨q17, q18, q19⟩ := q14
  have F20 : Fr [(1, 2), (1, 3), (1, 4), (1, 5), (1, 7), (1, 8)] [201] τ t16 := Fr_call F13 q18 (by decide)
  exact r_vret S hr hlk X15 ⟨q17, F20, q19⟩ dX7_open_14
def po_X8_open_q (τ : Tau)  (a0 : Int32)  (bb : Nat → Int) (nb : Nat) (u : Tau) : Prop := Inv u ∧ Fr [(3, 1), (1, 2), (1, 3), (1, 4), (1, 5), (1, 7), (1, 8)] [201] τ u ∧ R (0) (0) (u 3 1) ∧ RT bb nb 900 u (lex bb nb 900 0)
set_option maxHeartbeats 4000000 in
set_option maxRecDepth 100000 in
theorem c_X8_open_q (l : Launch) (G : Gx) (τ : Tau) (hI : Inv τ) (a0 : Int32) (h_a0 : R (900) (900) a0) (bb : Nat → Int) (nb : Nat) (hB0 : RB0 bb nb τ) : Cv l G yX8_open cX8_open 2 2 45 [.ref (G.2.2.2.1 3), .int a0] τ (po_X8_open_q τ  a0  bb nb) := by
  unfold Cv
  refine C_of (own := RX8) (by decide) rfl (Nat.le_of_ble_eq_true rfl) ?_
  intro p e s m below meth c ls S hr hlk X hl
  have hl : lv_has ls 2 [(0, .ref (G.2.2.2.1 3)), (1, .int a0)] := hl
  refine r_aload_n S dX8_open_0 rfl (lv_at hl 0 rfl) ?_
  refine r_iconst S dX8_open_1 (by decide) (fun v1 z2 => ?_)
  have r3 := R_eq z2
  refine r_put (K := 3) (ty := .int) S X (Nat.le_of_ble_eq_true rfl) rfl lk8_15_0 (fun _ => ⟨_, rfl, Nat.le_of_ble_eq_true rfl, rfl⟩) (fun _ _ _ h => by cases h; exact ⟨rfl, rfl⟩) rfl rfl dX8_open_2 (fun t4 H lc M5 X6 => ?_)
  have I7 := Inv_mu hI M5 (R_any v1)
  have F8 : Fr [(3, 1), (1, 2), (1, 3), (1, 4), (1, 5), (1, 7), (1, 8)] [201] τ t4 := Fr_mu Fr_rfl M5 (by decide)
  refine r_aload_n S dX8_open_5 rfl (lv_at hl 0 rfl) ?_
  refine r_get (K := 3) (v := .ref (G.2.2.2.1 1)) S X6 (Nat.le_of_ble_eq_true rfl) rfl lk8_9_0 (fun _ => ⟨_, rfl, rfl⟩) dX8_open_6 ?_
  refine r_iload_n S dX8_open_9 rfl (lv_at hl 1 rfl) ?_
  refine r_kv (q_V (As := [.int a0]) (rest := []) (K := 1) (ci := 7) S X6 (c_X7_open_q l G t4 I7 a0 h_a0 bb nb (RB0_eq hB0 (F8 1 1 (by simp [fz])) (fun j => F8 2 j (by simp [fz])))) ck8_19 (Nat.le_of_ble_eq_true rfl) rfl (fun _ => ⟨_, rfl⟩) ⟨_, _, rfl⟩ ⟨Nat.le_of_ble_eq_true rfl, Nat.le_of_ble_eq_true rfl⟩ rfl hl.1 rfl (Nat.le_of_ble_eq_true rfl) dX8_open_10 ⟨Nat.le_refl 0, Nat.le_refl 0⟩) X6 (fun t11 H lc q9 X10 => ?_)
  unfold po_X7_open_q at q9
  obtain ⟨q12, q13, q14⟩ := q9
  have F15 : Fr [(3, 1), (1, 2), (1, 3), (1, 4), (1, 5), (1, 7), (1, 8)] [201] τ t11 := Fr_call F8 q13 (by decide)
  exact r_vret S hr hlk X10 ⟨q12, F15, (by rw [((q13 3 1 (by decide)).trans M5.1)]; exact R_of r3 rfl), (RT_fr q14 (fun j => rfl) (fun j => rfl) (fun j => rfl))⟩ dX8_open_13
def po_X0_read_q (τ : Tau)    (bb : Nat → Int) (nb : Nat) (r : Int32) (u : Tau) : Prop := Inv u ∧ Fr [(3, 1), (3, 2), (3, 5), (3, 6), (4, 0), (4, 1), (4, 2), (4, 3), (4, 4), (1, 3), (1, 4), (1, 5), (1, 7), (1, 8), (3, 4), (1, 2)] [5, 6, 7, 8, 201, 210, 209] τ u ∧ R (0) (1) r ∧ (r.toInt = 1 → R (0) (0) (u 3 1)) ∧ QX (sFe bb nb) r u (fun g => (u 3 4).toInt = g.1 ∧ RC bb nb u g.2)
set_option maxHeartbeats 4000000 in
set_option maxRecDepth 100000 in
theorem c_X0_read_q (l : Launch) (G : Gx) (τ : Tau) (hI : Inv τ) (bb : Nat → Int) (nb : Nat) (hB0 : RB0 bb nb τ) : Ci l G yX0_read cX0_read 1 (some .boolean) 5 111 [.ref (G.2.2.2.1 3)] τ (po_X0_read_q τ    bb nb) := by
  unfold Ci
  refine C_of (own := RX0) (by decide) rfl (Nat.le_of_ble_eq_true rfl) ?_
  intro p e s m below meth c ls S hr hlk X hl
  have hl : lv_has ls 1 [(0, .ref (G.2.2.2.1 3))] := hl
  refine r_aload_n S dX0_read_0 rfl (lv_at hl 0 rfl) ?_
  refine r_get (K := 3) (v := .ref (G.2.2.2.1 4)) S X (Nat.le_of_ble_eq_true rfl) rfl lk0_14_0 (fun _ => ⟨_, rfl, rfl⟩) dX0_read_1 ?_
  refine r_kv (q_V (As := []) (rest := []) (K := 4) (ci := 2) S X (c_X2_clear_q l G τ hI ) ck0_20 (Nat.le_of_ble_eq_true rfl) rfl (fun _ => ⟨_, rfl⟩) ⟨_, _, rfl⟩ ⟨Nat.le_of_ble_eq_true rfl, Nat.le_of_ble_eq_true rfl⟩ rfl hl.1 rfl (Nat.le_of_ble_eq_true rfl) dX0_read_4 ⟨Nat.le_refl 0, Nat.le_refl 0⟩) X (fun t3 H lc q1 X2 => ?_)
  unfold po_X2_clear_q at q1
  obtain ⟨q4, q5, q6, q7, q8, q9, q10, q11, q12, q13⟩ := q1
  have F14 : Fr [(3, 1), (3, 2), (3, 5), (3, 6), (4, 0), (4, 1), (4, 2), (4, 3), (4, 4), (1, 3), (1, 4), (1, 5), (1, 7), (1, 8), (3, 4), (1, 2)] [5, 6, 7, 8, 201, 210, 209] τ t3 := Fr_call Fr_rfl q5 (by decide)
  obtain ⟨v15, z16⟩ : ∃ x, t3 4 0 = x := ⟨_, rfl⟩
  rw [z16] at q6
  obtain ⟨v17, z18⟩ : ∃ x, t3 4 1 = x := ⟨_, rfl⟩
  rw [z18] at q7
  obtain ⟨v19, z20⟩ : ∃ x, t3 4 2 = x := ⟨_, rfl⟩
  rw [z20] at q8
  obtain ⟨v21, z22⟩ : ∃ x, t3 4 3 = x := ⟨_, rfl⟩
  rw [z22] at q9
  obtain ⟨v23, z24⟩ : ∃ x, t3 4 4 = x := ⟨_, rfl⟩
  rw [z24] at q10
  refine r_aload_n S dX0_read_7 rfl (lv_at hl 0 rfl) ?_
  refine r_iconst S dX0_read_8 (by decide) (fun v25 z26 => ?_)
  have r27 := R_eq z26
  refine r_put (K := 3) (ty := .int) S X2 (Nat.le_of_ble_eq_true rfl) rfl lk0_23_0 (fun _ => ⟨_, rfl, Nat.le_of_ble_eq_true rfl, rfl⟩) (fun _ _ _ h => by cases h; exact ⟨rfl, rfl⟩) rfl rfl dX0_read_9 (fun t28 H lc M29 X30 => ?_)
  have I31 := Inv_mu q4 M29 (show Rg (kd 3) 4 v25 from (R_of (lo := 0) (hi := 940) r27 rfl))
  have F32 : Fr [(3, 1), (3, 2), (3, 5), (3, 6), (4, 0), (4, 1), (4, 2), (4, 3), (4, 4), (1, 3), (1, 4), (1, 5), (1, 7), (1, 8), (3, 4), (1, 2)] [5, 6, 7, 8, 201, 210, 209] τ t28 := Fr_mu F14 M29 (by decide)
  refine r_aload_n S dX0_read_12 rfl (lv_at hl 0 rfl) ?_
  refine r_iconst S dX0_read_13 (by decide) (fun v33 z34 => ?_)
  have r35 := R_eq z34
  refine r_put (K := 3) (ty := .boolean) S X30 (Nat.le_of_ble_eq_true rfl) rfl lk0_27_0 (fun _ => ⟨_, rfl, Nat.le_of_ble_eq_true rfl, rfl⟩) (fun _ _ _ h => by cases h; exact ⟨rfl, rfl⟩) (nr_bool (R_of (lo := 0) (hi := 1) r35 rfl)) (ft_bool (R_of (lo := 0) (hi := 1) r35 rfl)) dX0_read_14 (fun t36 H lc M37 X38 => ?_)
  have I39 := Inv_mu I31 M37 (show Rg (kd 3) 5 v33 from (R_of (lo := 0) (hi := 1) r35 rfl))
  have F40 : Fr [(3, 1), (3, 2), (3, 5), (3, 6), (4, 0), (4, 1), (4, 2), (4, 3), (4, 4), (1, 3), (1, 4), (1, 5), (1, 7), (1, 8), (3, 4), (1, 2)] [5, 6, 7, 8, 201, 210, 209] τ t36 := Fr_mu F32 M37 (by decide)
  refine r_aload_n S dX0_read_17 rfl (lv_at hl 0 rfl) ?_
  refine r_iconst S dX0_read_18 (by decide) (fun v41 z42 => ?_)
  have r43 := R_eq z42
  refine r_put (K := 3) (ty := .boolean) S X38 (Nat.le_of_ble_eq_true rfl) rfl lk0_31_0 (fun _ => ⟨_, rfl, Nat.le_of_ble_eq_true rfl, rfl⟩) (fun _ _ _ h => by cases h; exact ⟨rfl, rfl⟩) (nr_bool (R_of (lo := 0) (hi := 1) r43 rfl)) (ft_bool (R_of (lo := 0) (hi := 1) r43 rfl)) dX0_read_19 (fun t44 H lc M45 X46 => ?_)
  have I47 := Inv_mu I39 M45 (show Rg (kd 3) 6 v41 from (R_of (lo := 0) (hi := 1) r43 rfl))
  have F48 : Fr [(3, 1), (3, 2), (3, 5), (3, 6), (4, 0), (4, 1), (4, 2), (4, 3), (4, 4), (1, 3), (1, 4), (1, 5), (1, 7), (1, 8), (3, 4), (1, 2)] [5, 6, 7, 8, 201, 210, 209] τ t44 := Fr_mu F40 M45 (by decide)
  refine r_aload_n S dX0_read_22 rfl (lv_at hl 0 rfl) ?_
  refine r_sipush S dX0_read_23 (by decide) (fun v49 z50 => ?_)
  have r51 := R_eq z50
  refine r_kv (q_U (As := [.int v49]) (rest := []) (K := 3) (ci := 0) S X46 (c_X8_open_q l G t44 I47 v49 r51 bb nb (RB0_eq hB0 (F48 1 1 (by simp [fz])) (fun j => F48 2 j (by simp [fz])))) ck0_34_0 (Nat.le_of_ble_eq_true rfl) rfl (fun _ => ⟨_, rfl⟩) ⟨_, _, rfl⟩ ⟨Nat.le_of_ble_eq_true rfl, Nat.le_of_ble_eq_true rfl⟩ rfl hl.1 rfl (Nat.le_of_ble_eq_true rfl) dX0_read_26 ⟨Nat.le_refl 0, Nat.le_refl 0⟩) X46 (fun t54 H lc q52 X53 => ?_)
  unfold po_X8_open_q at q52
  obtain ⟨q55, q56, q57, q58⟩ := q52
  have F59 : Fr [(3, 1), (3, 2), (3, 5), (3, 6), (4, 0), (4, 1), (4, 2), (4, 3), (4, 4), (1, 3), (1, 4), (1, 5), (1, 7), (1, 8), (3, 4), (1, 2)] [5, 6, 7, 8, 201, 210, 209] τ t54 := Fr_call F48 q56 (by decide)
  obtain ⟨v60, z61⟩ : ∃ x, t54 3 1 = x := ⟨_, rfl⟩
  rw [z61] at q57
  have L2884 : ∀ (n : Nat) (t2874 : Tau) (H : Heap) (lc : List Loc) (ls : Array Slot) (f2878 : Int32) (f2881 : Int32), Xd G s H lc t2874 → Inv t2874 → Fr [(3, 1), (3, 2), (3, 5), (3, 6), (4, 0), (4, 1), (4, 2), (4, 3), (4, 4), (1, 3), (1, 4), (1, 5), (1, 7), (1, 8), (3, 4), (1, 2)] [5, 6, 7, 8, 201, 210, 209] τ t2874 → t2874 3 4 = f2878 → R (0) (940) f2878 → t2874 3 1 = f2881 → R (0) (0) f2881 → (∃ fc : FS, RC bb nb t2874 fc ∧ sRd bb nb (940 - (f2878).toInt.toNat) fc (f2878).toInt.toNat = sFe bb nb) → lv_has ls 1 [(0, .ref (G.2.2.2.1 3))] → (940 - f2878.toInt).toNat < n → W p l e (Rm 5 111) s m ([.ref (G.2.2.2.1 3)] : List Value).toArray below meth c H lc 0 0 (MQ below (va_Qi (po_X0_read_q τ    bb nb) (Bs G) G.2.2.2.2) ([.ref (G.2.2.2.1 3)] : List Value).toArray s 0 0 G.2.2.2.2) (F0 m 29 ls []) := by
    intro n
    induction n with
    | zero => intros; omega
    | succ n ih2886 =>
      intro t2874 H lc ls f2878 f2881 X2877 I2875 F2876 z2880 r2879 z2883 r2882 x2885 hl hm
      obtain ⟨fc2887, hR2888, he2889⟩ := x2885
      refine r_aload_n S dX0_read_29 rfl (lv_at hl 0 rfl) ?_
      refine r_geti (K := 3) S X2877 (Nat.le_of_ble_eq_true rfl) rfl lk0_23_0 (fun _ => ⟨_, rfl, rfl⟩) z2880 dX0_read_30 ?_
      refine r_sipush S dX0_read_33 (by decide) (fun v2890 z2891 => ?_)
      have r2892 := R_eq z2891
      refine r_icmp_ge (tgt := 80) S dX0_read_36 (by decide) (fun c2893 => ?_) (fun c2893 => ?_)
      ·
        have r2894 : R (940) (940) f2878 := ⟨by omega, by omega⟩
        refine r_iconst S dX0_read_80 (by decide) (fun v2895 z2896 => ?_)
        have r2897 := R_eq z2896
        exact r_ret S hr hlk X2877 ⟨I2875, F2876, (R_of r2897 rfl), (fun h => (by rw [z2883]; exact R_of r2882 rfl)), (QX_r (g := (f2878.toInt.toNat, fc2887)) (by rw [← he2889, show 940 - f2878.toInt.toNat = 0 by omega]; rfl) (by omega) ⟨by have q := congrArg Int32.toInt z2880; show (t2874 3 4).toInt = ((f2878.toInt.toNat : Nat) : Int); omega, hR2888⟩)⟩ (nr_bool (R_of (lo := 0) (hi := 1) r2897 rfl)) dX0_read_81
      ·
        have r2898 : R (0) (939) f2878 := ⟨by omega, by omega⟩
        refine r_aload_n S dX0_read_39 rfl (lv_at hl 0 rfl) ?_
        refine r_get (K := 3) (v := .ref (G.2.2.2.1 1)) S X2877 (Nat.le_of_ble_eq_true rfl) rfl lk0_38_0 (fun _ => ⟨_, rfl, rfl⟩) dX0_read_40 ?_
        refine r_getn (K := 1) S X2877 (Nat.le_of_ble_eq_true rfl) rfl lk0_42_7 (fun _ => ⟨_, rfl, rfl⟩) dX0_read_43 (fun v2899 z2900 => ?_)
        have r2901 : R (0) (4) v2899 := rd I2875 rfl z2900
        refine r_if_eq (tgt := 80) S dX0_read_46 (by decide) (fun c2902 => ?_) (fun c2902 => ?_)
        ·
          have r2903 : R (0) (0) v2899 := ⟨by omega, by omega⟩
          refine r_iconst S dX0_read_80 (by decide) (fun v2904 z2905 => ?_)
          have r2906 := R_eq z2905
          exact r_ret S hr hlk X2877 ⟨I2875, F2876, (R_of r2906 rfl), (fun h => (by rw [z2883]; exact R_of r2882 rfl)), (QX_r (g := (f2878.toInt.toNat, fc2887)) (by rw [← he2889]; exact sRd_e ((RT_k hR2888.1).1.mp (by rw [z2900]; omega))) (by omega) ⟨by have q := congrArg Int32.toInt z2880; show (t2874 3 4).toInt = ((f2878.toInt.toNat : Nat) : Int); omega, hR2888⟩)⟩ (nr_bool (R_of (lo := 0) (hi := 1) r2906 rfl)) dX0_read_81
        ·
          have r2907 : R (1) (4) v2899 := ⟨by omega, by omega⟩
          refine r_aload_n S dX0_read_49 rfl (lv_at hl 0 rfl) ?_
          refine r_ki (q_V (As := []) (rest := []) (K := 3) (ci := 0) S X2877 (c_X0_readLine_q l G t2874 I2875 (by rw [z2883]; exact R_of r2882 rfl) bb nb fc2887 hR2888 ) ck0_47 (Nat.le_of_ble_eq_true rfl) rfl (fun _ => ⟨_, rfl⟩) ⟨_, _, rfl⟩ ⟨Nat.le_of_ble_eq_true rfl, Nat.le_of_ble_eq_true rfl⟩ rfl hl.1 rfl (Nat.le_of_ble_eq_true rfl) dX0_read_50 ⟨Nat.le_refl 0, Nat.le_refl 0⟩) X2877 (fun v2911 t2910 H lc q2908 X2909 => ?_)
          unfold po_X0_readLine_q at q2908
          obtain ⟨q2912, q2913, q2914, q2915, q2916⟩ := q2908
          have F2917 : Fr [(3, 1), (3, 2), (3, 5), (3, 6), (4, 0), (4, 1), (4, 2), (4, 3), (4, 4), (1, 3), (1, 4), (1, 5), (1, 7), (1, 8), (3, 4), (1, 2)] [5, 6, 7, 8, 201, 210, 209] τ t2910 := Fr_call F2876 q2913 (by decide)
          refine r_if_eq (tgt := 65) S dX0_read_53 (by decide) (fun c2918 => ?_) (fun c2918 => ?_)
          ·
            have r2919 : R (0) (0) v2911 := ⟨by omega, by omega⟩
            have p2920 := (QX_0 q2916) (by omega)
            obtain ⟨q2921, e2922, h2923, h2924⟩ := p2920
            refine r_iconst S dX0_read_65 (by decide) (fun v2925 z2926 => ?_)
            have r2927 := R_eq z2926
            exact r_ret S hr hlk X2909 ⟨q2912, F2917, (R_of r2927 rfl), (fun h => by exfalso; omega), (QX_l (by rw [← he2889, show 940 - f2878.toInt.toNat = (939 - f2878.toInt.toNat) + 1 by omega]; exact sRd_l1 (fun h => absurd ((RT_k hR2888.1).1.mpr h) (by rw [z2900]; omega)) e2922) (by omega) h2923 h2924)⟩ (nr_bool (R_of (lo := 0) (hi := 1) r2927 rfl)) dX0_read_66
          ·
            have r2928 : R (1) (1) v2911 := ⟨by omega, by omega⟩
            have p2929 := q2915 (by omega)
            obtain ⟨v2930, z2931⟩ : ∃ x, t2910 3 1 = x := ⟨_, rfl⟩
            rw [z2931] at p2929
            have p2932 := (QX_1 q2916) (by omega)
            obtain ⟨g2933, e2934, hP2935⟩ := p2932
            refine r_aload_n S dX0_read_56 rfl (lv_at hl 0 rfl) ?_
            refine r_bipush S dX0_read_57 (by decide) (fun v2936 z2937 => ?_)
            have r2938 := R_eq z2937
            refine r_ki (q_U (As := [.int v2936]) (rest := []) (K := 3) (ci := 0) S X2909 (c_X8_takeSign_q l G t2910 q2912 v2936 r2938 (by rw [z2931]; exact R_of p2929 rfl) bb nb g2933 hP2935 ) ck0_51_0 (Nat.le_of_ble_eq_true rfl) rfl (fun _ => ⟨_, rfl⟩) ⟨_, _, rfl⟩ ⟨Nat.le_of_ble_eq_true rfl, Nat.le_of_ble_eq_true rfl⟩ rfl hl.1 rfl (Nat.le_of_ble_eq_true rfl) dX0_read_59 ⟨Nat.le_refl 0, Nat.le_refl 0⟩) X2909 (fun v2942 t2941 H lc q2939 X2940 => ?_)
            unfold po_X8_takeSign_q at q2939
            obtain ⟨q2943, q2944, q2945, q2946, q2947⟩ := q2939
            have F2948 : Fr [(3, 1), (3, 2), (3, 5), (3, 6), (4, 0), (4, 1), (4, 2), (4, 3), (4, 4), (1, 3), (1, 4), (1, 5), (1, 7), (1, 8), (3, 4), (1, 2)] [5, 6, 7, 8, 201, 210, 209] τ t2941 := Fr_call F2917 q2944 (by decide)
            refine r_if_ne (tgt := 67) S dX0_read_62 (by decide) (fun c2949 => ?_) (fun c2949 => ?_)
            ·
              have r2950 : R (1) (1) v2942 := ⟨by omega, by omega⟩
              have p2951 := q2946 (by omega)
              obtain ⟨v2952, z2953⟩ : ∃ x, t2941 3 1 = x := ⟨_, rfl⟩
              rw [z2953] at p2951
              have p2954 := (QX_1 q2947) (by omega)
              obtain ⟨g2955, e2956, hP2957⟩ := p2954
              refine r_aload_n S dX0_read_67 rfl (lv_at hl 0 rfl) ?_
              refine r_dup S dX0_read_68 rfl ?_
              refine r_geti (K := 3) S X2940 (Nat.le_of_ble_eq_true rfl) rfl lk0_23_0 (fun _ => ⟨_, rfl, rfl⟩) ((q2944 3 4 (by decide)).trans ((q2913 3 4 (by decide)).trans z2880)) dX0_read_69 ?_
              refine r_iconst S dX0_read_72 (by decide) (fun v2958 z2959 => ?_)
              have r2960 := R_eq z2959
              refine r_iadd S dX0_read_73 (fun v2961 z2962 => ?_)
              obtain ⟨e2963, r2964⟩ := i_add (lo := 1) (hi := 940) z2962 r2898 r2960 rfl
              refine r_put (K := 3) (ty := .int) S X2940 (Nat.le_of_ble_eq_true rfl) rfl lk0_23_0 (fun _ => ⟨_, rfl, Nat.le_of_ble_eq_true rfl, rfl⟩) (fun _ _ _ h => by cases h; exact ⟨rfl, rfl⟩) rfl rfl dX0_read_74 (fun t2965 H lc M2966 X2967 => ?_)
              have I2968 := Inv_mu q2943 M2966 (show Rg (kd 3) 4 v2961 from (R_of (lo := 0) (hi := 940) r2964 rfl))
              have F2969 : Fr [(3, 1), (3, 2), (3, 5), (3, 6), (4, 0), (4, 1), (4, 2), (4, 3), (4, 4), (1, 3), (1, 4), (1, 5), (1, 7), (1, 8), (3, 4), (1, 2)] [5, 6, 7, 8, 201, 210, 209] τ t2965 := Fr_mu F2948 M2966 (by decide)
              refine r_goto (tgt := 29) S dX0_read_77 (by decide) ?_
              exact ih2886 t2965 _ _ _ v2961 v2952 X2967 I2968 F2969 M2966.1 ⟨by omega, by omega⟩ ((M2966.2 3 1 (Or.inr (by decide))).trans z2953) ⟨by omega, by omega⟩ ⟨g2955, (RC_fr hP2957 (fun j => ((M2966.2 1 j (Or.inl (by decide))).trans rfl)) (fun j => ((M2966.2 2 j (Or.inl (by decide))).trans rfl)) (fun j => ((M2966.2 201 j (Or.inl (by decide))).trans rfl)) ((M2966.2 3 5 (Or.inr (by decide))).trans rfl) ((M2966.2 3 6 (Or.inr (by decide))).trans rfl) (fun j => ((M2966.2 4 j (Or.inl (by decide))).trans rfl)) (fun j => ((M2966.2 6 j (Or.inl (by decide))).trans rfl)) (fun j => ((M2966.2 7 j (Or.inl (by decide))).trans rfl)) (fun j => ((M2966.2 8 j (Or.inl (by decide))).trans rfl)) (fun j => ((M2966.2 209 j (Or.inl (by decide))).trans rfl)) (fun j => ((M2966.2 210 j (Or.inl (by decide))).trans rfl))), (by rw [← he2889, show 940 - f2878.toInt.toNat = (940 - v2961.toInt.toNat) + 1 by omega, show v2961.toInt.toNat = f2878.toInt.toNat + 1 by omega]; exact (sRd_r (fun h => absurd ((RT_k hR2888.1).1.mpr h) (by rw [z2900]; omega)) e2934 e2956).symm)⟩ (lv_sub hl [0] rfl) (by omega)
            ·
              have r2970 : R (0) (0) v2942 := ⟨by omega, by omega⟩
              have p2971 := (QX_0 q2947) (by omega)
              obtain ⟨q2972, e2973, h2974, h2975⟩ := p2971
              refine r_iconst S dX0_read_65 (by decide) (fun v2976 z2977 => ?_)
              have r2978 := R_eq z2977
              exact r_ret S hr hlk X2940 ⟨q2943, F2948, (R_of r2978 rfl), (fun h => by exfalso; omega), (QX_l (by rw [← he2889, show 940 - f2878.toInt.toNat = (939 - f2878.toInt.toNat) + 1 by omega]; exact sRd_l2 (fun h => absurd ((RT_k hR2888.1).1.mpr h) (by rw [z2900]; omega)) e2934 e2973) (by omega) h2974 h2975)⟩ (nr_bool (R_of (lo := 0) (hi := 1) r2978 rfl)) dX0_read_66
  exact L2884 _ t54 _ _ _ v25 v60 X53 q55 F59 ((q56 3 4 (by decide)).trans ((M45.2 3 4 (Or.inr (by decide))).trans ((M37.2 3 4 (Or.inr (by decide))).trans M29.1))) ⟨by omega, by omega⟩ z61 ⟨by omega, by omega⟩ ⟨stp bb nb ((0, 0, 0), ps0), ⟨q58, RP_0 (by have q := congrArg Int32.toInt ((q56 3 5 (by decide)).trans ((M45.2 3 5 (Or.inr (by decide))).trans M37.1)); omega) (by have q := congrArg Int32.toInt ((q56 3 6 (by decide)).trans M45.1); omega) (by have q := congrArg Int32.toInt ((q56 4 0 (by decide)).trans ((M45.2 4 0 (Or.inl (by decide))).trans ((M37.2 4 0 (Or.inl (by decide))).trans ((M29.2 4 0 (Or.inl (by decide))).trans z16)))); omega) (by have q := congrArg Int32.toInt ((q56 4 1 (by decide)).trans ((M45.2 4 1 (Or.inl (by decide))).trans ((M37.2 4 1 (Or.inl (by decide))).trans ((M29.2 4 1 (Or.inl (by decide))).trans z18)))); omega) (by have q := congrArg Int32.toInt ((q56 4 2 (by decide)).trans ((M45.2 4 2 (Or.inl (by decide))).trans ((M37.2 4 2 (Or.inl (by decide))).trans ((M29.2 4 2 (Or.inl (by decide))).trans z20)))); omega) (by have q := congrArg Int32.toInt ((q56 4 3 (by decide)).trans ((M45.2 4 3 (Or.inl (by decide))).trans ((M37.2 4 3 (Or.inl (by decide))).trans ((M29.2 4 3 (Or.inl (by decide))).trans z22)))); omega) (by have q := congrArg Int32.toInt ((q56 4 4 (by decide)).trans ((M45.2 4 4 (Or.inl (by decide))).trans ((M37.2 4 4 (Or.inl (by decide))).trans ((M29.2 4 4 (Or.inl (by decide))).trans z24)))); omega) (fun j hj => (congrArg Int32.toInt (((q56 6 j (by simp [fz])).trans ((M45.2 6 j (Or.inl (by decide))).trans ((M37.2 6 j (Or.inl (by decide))).trans ((M29.2 6 j (Or.inl (by decide))).trans rfl)))) : t54 6 j = t3 6 j)).trans (q11 j hj)) (fun j hj => (congrArg Int32.toInt (((q56 7 j (by simp [fz])).trans ((M45.2 7 j (Or.inl (by decide))).trans ((M37.2 7 j (Or.inl (by decide))).trans ((M29.2 7 j (Or.inl (by decide))).trans rfl)))) : t54 7 j = t3 7 j)).trans (q12 j hj)) (fun j hj => (congrArg Int32.toInt (((q56 8 j (by simp [fz])).trans ((M45.2 8 j (Or.inl (by decide))).trans ((M37.2 8 j (Or.inl (by decide))).trans ((M29.2 8 j (Or.inl (by decide))).trans rfl)))) : t54 8 j = t3 8 j)).trans (q13 j hj))⟩, (by rw [show v25.toInt.toNat = 0 by omega]; rfl)⟩ (lv_sub hl [0] rfl) (Nat.lt_succ_self _)
