set_option maxHeartbeats 8000000 in
set_option maxRecDepth 100000 in
theorem ci_clear (l : Launch) (G : Gx) (ws : va_W) (a c1 c2 c3 c4 c5 c6 : Nat) : Cc l G yX2_clear cX2_clear 1 1 40 0 0 [.ref a] (ws ++ [(a, .inr (2, [.int 0, .int 0, .int 0, .int 0, .int 0, .ref c1, .ref c2, .ref c3, .ref c4, .ref c5, .ref c6])), (c1, .inl (G.2.1 0, 10, .inl fun _ => 0)), (c2, .inl (G.2.1 0, 10, .inl fun _ => 0)), (c3, .inl (G.2.1 0, 10, .inl fun _ => 0)), (c4, .inl (G.2.1 0, 90, .inl fun _ => 0)), (c5, .inl (G.2.1 1, 9, .inr (.inl fun _ => 0))), (c6, .inl (G.2.1 1, 10, .inr (.inl fun _ => 0)))]) (fun u => u = ws ++ [(a, .inr (2, [.int (4), .int (0), .int (0), .int (0), .int (0), .ref c1, .ref c2, .ref c3, .ref c4, .ref c5, .ref c6])), (c1, .inl (G.2.1 0, 10, .inl fun _ => 0)), (c2, .inl (G.2.1 0, 10, .inl (flf 10 (-1) (fun _ => 0)))), (c3, .inl (G.2.1 0, 10, .inl (flf 10 (0) (fun _ => 0)))), (c4, .inl (G.2.1 0, 90, .inl (flf 90 (0) (fun _ => 0)))), (c5, .inl (G.2.1 1, 9, .inr (.inl fun _ => 0))), (c6, .inl (G.2.1 1, 10, .inr (.inl fun _ => 0)))]) := by
  unfold Cc
  refine Cc_of (own := RX2) (by decide) rfl (Nat.le_of_ble_eq_true rfl) ?_
  intro p e s m below meth c ls S hr hlk hnm X hl
  have hx := S.1.1
  have hb := S.1.2.1
  obtain ⟨H, hH⟩ : ∃ z, z = s.heap := ⟨_, rfl⟩
  obtain ⟨lc, hlc⟩ : ∃ z : List Loc, z = [] := ⟨_, rfl⟩
  rw [← hH, ← hlc]
  rw [← hH, ← hlc] at X
  have hl : lv_has ls 1 [(0, .ref a)] := hl
  refine lv_aload_n hx hb dX2_clear_0 rfl (lv_at hl 0 rfl) ?_
  refine lv_iconst hx hb dX2_clear_1 rfl (c_i (n := 4) (by decide) (fun v1 z2 => ?_))
  refine c_put (ty := (tyX2 0)) (i := 0) S X lk2_34_2 rfl (fun _ _ _ h => by cases h; exact ⟨Or.inl rfl, tyX2_ok 0 (by decide)⟩) rfl rfl (Nat.le_of_ble_eq_true rfl) dX2_clear_2 (fun H lc X => ?_)
  rw [show v1 = (4 : Int32) from Int32.toInt_inj.mp (by rw [z2]; rfl)] at X
  have X : Xc G s H lc (ws ++ [(a, .inr (2, [.int (4), .int 0, .int 0, .int 0, .int 0, .ref c1, .ref c2, .ref c3, .ref c4, .ref c5, .ref c6])), (c1, .inl (G.2.1 0, 10, .inl fun _ => 0)), (c2, .inl (G.2.1 0, 10, .inl fun _ => 0)), (c3, .inl (G.2.1 0, 10, .inl fun _ => 0)), (c4, .inl (G.2.1 0, 90, .inl fun _ => 0)), (c5, .inl (G.2.1 1, 9, .inr (.inl fun _ => 0))), (c6, .inl (G.2.1 1, 10, .inr (.inl fun _ => 0)))]) := X
  refine lv_aload_n hx hb dX2_clear_5 rfl (lv_at hl 0 rfl) ?_
  refine lv_iconst hx hb dX2_clear_6 rfl (c_i (n := 0) (by decide) (fun v3 z4 => ?_))
  refine c_put (ty := (tyX2 1)) (i := 0) S X lk2_38_2 rfl (fun _ _ _ h => by cases h; exact ⟨Or.inl rfl, tyX2_ok 1 (by decide)⟩) rfl rfl (Nat.le_of_ble_eq_true rfl) dX2_clear_7 (fun H lc X => ?_)
  rw [show v3 = (0 : Int32) from Int32.toInt_inj.mp (by rw [z4]; rfl)] at X
  have X : Xc G s H lc (ws ++ [(a, .inr (2, [.int (4), .int (0), .int 0, .int 0, .int 0, .ref c1, .ref c2, .ref c3, .ref c4, .ref c5, .ref c6])), (c1, .inl (G.2.1 0, 10, .inl fun _ => 0)), (c2, .inl (G.2.1 0, 10, .inl fun _ => 0)), (c3, .inl (G.2.1 0, 10, .inl fun _ => 0)), (c4, .inl (G.2.1 0, 90, .inl fun _ => 0)), (c5, .inl (G.2.1 1, 9, .inr (.inl fun _ => 0))), (c6, .inl (G.2.1 1, 10, .inr (.inl fun _ => 0)))]) := X
  refine lv_aload_n hx hb dX2_clear_10 rfl (lv_at hl 0 rfl) ?_
  refine lv_iconst hx hb dX2_clear_11 rfl (c_i (n := 0) (by decide) (fun v5 z6 => ?_))
  refine c_put (ty := (tyX2 2)) (i := 0) S X lk2_41_2 rfl (fun _ _ _ h => by cases h; exact ⟨Or.inl rfl, tyX2_ok 2 (by decide)⟩) rfl rfl (Nat.le_of_ble_eq_true rfl) dX2_clear_12 (fun H lc X => ?_)
  rw [show v5 = (0 : Int32) from Int32.toInt_inj.mp (by rw [z6]; rfl)] at X
  have X : Xc G s H lc (ws ++ [(a, .inr (2, [.int (4), .int (0), .int (0), .int 0, .int 0, .ref c1, .ref c2, .ref c3, .ref c4, .ref c5, .ref c6])), (c1, .inl (G.2.1 0, 10, .inl fun _ => 0)), (c2, .inl (G.2.1 0, 10, .inl fun _ => 0)), (c3, .inl (G.2.1 0, 10, .inl fun _ => 0)), (c4, .inl (G.2.1 0, 90, .inl fun _ => 0)), (c5, .inl (G.2.1 1, 9, .inr (.inl fun _ => 0))), (c6, .inl (G.2.1 1, 10, .inr (.inl fun _ => 0)))]) := X
  refine lv_aload_n hx hb dX2_clear_15 rfl (lv_at hl 0 rfl) ?_
  refine lv_iconst hx hb dX2_clear_16 rfl (c_i (n := 0) (by decide) (fun v7 z8 => ?_))
  refine c_put (ty := (tyX2 3)) (i := 0) S X lk2_44_2 rfl (fun _ _ _ h => by cases h; exact ⟨Or.inl rfl, tyX2_ok 3 (by decide)⟩) rfl rfl (Nat.le_of_ble_eq_true rfl) dX2_clear_17 (fun H lc X => ?_)
  rw [show v7 = (0 : Int32) from Int32.toInt_inj.mp (by rw [z8]; rfl)] at X
  have X : Xc G s H lc (ws ++ [(a, .inr (2, [.int (4), .int (0), .int (0), .int (0), .int 0, .ref c1, .ref c2, .ref c3, .ref c4, .ref c5, .ref c6])), (c1, .inl (G.2.1 0, 10, .inl fun _ => 0)), (c2, .inl (G.2.1 0, 10, .inl fun _ => 0)), (c3, .inl (G.2.1 0, 10, .inl fun _ => 0)), (c4, .inl (G.2.1 0, 90, .inl fun _ => 0)), (c5, .inl (G.2.1 1, 9, .inr (.inl fun _ => 0))), (c6, .inl (G.2.1 1, 10, .inr (.inl fun _ => 0)))]) := X
  refine lv_aload_n hx hb dX2_clear_20 rfl (lv_at hl 0 rfl) ?_
  refine lv_iconst hx hb dX2_clear_21 rfl (c_i (n := 0) (by decide) (fun v9 z10 => ?_))
  refine c_put (ty := (tyX2 4)) (i := 0) S X lk2_47_2 rfl (fun _ _ _ h => by cases h; exact ⟨Or.inl rfl, tyX2_ok 4 (by decide)⟩) rfl rfl (Nat.le_of_ble_eq_true rfl) dX2_clear_22 (fun H lc X => ?_)
  rw [show v9 = (0 : Int32) from Int32.toInt_inj.mp (by rw [z10]; rfl)] at X
  have X : Xc G s H lc (ws ++ [(a, .inr (2, [.int (4), .int (0), .int (0), .int (0), .int (0), .ref c1, .ref c2, .ref c3, .ref c4, .ref c5, .ref c6])), (c1, .inl (G.2.1 0, 10, .inl fun _ => 0)), (c2, .inl (G.2.1 0, 10, .inl fun _ => 0)), (c3, .inl (G.2.1 0, 10, .inl fun _ => 0)), (c4, .inl (G.2.1 0, 90, .inl fun _ => 0)), (c5, .inl (G.2.1 1, 9, .inr (.inl fun _ => 0))), (c6, .inl (G.2.1 1, 10, .inr (.inl fun _ => 0)))]) := X
  refine lv_aload_n hx hb dX2_clear_25 rfl (lv_at hl 0 rfl) ?_
  refine c_get (i := 0) S X lk2_15_2 rfl rfl dX2_clear_26 ?_
  refine lv_iconst hx hb dX2_clear_29 rfl (c_i (n := -1) (by decide) (fun v11 z12 => ?_))
  refine c_kv (c_runS (As := [.ref c2, .int v11]) (rest := []) S X (cf_fill l G ws [(a, .inr (2, [.int (4), .int (0), .int (0), .int (0), .int (0), .ref c1, .ref c2, .ref c3, .ref c4, .ref c5, .ref c6])), (c1, .inl (G.2.1 0, 10, .inl fun _ => 0)), (c2, .inl (G.2.1 0, 10, .inl fun _ => 0)), (c3, .inl (G.2.1 0, 10, .inl fun _ => 0)), (c4, .inl (G.2.1 0, 90, .inl fun _ => 0)), (c5, .inl (G.2.1 1, 9, .inr (.inl fun _ => 0))), (c6, .inl (G.2.1 1, 10, .inr (.inl fun _ => 0)))] 2 c2 10 (fun _ => 0) v11 (by decide) rfl) ck2_50 ⟨Nat.le_of_ble_eq_true rfl, Nat.le_of_ble_eq_true rfl⟩ rfl hl.1 rfl (Nat.le_of_ble_eq_true rfl) dX2_clear_30 ⟨Nat.le_of_ble_eq_true rfl, Nat.le_of_ble_eq_true rfl⟩) X (fun u13 H lc h14 X => ?_)
  subst h14
  rw [show v11 = (-1 : Int32) from Int32.toInt_inj.mp (by rw [z12]; rfl)] at X
  have X : Xc G s H lc (ws ++ [(a, .inr (2, [.int (4), .int (0), .int (0), .int (0), .int (0), .ref c1, .ref c2, .ref c3, .ref c4, .ref c5, .ref c6])), (c1, .inl (G.2.1 0, 10, .inl fun _ => 0)), (c2, .inl (G.2.1 0, 10, .inl (flf 10 (-1) (fun _ => 0)))), (c3, .inl (G.2.1 0, 10, .inl fun _ => 0)), (c4, .inl (G.2.1 0, 90, .inl fun _ => 0)), (c5, .inl (G.2.1 1, 9, .inr (.inl fun _ => 0))), (c6, .inl (G.2.1 1, 10, .inr (.inl fun _ => 0)))]) := X
  refine lv_aload_n hx hb dX2_clear_33 rfl (lv_at hl 0 rfl) ?_
  refine c_get (i := 0) S X lk2_18_2 rfl rfl dX2_clear_34 ?_
  refine lv_iconst hx hb dX2_clear_37 rfl (c_i (n := 0) (by decide) (fun v15 z16 => ?_))
  refine c_kv (c_runS (As := [.ref c3, .int v15]) (rest := []) S X (cf_fill l G ws [(a, .inr (2, [.int (4), .int (0), .int (0), .int (0), .int (0), .ref c1, .ref c2, .ref c3, .ref c4, .ref c5, .ref c6])), (c1, .inl (G.2.1 0, 10, .inl fun _ => 0)), (c2, .inl (G.2.1 0, 10, .inl (flf 10 (-1) (fun _ => 0)))), (c3, .inl (G.2.1 0, 10, .inl fun _ => 0)), (c4, .inl (G.2.1 0, 90, .inl fun _ => 0)), (c5, .inl (G.2.1 1, 9, .inr (.inl fun _ => 0))), (c6, .inl (G.2.1 1, 10, .inr (.inl fun _ => 0)))] 3 c3 10 (fun _ => 0) v15 (by decide) rfl) ck2_50 ⟨Nat.le_of_ble_eq_true rfl, Nat.le_of_ble_eq_true rfl⟩ rfl hl.1 rfl (Nat.le_of_ble_eq_true rfl) dX2_clear_38 ⟨Nat.le_of_ble_eq_true rfl, Nat.le_of_ble_eq_true rfl⟩) X (fun u17 H lc h18 X => ?_)
  subst h18
  rw [show v15 = (0 : Int32) from Int32.toInt_inj.mp (by rw [z16]; rfl)] at X
  have X : Xc G s H lc (ws ++ [(a, .inr (2, [.int (4), .int (0), .int (0), .int (0), .int (0), .ref c1, .ref c2, .ref c3, .ref c4, .ref c5, .ref c6])), (c1, .inl (G.2.1 0, 10, .inl fun _ => 0)), (c2, .inl (G.2.1 0, 10, .inl (flf 10 (-1) (fun _ => 0)))), (c3, .inl (G.2.1 0, 10, .inl (flf 10 (0) (fun _ => 0)))), (c4, .inl (G.2.1 0, 90, .inl fun _ => 0)), (c5, .inl (G.2.1 1, 9, .inr (.inl fun _ => 0))), (c6, .inl (G.2.1 1, 10, .inr (.inl fun _ => 0)))]) := X
  refine lv_aload_n hx hb dX2_clear_41 rfl (lv_at hl 0 rfl) ?_
  refine c_get (i := 0) S X lk2_21_2 rfl rfl dX2_clear_42 ?_
  refine lv_iconst hx hb dX2_clear_45 rfl (c_i (n := 0) (by decide) (fun v19 z20 => ?_))
  refine c_kv (c_runS (As := [.ref c4, .int v19]) (rest := []) S X (cf_fill l G ws [(a, .inr (2, [.int (4), .int (0), .int (0), .int (0), .int (0), .ref c1, .ref c2, .ref c3, .ref c4, .ref c5, .ref c6])), (c1, .inl (G.2.1 0, 10, .inl fun _ => 0)), (c2, .inl (G.2.1 0, 10, .inl (flf 10 (-1) (fun _ => 0)))), (c3, .inl (G.2.1 0, 10, .inl (flf 10 (0) (fun _ => 0)))), (c4, .inl (G.2.1 0, 90, .inl fun _ => 0)), (c5, .inl (G.2.1 1, 9, .inr (.inl fun _ => 0))), (c6, .inl (G.2.1 1, 10, .inr (.inl fun _ => 0)))] 4 c4 90 (fun _ => 0) v19 (by decide) rfl) ck2_50 ⟨Nat.le_of_ble_eq_true rfl, Nat.le_of_ble_eq_true rfl⟩ rfl hl.1 rfl (Nat.le_of_ble_eq_true rfl) dX2_clear_46 ⟨Nat.le_of_ble_eq_true rfl, Nat.le_of_ble_eq_true rfl⟩) X (fun u21 H lc h22 X => ?_)
  subst h22
  rw [show v19 = (0 : Int32) from Int32.toInt_inj.mp (by rw [z20]; rfl)] at X
  have X : Xc G s H lc (ws ++ [(a, .inr (2, [.int (4), .int (0), .int (0), .int (0), .int (0), .ref c1, .ref c2, .ref c3, .ref c4, .ref c5, .ref c6])), (c1, .inl (G.2.1 0, 10, .inl fun _ => 0)), (c2, .inl (G.2.1 0, 10, .inl (flf 10 (-1) (fun _ => 0)))), (c3, .inl (G.2.1 0, 10, .inl (flf 10 (0) (fun _ => 0)))), (c4, .inl (G.2.1 0, 90, .inl (flf 90 (0) (fun _ => 0)))), (c5, .inl (G.2.1 1, 9, .inr (.inl fun _ => 0))), (c6, .inl (G.2.1 1, 10, .inr (.inl fun _ => 0)))]) := X
  exact c_vret S hr hlk X rfl dX2_clear_49
set_option maxHeartbeats 8000000 in
set_option maxRecDepth 100000 in
theorem ci_X8_0 (l : Launch) (G : Gx) (ws : va_W) (a b0 : Nat) : Cc l G yX8_init cX8_init 2 1 40 0 0 [.ref a, .ref b0] (ws ++ [(a, .inr (0, [.null, .int 0, .int 0, .null, .int 0, .int 0, .int 0]))]) (fun u => u = ws ++ [(a, .inr (0, [.ref b0, .int 0, .int 0, .null, .int 0, .int 0, .int 0]))]) := by
  unfold Cc
  refine Cc_of (own := RX8) (by decide) rfl (Nat.le_of_ble_eq_true rfl) ?_
  intro p e s m below meth c ls S hr hlk hnm X hl
  have hx := S.1.1
  have hb := S.1.2.1
  obtain ⟨H, hH⟩ : ∃ z, z = s.heap := ⟨_, rfl⟩
  obtain ⟨lc, hlc⟩ : ∃ z : List Loc, z = [] := ⟨_, rfl⟩
  rw [← hH, ← hlc]
  rw [← hH, ← hlc] at X
  have hl : lv_has ls 2 [(0, .ref a), (1, .ref b0)] := hl
  refine lv_aload_n hx hb dX8_init_0 rfl (lv_at hl 0 rfl) ?_
  refine c_obj S kc0 kc1 kc_ob hl.1 ⟨Nat.le_of_ble_eq_true rfl, Nat.le_of_ble_eq_true rfl⟩ dX8_init_1 ?_
  refine lv_aload_n hx hb dX8_init_4 rfl (lv_at hl 0 rfl) ?_
  refine lv_aload_n hx hb dX8_init_5 rfl (lv_at hl 1 rfl) ?_
  refine c_put (ty := (tyX0 0)) (i := 0) S X lk8_9_0 rfl (fun _ _ _ h => by cases h; exact ⟨Or.inr ⟨rfl, rfl, hnm⟩, tyX0_ok 0 (by decide)⟩) rfl rfl (Nat.le_of_ble_eq_true rfl) dX8_init_6 (fun H lc X => ?_)
  have X : Xc G s H lc (ws ++ [(a, .inr (0, [.ref b0, .int 0, .int 0, .null, .int 0, .int 0, .int 0]))]) := X
  exact c_vret S hr hlk X rfl dX8_init_9
set_option maxHeartbeats 8000000 in
set_option maxRecDepth 100000 in
theorem ci_X8_1 (l : Launch) (G : Gx) (ws : va_W) (a b0 : Nat) : Cc l G yX8_init cX8_init 2 1 40 0 0 [.ref a, .ref b0] (ws ++ [(a, .inr (1, [.null, .int 0, .int 0, .int 0, .null, .null, .null, .null]))]) (fun u => u = ws ++ [(a, .inr (1, [.ref b0, .int 0, .int 0, .int 0, .null, .null, .null, .null]))]) := by
  unfold Cc
  refine Cc_of (own := RX8) (by decide) rfl (Nat.le_of_ble_eq_true rfl) ?_
  intro p e s m below meth c ls S hr hlk hnm X hl
  have hx := S.1.1
  have hb := S.1.2.1
  obtain ⟨H, hH⟩ : ∃ z, z = s.heap := ⟨_, rfl⟩
  obtain ⟨lc, hlc⟩ : ∃ z : List Loc, z = [] := ⟨_, rfl⟩
  rw [← hH, ← hlc]
  rw [← hH, ← hlc] at X
  have hl : lv_has ls 2 [(0, .ref a), (1, .ref b0)] := hl
  refine lv_aload_n hx hb dX8_init_0 rfl (lv_at hl 0 rfl) ?_
  refine c_obj S kc0 kc1 kc_ob hl.1 ⟨Nat.le_of_ble_eq_true rfl, Nat.le_of_ble_eq_true rfl⟩ dX8_init_1 ?_
  refine lv_aload_n hx hb dX8_init_4 rfl (lv_at hl 0 rfl) ?_
  refine lv_aload_n hx hb dX8_init_5 rfl (lv_at hl 1 rfl) ?_
  refine c_put (ty := (tyX1 0)) (i := 0) S X lk8_9_1 rfl (fun _ _ _ h => by cases h; exact ⟨Or.inr ⟨rfl, rfl, hnm⟩, tyX1_ok 0 (by decide)⟩) rfl rfl (Nat.le_of_ble_eq_true rfl) dX8_init_6 (fun H lc X => ?_)
  have X : Xc G s H lc (ws ++ [(a, .inr (1, [.ref b0, .int 0, .int 0, .int 0, .null, .null, .null, .null]))]) := X
  exact c_vret S hr hlk X rfl dX8_init_9
set_option maxHeartbeats 8000000 in
set_option maxRecDepth 100000 in
theorem ci_X8_6 (l : Launch) (G : Gx) (ws : va_W) (a b0 : Nat) : Cc l G yX8_init cX8_init 2 1 40 0 0 [.ref a, .ref b0] (ws ++ [(a, .inr (6, [.null, .int 0, .int 0, .null, .int 0, .null]))]) (fun u => u = ws ++ [(a, .inr (6, [.ref b0, .int 0, .int 0, .null, .int 0, .null]))]) := by
  unfold Cc
  refine Cc_of (own := RX8) (by decide) rfl (Nat.le_of_ble_eq_true rfl) ?_
  intro p e s m below meth c ls S hr hlk hnm X hl
  have hx := S.1.1
  have hb := S.1.2.1
  obtain ⟨H, hH⟩ : ∃ z, z = s.heap := ⟨_, rfl⟩
  obtain ⟨lc, hlc⟩ : ∃ z : List Loc, z = [] := ⟨_, rfl⟩
  rw [← hH, ← hlc]
  rw [← hH, ← hlc] at X
  have hl : lv_has ls 2 [(0, .ref a), (1, .ref b0)] := hl
  refine lv_aload_n hx hb dX8_init_0 rfl (lv_at hl 0 rfl) ?_
  refine c_obj S kc0 kc1 kc_ob hl.1 ⟨Nat.le_of_ble_eq_true rfl, Nat.le_of_ble_eq_true rfl⟩ dX8_init_1 ?_
  refine lv_aload_n hx hb dX8_init_4 rfl (lv_at hl 0 rfl) ?_
  refine lv_aload_n hx hb dX8_init_5 rfl (lv_at hl 1 rfl) ?_
  refine c_put (ty := (tyX6 0)) (i := 0) S X lk8_9_6 rfl (fun _ _ _ h => by cases h; exact ⟨Or.inr ⟨rfl, rfl, hnm⟩, tyX6_ok 0 (by decide)⟩) rfl rfl (Nat.le_of_ble_eq_true rfl) dX8_init_6 (fun H lc X => ?_)
  have X : Xc G s H lc (ws ++ [(a, .inr (6, [.ref b0, .int 0, .int 0, .null, .int 0, .null]))]) := X
  exact c_vret S hr hlk X rfl dX8_init_9
set_option maxHeartbeats 8000000 in
set_option maxRecDepth 100000 in
theorem ci_X7 (l : Launch) (G : Gx) (ws : va_W) (a : Nat) : Cc l G yX7_init cX7_init 1 1 40 1 940 [.ref a] (ws ++ [(a, .inr (7, [.null, .int 0, .int 0, .int 0, .int 0, .int 0, .long 0, .int 0, .int 0]))]) (fun u => ∃ (q3 : Nat), u = ws ++ [(a, .inr (7, [.ref q3, .int 0, .int 0, .int 0, .int 0, .int 0, .long 0, .int 0, .int 0])), (q3, .inl (G.2.1 0, 940, .inl fun _ => 0))]) := by
  unfold Cc
  refine Cc_of (own := RX7) (by decide) rfl (Nat.le_of_ble_eq_true rfl) ?_
  intro p e s m below meth c ls S hr hlk hnm X hl
  have hx := S.1.1
  have hb := S.1.2.1
  obtain ⟨H, hH⟩ : ∃ z, z = s.heap := ⟨_, rfl⟩
  obtain ⟨lc, hlc⟩ : ∃ z : List Loc, z = [] := ⟨_, rfl⟩
  rw [← hH, ← hlc]
  rw [← hH, ← hlc] at X
  have hl : lv_has ls 1 [(0, .ref a)] := hl
  refine lv_aload_n hx hb dX7_init_0 rfl (lv_at hl 0 rfl) ?_
  refine c_obj S kc2 kc1 kc_ob hl.1 ⟨Nat.le_of_ble_eq_true rfl, Nat.le_of_ble_eq_true rfl⟩ dX7_init_1 ?_
  refine lv_aload_n hx hb dX7_init_4 rfl (lv_at hl 0 rfl) ?_
  refine lv_sipush hx hb dX7_init_5 rfl (c_i (n := 940) (by decide) (fun v1 z2 => ?_))
  refine c_newa (atype := .int) (ty := .int) (t0 := 0) (N := 940) (a0 := (940, .inl fun _ => 0)) S X kc3 rfl rfl (fun _ => rfl) (by omega) (by decide) ⟨Nat.le_of_ble_eq_true rfl, Nat.le_of_ble_eq_true rfl⟩ dX7_init_8 (fun q3 H X => ?_)
  have X : Xc G s H lc (ws ++ [(a, .inr (7, [.null, .int 0, .int 0, .int 0, .int 0, .int 0, .long 0, .int 0, .int 0])), (q3, .inl (G.2.1 0, 940, .inl fun _ => 0))]) := X
  refine c_put (ty := (tyX7 0)) (i := 0) S X lk7_9_7 rfl (fun _ _ _ h => by cases h; exact ⟨Or.inr ⟨rfl, rfl, hnm⟩, tyX7_ok 0 (by decide)⟩) rfl rfl (Nat.le_of_ble_eq_true rfl) dX7_init_10 (fun H lc X => ?_)
  have X : Xc G s H lc (ws ++ [(a, .inr (7, [.ref q3, .int 0, .int 0, .int 0, .int 0, .int 0, .long 0, .int 0, .int 0])), (q3, .inl (G.2.1 0, 940, .inl fun _ => 0))]) := X
  exact c_vret S hr hlk X ⟨q3, rfl⟩ dX7_init_13
set_option maxHeartbeats 8000000 in
set_option maxRecDepth 100000 in
theorem ci_X2 (l : Launch) (G : Gx) (ws : va_W) (a : Nat) : Cc l G yX2_init cX2_init 1 2 60 6 139 [.ref a] (ws ++ [(a, .inr (2, [.int 0, .int 0, .int 0, .int 0, .int 0, .null, .null, .null, .null, .null, .null]))]) (fun u => ∃ (q3 q6 q9 q12 q15 q18 : Nat), u = ws ++ [(a, .inr (2, [.int (4), .int (0), .int (0), .int (0), .int (0), .ref q3, .ref q6, .ref q9, .ref q12, .ref q15, .ref q18])), (q3, .inl (G.2.1 0, 10, .inl fun _ => 0)), (q6, .inl (G.2.1 0, 10, .inl (flf 10 (-1) (fun _ => 0)))), (q9, .inl (G.2.1 0, 10, .inl (flf 10 (0) (fun _ => 0)))), (q12, .inl (G.2.1 0, 90, .inl (flf 90 (0) (fun _ => 0)))), (q15, .inl (G.2.1 1, 9, .inr (.inl fun _ => 0))), (q18, .inl (G.2.1 1, 10, .inr (.inl fun _ => 0)))]) := by
  unfold Cc
  refine Cc_of (own := RX2) (by decide) rfl (Nat.le_of_ble_eq_true rfl) ?_
  intro p e s m below meth c ls S hr hlk hnm X hl
  have hx := S.1.1
  have hb := S.1.2.1
  obtain ⟨H, hH⟩ : ∃ z, z = s.heap := ⟨_, rfl⟩
  obtain ⟨lc, hlc⟩ : ∃ z : List Loc, z = [] := ⟨_, rfl⟩
  rw [← hH, ← hlc]
  rw [← hH, ← hlc] at X
  have hl : lv_has ls 1 [(0, .ref a)] := hl
  refine lv_aload_n hx hb dX2_init_0 rfl (lv_at hl 0 rfl) ?_
  refine c_obj S kc4 kc1 kc_ob hl.1 ⟨Nat.le_of_ble_eq_true rfl, Nat.le_of_ble_eq_true rfl⟩ dX2_init_1 ?_
  refine lv_aload_n hx hb dX2_init_4 rfl (lv_at hl 0 rfl) ?_
  refine lv_bipush hx hb dX2_init_5 rfl (c_i (n := 10) (by decide) (fun v1 z2 => ?_))
  refine c_newa (atype := .int) (ty := .int) (t0 := 0) (N := 10) (a0 := (10, .inl fun _ => 0)) S X kc3 rfl rfl (fun _ => rfl) (by omega) (by decide) ⟨Nat.le_of_ble_eq_true rfl, Nat.le_of_ble_eq_true rfl⟩ dX2_init_7 (fun q3 H X => ?_)
  have X : Xc G s H lc (ws ++ [(a, .inr (2, [.int 0, .int 0, .int 0, .int 0, .int 0, .null, .null, .null, .null, .null, .null])), (q3, .inl (G.2.1 0, 10, .inl fun _ => 0))]) := X
  refine c_put (ty := (tyX2 5)) (i := 0) S X lk2_9_2 rfl (fun _ _ _ h => by cases h; exact ⟨Or.inr ⟨rfl, rfl, hnm⟩, tyX2_ok 5 (by decide)⟩) rfl rfl (Nat.le_of_ble_eq_true rfl) dX2_init_9 (fun H lc X => ?_)
  have X : Xc G s H lc (ws ++ [(a, .inr (2, [.int 0, .int 0, .int 0, .int 0, .int 0, .ref q3, .null, .null, .null, .null, .null])), (q3, .inl (G.2.1 0, 10, .inl fun _ => 0))]) := X
  refine lv_aload_n hx hb dX2_init_12 rfl (lv_at hl 0 rfl) ?_
  refine lv_bipush hx hb dX2_init_13 rfl (c_i (n := 10) (by decide) (fun v4 z5 => ?_))
  refine c_newa (atype := .int) (ty := .int) (t0 := 0) (N := 10) (a0 := (10, .inl fun _ => 0)) S X kc3 rfl rfl (fun _ => rfl) (by omega) (by decide) ⟨Nat.le_of_ble_eq_true rfl, Nat.le_of_ble_eq_true rfl⟩ dX2_init_15 (fun q6 H X => ?_)
  have X : Xc G s H lc (ws ++ [(a, .inr (2, [.int 0, .int 0, .int 0, .int 0, .int 0, .ref q3, .null, .null, .null, .null, .null])), (q3, .inl (G.2.1 0, 10, .inl fun _ => 0)), (q6, .inl (G.2.1 0, 10, .inl fun _ => 0))]) := X
  refine c_put (ty := (tyX2 6)) (i := 0) S X lk2_15_2 rfl (fun _ _ _ h => by cases h; exact ⟨Or.inr ⟨rfl, rfl, hnm⟩, tyX2_ok 6 (by decide)⟩) rfl rfl (Nat.le_of_ble_eq_true rfl) dX2_init_17 (fun H lc X => ?_)
  have X : Xc G s H lc (ws ++ [(a, .inr (2, [.int 0, .int 0, .int 0, .int 0, .int 0, .ref q3, .ref q6, .null, .null, .null, .null])), (q3, .inl (G.2.1 0, 10, .inl fun _ => 0)), (q6, .inl (G.2.1 0, 10, .inl fun _ => 0))]) := X
  refine lv_aload_n hx hb dX2_init_20 rfl (lv_at hl 0 rfl) ?_
  refine lv_bipush hx hb dX2_init_21 rfl (c_i (n := 10) (by decide) (fun v7 z8 => ?_))
  refine c_newa (atype := .int) (ty := .int) (t0 := 0) (N := 10) (a0 := (10, .inl fun _ => 0)) S X kc3 rfl rfl (fun _ => rfl) (by omega) (by decide) ⟨Nat.le_of_ble_eq_true rfl, Nat.le_of_ble_eq_true rfl⟩ dX2_init_23 (fun q9 H X => ?_)
  have X : Xc G s H lc (ws ++ [(a, .inr (2, [.int 0, .int 0, .int 0, .int 0, .int 0, .ref q3, .ref q6, .null, .null, .null, .null])), (q3, .inl (G.2.1 0, 10, .inl fun _ => 0)), (q6, .inl (G.2.1 0, 10, .inl fun _ => 0)), (q9, .inl (G.2.1 0, 10, .inl fun _ => 0))]) := X
  refine c_put (ty := (tyX2 7)) (i := 0) S X lk2_18_2 rfl (fun _ _ _ h => by cases h; exact ⟨Or.inr ⟨rfl, rfl, hnm⟩, tyX2_ok 7 (by decide)⟩) rfl rfl (Nat.le_of_ble_eq_true rfl) dX2_init_25 (fun H lc X => ?_)
  have X : Xc G s H lc (ws ++ [(a, .inr (2, [.int 0, .int 0, .int 0, .int 0, .int 0, .ref q3, .ref q6, .ref q9, .null, .null, .null])), (q3, .inl (G.2.1 0, 10, .inl fun _ => 0)), (q6, .inl (G.2.1 0, 10, .inl fun _ => 0)), (q9, .inl (G.2.1 0, 10, .inl fun _ => 0))]) := X
  refine lv_aload_n hx hb dX2_init_28 rfl (lv_at hl 0 rfl) ?_
  refine lv_bipush hx hb dX2_init_29 rfl (c_i (n := 90) (by decide) (fun v10 z11 => ?_))
  refine c_newa (atype := .int) (ty := .int) (t0 := 0) (N := 90) (a0 := (90, .inl fun _ => 0)) S X kc3 rfl rfl (fun _ => rfl) (by omega) (by decide) ⟨Nat.le_of_ble_eq_true rfl, Nat.le_of_ble_eq_true rfl⟩ dX2_init_31 (fun q12 H X => ?_)
  have X : Xc G s H lc (ws ++ [(a, .inr (2, [.int 0, .int 0, .int 0, .int 0, .int 0, .ref q3, .ref q6, .ref q9, .null, .null, .null])), (q3, .inl (G.2.1 0, 10, .inl fun _ => 0)), (q6, .inl (G.2.1 0, 10, .inl fun _ => 0)), (q9, .inl (G.2.1 0, 10, .inl fun _ => 0)), (q12, .inl (G.2.1 0, 90, .inl fun _ => 0))]) := X
  refine c_put (ty := (tyX2 8)) (i := 0) S X lk2_21_2 rfl (fun _ _ _ h => by cases h; exact ⟨Or.inr ⟨rfl, rfl, hnm⟩, tyX2_ok 8 (by decide)⟩) rfl rfl (Nat.le_of_ble_eq_true rfl) dX2_init_33 (fun H lc X => ?_)
  have X : Xc G s H lc (ws ++ [(a, .inr (2, [.int 0, .int 0, .int 0, .int 0, .int 0, .ref q3, .ref q6, .ref q9, .ref q12, .null, .null])), (q3, .inl (G.2.1 0, 10, .inl fun _ => 0)), (q6, .inl (G.2.1 0, 10, .inl fun _ => 0)), (q9, .inl (G.2.1 0, 10, .inl fun _ => 0)), (q12, .inl (G.2.1 0, 90, .inl fun _ => 0))]) := X
  refine lv_aload_n hx hb dX2_init_36 rfl (lv_at hl 0 rfl) ?_
  refine lv_bipush hx hb dX2_init_37 rfl (c_i (n := 9) (by decide) (fun v13 z14 => ?_))
  refine c_newa (atype := .long) (ty := .long) (t0 := 1) (N := 9) (a0 := (9, .inr (.inl fun _ => 0))) S X kc5 rfl rfl (fun _ => rfl) (by omega) (by decide) ⟨Nat.le_of_ble_eq_true rfl, Nat.le_of_ble_eq_true rfl⟩ dX2_init_39 (fun q15 H X => ?_)
  have X : Xc G s H lc (ws ++ [(a, .inr (2, [.int 0, .int 0, .int 0, .int 0, .int 0, .ref q3, .ref q6, .ref q9, .ref q12, .null, .null])), (q3, .inl (G.2.1 0, 10, .inl fun _ => 0)), (q6, .inl (G.2.1 0, 10, .inl fun _ => 0)), (q9, .inl (G.2.1 0, 10, .inl fun _ => 0)), (q12, .inl (G.2.1 0, 90, .inl fun _ => 0)), (q15, .inl (G.2.1 1, 9, .inr (.inl fun _ => 0)))]) := X
  refine c_put (ty := (tyX2 9)) (i := 0) S X lk2_24_2 rfl (fun _ _ _ h => by cases h; exact ⟨Or.inr ⟨rfl, rfl, hnm⟩, tyX2_ok 9 (by decide)⟩) rfl rfl (Nat.le_of_ble_eq_true rfl) dX2_init_41 (fun H lc X => ?_)
  have X : Xc G s H lc (ws ++ [(a, .inr (2, [.int 0, .int 0, .int 0, .int 0, .int 0, .ref q3, .ref q6, .ref q9, .ref q12, .ref q15, .null])), (q3, .inl (G.2.1 0, 10, .inl fun _ => 0)), (q6, .inl (G.2.1 0, 10, .inl fun _ => 0)), (q9, .inl (G.2.1 0, 10, .inl fun _ => 0)), (q12, .inl (G.2.1 0, 90, .inl fun _ => 0)), (q15, .inl (G.2.1 1, 9, .inr (.inl fun _ => 0)))]) := X
  refine lv_aload_n hx hb dX2_init_44 rfl (lv_at hl 0 rfl) ?_
  refine lv_bipush hx hb dX2_init_45 rfl (c_i (n := 10) (by decide) (fun v16 z17 => ?_))
  refine c_newa (atype := .long) (ty := .long) (t0 := 1) (N := 10) (a0 := (10, .inr (.inl fun _ => 0))) S X kc5 rfl rfl (fun _ => rfl) (by omega) (by decide) ⟨Nat.le_of_ble_eq_true rfl, Nat.le_of_ble_eq_true rfl⟩ dX2_init_47 (fun q18 H X => ?_)
  have X : Xc G s H lc (ws ++ [(a, .inr (2, [.int 0, .int 0, .int 0, .int 0, .int 0, .ref q3, .ref q6, .ref q9, .ref q12, .ref q15, .null])), (q3, .inl (G.2.1 0, 10, .inl fun _ => 0)), (q6, .inl (G.2.1 0, 10, .inl fun _ => 0)), (q9, .inl (G.2.1 0, 10, .inl fun _ => 0)), (q12, .inl (G.2.1 0, 90, .inl fun _ => 0)), (q15, .inl (G.2.1 1, 9, .inr (.inl fun _ => 0))), (q18, .inl (G.2.1 1, 10, .inr (.inl fun _ => 0)))]) := X
  refine c_put (ty := (tyX2 10)) (i := 0) S X lk2_28_2 rfl (fun _ _ _ h => by cases h; exact ⟨Or.inr ⟨rfl, rfl, hnm⟩, tyX2_ok 10 (by decide)⟩) rfl rfl (Nat.le_of_ble_eq_true rfl) dX2_init_49 (fun H lc X => ?_)
  have X : Xc G s H lc (ws ++ [(a, .inr (2, [.int 0, .int 0, .int 0, .int 0, .int 0, .ref q3, .ref q6, .ref q9, .ref q12, .ref q15, .ref q18])), (q3, .inl (G.2.1 0, 10, .inl fun _ => 0)), (q6, .inl (G.2.1 0, 10, .inl fun _ => 0)), (q9, .inl (G.2.1 0, 10, .inl fun _ => 0)), (q12, .inl (G.2.1 0, 90, .inl fun _ => 0)), (q15, .inl (G.2.1 1, 9, .inr (.inl fun _ => 0))), (q18, .inl (G.2.1 1, 10, .inr (.inl fun _ => 0)))]) := X
  refine lv_aload_n hx hb dX2_init_52 rfl (lv_at hl 0 rfl) ?_
  refine c_kv (c_runV (k := 0) (As := []) (rest := []) S X (ci_clear l G ws a q3 q6 q9 q12 q15 q18) ck2_31 rfl rfl ⟨Nat.le_of_ble_eq_true rfl, Nat.le_of_ble_eq_true rfl⟩ rfl hl.1 rfl (Nat.le_of_ble_eq_true rfl) dX2_init_53 ⟨Nat.le_of_ble_eq_true rfl, Nat.le_of_ble_eq_true rfl⟩) X (fun u19 H lc h20 X => ?_)
  subst h20
  have X : Xc G s H lc (ws ++ [(a, .inr (2, [.int (4), .int (0), .int (0), .int (0), .int (0), .ref q3, .ref q6, .ref q9, .ref q12, .ref q15, .ref q18])), (q3, .inl (G.2.1 0, 10, .inl fun _ => 0)), (q6, .inl (G.2.1 0, 10, .inl (flf 10 (-1) (fun _ => 0)))), (q9, .inl (G.2.1 0, 10, .inl (flf 10 (0) (fun _ => 0)))), (q12, .inl (G.2.1 0, 90, .inl (flf 90 (0) (fun _ => 0)))), (q15, .inl (G.2.1 1, 9, .inr (.inl fun _ => 0))), (q18, .inl (G.2.1 1, 10, .inr (.inl fun _ => 0)))]) := X
  exact c_vret S hr hlk X ⟨q3, q6, q9, q12, q15, q18, rfl⟩ dX2_init_56
set_option maxHeartbeats 8000000 in
set_option maxRecDepth 100000 in
theorem ci_X3 (l : Launch) (G : Gx) (ws : va_W) (a : Nat) : Cc l G yX3_init cX3_init 1 1 40 4 200 [.ref a] (ws ++ [(a, .inr (3, [.null, .null, .null, .null, .int 0, .int 0, .int 0, .int 0, .int 0, .int 0, .int 0]))]) (fun u => ∃ (q3 q6 q9 q12 : Nat), u = ws ++ [(a, .inr (3, [.ref q3, .ref q6, .ref q9, .ref q12, .int 0, .int 0, .int 0, .int 0, .int (-1), .int 0, .int 0])), (q3, .inl (G.2.1 0, 90, .inl fun _ => 0)), (q6, .inl (G.2.1 0, 90, .inl fun _ => 0)), (q9, .inl (G.2.1 0, 10, .inl fun _ => 0)), (q12, .inl (G.2.1 0, 10, .inl fun _ => 0))]) := by
  unfold Cc
  refine Cc_of (own := RX3) (by decide) rfl (Nat.le_of_ble_eq_true rfl) ?_
  intro p e s m below meth c ls S hr hlk hnm X hl
  have hx := S.1.1
  have hb := S.1.2.1
  obtain ⟨H, hH⟩ : ∃ z, z = s.heap := ⟨_, rfl⟩
  obtain ⟨lc, hlc⟩ : ∃ z : List Loc, z = [] := ⟨_, rfl⟩
  rw [← hH, ← hlc]
  rw [← hH, ← hlc] at X
  have hl : lv_has ls 1 [(0, .ref a)] := hl
  refine lv_aload_n hx hb dX3_init_0 rfl (lv_at hl 0 rfl) ?_
  refine c_obj S kc6 kc1 kc_ob hl.1 ⟨Nat.le_of_ble_eq_true rfl, Nat.le_of_ble_eq_true rfl⟩ dX3_init_1 ?_
  refine lv_aload_n hx hb dX3_init_4 rfl (lv_at hl 0 rfl) ?_
  refine lv_bipush hx hb dX3_init_5 rfl (c_i (n := 90) (by decide) (fun v1 z2 => ?_))
  refine c_newa (atype := .int) (ty := .int) (t0 := 0) (N := 90) (a0 := (90, .inl fun _ => 0)) S X kc3 rfl rfl (fun _ => rfl) (by omega) (by decide) ⟨Nat.le_of_ble_eq_true rfl, Nat.le_of_ble_eq_true rfl⟩ dX3_init_7 (fun q3 H X => ?_)
  have X : Xc G s H lc (ws ++ [(a, .inr (3, [.null, .null, .null, .null, .int 0, .int 0, .int 0, .int 0, .int 0, .int 0, .int 0])), (q3, .inl (G.2.1 0, 90, .inl fun _ => 0))]) := X
  refine c_put (ty := (tyX3 0)) (i := 0) S X lk3_9_3 rfl (fun _ _ _ h => by cases h; exact ⟨Or.inr ⟨rfl, rfl, hnm⟩, tyX3_ok 0 (by decide)⟩) rfl rfl (Nat.le_of_ble_eq_true rfl) dX3_init_9 (fun H lc X => ?_)
  have X : Xc G s H lc (ws ++ [(a, .inr (3, [.ref q3, .null, .null, .null, .int 0, .int 0, .int 0, .int 0, .int 0, .int 0, .int 0])), (q3, .inl (G.2.1 0, 90, .inl fun _ => 0))]) := X
  refine lv_aload_n hx hb dX3_init_12 rfl (lv_at hl 0 rfl) ?_
  refine lv_bipush hx hb dX3_init_13 rfl (c_i (n := 90) (by decide) (fun v4 z5 => ?_))
  refine c_newa (atype := .int) (ty := .int) (t0 := 0) (N := 90) (a0 := (90, .inl fun _ => 0)) S X kc3 rfl rfl (fun _ => rfl) (by omega) (by decide) ⟨Nat.le_of_ble_eq_true rfl, Nat.le_of_ble_eq_true rfl⟩ dX3_init_15 (fun q6 H X => ?_)
  have X : Xc G s H lc (ws ++ [(a, .inr (3, [.ref q3, .null, .null, .null, .int 0, .int 0, .int 0, .int 0, .int 0, .int 0, .int 0])), (q3, .inl (G.2.1 0, 90, .inl fun _ => 0)), (q6, .inl (G.2.1 0, 90, .inl fun _ => 0))]) := X
  refine c_put (ty := (tyX3 1)) (i := 0) S X lk3_15_3 rfl (fun _ _ _ h => by cases h; exact ⟨Or.inr ⟨rfl, rfl, hnm⟩, tyX3_ok 1 (by decide)⟩) rfl rfl (Nat.le_of_ble_eq_true rfl) dX3_init_17 (fun H lc X => ?_)
  have X : Xc G s H lc (ws ++ [(a, .inr (3, [.ref q3, .ref q6, .null, .null, .int 0, .int 0, .int 0, .int 0, .int 0, .int 0, .int 0])), (q3, .inl (G.2.1 0, 90, .inl fun _ => 0)), (q6, .inl (G.2.1 0, 90, .inl fun _ => 0))]) := X
  refine lv_aload_n hx hb dX3_init_20 rfl (lv_at hl 0 rfl) ?_
  refine lv_bipush hx hb dX3_init_21 rfl (c_i (n := 10) (by decide) (fun v7 z8 => ?_))
  refine c_newa (atype := .int) (ty := .int) (t0 := 0) (N := 10) (a0 := (10, .inl fun _ => 0)) S X kc3 rfl rfl (fun _ => rfl) (by omega) (by decide) ⟨Nat.le_of_ble_eq_true rfl, Nat.le_of_ble_eq_true rfl⟩ dX3_init_23 (fun q9 H X => ?_)
  have X : Xc G s H lc (ws ++ [(a, .inr (3, [.ref q3, .ref q6, .null, .null, .int 0, .int 0, .int 0, .int 0, .int 0, .int 0, .int 0])), (q3, .inl (G.2.1 0, 90, .inl fun _ => 0)), (q6, .inl (G.2.1 0, 90, .inl fun _ => 0)), (q9, .inl (G.2.1 0, 10, .inl fun _ => 0))]) := X
  refine c_put (ty := (tyX3 2)) (i := 0) S X lk3_18_3 rfl (fun _ _ _ h => by cases h; exact ⟨Or.inr ⟨rfl, rfl, hnm⟩, tyX3_ok 2 (by decide)⟩) rfl rfl (Nat.le_of_ble_eq_true rfl) dX3_init_25 (fun H lc X => ?_)
  have X : Xc G s H lc (ws ++ [(a, .inr (3, [.ref q3, .ref q6, .ref q9, .null, .int 0, .int 0, .int 0, .int 0, .int 0, .int 0, .int 0])), (q3, .inl (G.2.1 0, 90, .inl fun _ => 0)), (q6, .inl (G.2.1 0, 90, .inl fun _ => 0)), (q9, .inl (G.2.1 0, 10, .inl fun _ => 0))]) := X
  refine lv_aload_n hx hb dX3_init_28 rfl (lv_at hl 0 rfl) ?_
  refine lv_bipush hx hb dX3_init_29 rfl (c_i (n := 10) (by decide) (fun v10 z11 => ?_))
  refine c_newa (atype := .int) (ty := .int) (t0 := 0) (N := 10) (a0 := (10, .inl fun _ => 0)) S X kc3 rfl rfl (fun _ => rfl) (by omega) (by decide) ⟨Nat.le_of_ble_eq_true rfl, Nat.le_of_ble_eq_true rfl⟩ dX3_init_31 (fun q12 H X => ?_)
  have X : Xc G s H lc (ws ++ [(a, .inr (3, [.ref q3, .ref q6, .ref q9, .null, .int 0, .int 0, .int 0, .int 0, .int 0, .int 0, .int 0])), (q3, .inl (G.2.1 0, 90, .inl fun _ => 0)), (q6, .inl (G.2.1 0, 90, .inl fun _ => 0)), (q9, .inl (G.2.1 0, 10, .inl fun _ => 0)), (q12, .inl (G.2.1 0, 10, .inl fun _ => 0))]) := X
  refine c_put (ty := (tyX3 3)) (i := 0) S X lk3_21_3 rfl (fun _ _ _ h => by cases h; exact ⟨Or.inr ⟨rfl, rfl, hnm⟩, tyX3_ok 3 (by decide)⟩) rfl rfl (Nat.le_of_ble_eq_true rfl) dX3_init_33 (fun H lc X => ?_)
  have X : Xc G s H lc (ws ++ [(a, .inr (3, [.ref q3, .ref q6, .ref q9, .ref q12, .int 0, .int 0, .int 0, .int 0, .int 0, .int 0, .int 0])), (q3, .inl (G.2.1 0, 90, .inl fun _ => 0)), (q6, .inl (G.2.1 0, 90, .inl fun _ => 0)), (q9, .inl (G.2.1 0, 10, .inl fun _ => 0)), (q12, .inl (G.2.1 0, 10, .inl fun _ => 0))]) := X
  refine lv_aload_n hx hb dX3_init_36 rfl (lv_at hl 0 rfl) ?_
  refine lv_iconst hx hb dX3_init_37 rfl (c_i (n := -1) (by decide) (fun v13 z14 => ?_))
  refine c_put (ty := (tyX3 8)) (i := 0) S X lk3_24_3 rfl (fun _ _ _ h => by cases h; exact ⟨Or.inl rfl, tyX3_ok 8 (by decide)⟩) rfl rfl (Nat.le_of_ble_eq_true rfl) dX3_init_38 (fun H lc X => ?_)
  rw [show v13 = (-1 : Int32) from Int32.toInt_inj.mp (by rw [z14]; rfl)] at X
  have X : Xc G s H lc (ws ++ [(a, .inr (3, [.ref q3, .ref q6, .ref q9, .ref q12, .int 0, .int 0, .int 0, .int 0, .int (-1), .int 0, .int 0])), (q3, .inl (G.2.1 0, 90, .inl fun _ => 0)), (q6, .inl (G.2.1 0, 90, .inl fun _ => 0)), (q9, .inl (G.2.1 0, 10, .inl fun _ => 0)), (q12, .inl (G.2.1 0, 10, .inl fun _ => 0))]) := X
  exact c_vret S hr hlk X ⟨q3, q6, q9, q12, rfl⟩ dX3_init_41
set_option maxHeartbeats 8000000 in
set_option maxRecDepth 100000 in
theorem ci_X5 (l : Launch) (G : Gx) (ws : va_W) (a : Nat) : Cc l G yX5_init cX5_init 1 1 40 4 160 [.ref a] (ws ++ [(a, .inr (5, [.null, .null, .null, .null, .int 0]))]) (fun u => ∃ (q3 q6 q9 q12 : Nat), u = ws ++ [(a, .inr (5, [.ref q3, .ref q6, .ref q9, .ref q12, .int 0])), (q3, .inl (G.2.1 4, 40, .inr (.inr (.inr (.inr fun _ => none))))), (q6, .inl (G.2.1 0, 40, .inl fun _ => 0)), (q9, .inl (G.2.1 0, 40, .inl fun _ => 0)), (q12, .inl (G.2.1 0, 40, .inl fun _ => 0))]) := by
  unfold Cc
  refine Cc_of (own := RX5) (by decide) rfl (Nat.le_of_ble_eq_true rfl) ?_
  intro p e s m below meth c ls S hr hlk hnm X hl
  have hx := S.1.1
  have hb := S.1.2.1
  obtain ⟨H, hH⟩ : ∃ z, z = s.heap := ⟨_, rfl⟩
  obtain ⟨lc, hlc⟩ : ∃ z : List Loc, z = [] := ⟨_, rfl⟩
  rw [← hH, ← hlc]
  rw [← hH, ← hlc] at X
  have hl : lv_has ls 1 [(0, .ref a)] := hl
  refine lv_aload_n hx hb dX5_init_0 rfl (lv_at hl 0 rfl) ?_
  refine c_obj S kc7 kc1 kc_ob hl.1 ⟨Nat.le_of_ble_eq_true rfl, Nat.le_of_ble_eq_true rfl⟩ dX5_init_1 ?_
  refine lv_aload_n hx hb dX5_init_4 rfl (lv_at hl 0 rfl) ?_
  refine lv_bipush hx hb dX5_init_5 rfl (c_i (n := 40) (by decide) (fun v1 z2 => ?_))
  refine c_newq (t0 := 4) (N := 40) S X kc8 S.2.2.2.1.1 rfl (by omega) (by decide) ⟨Nat.le_of_ble_eq_true rfl, Nat.le_of_ble_eq_true rfl⟩ dX5_init_7 (fun q3 H X => ?_)
  have X : Xc G s H lc (ws ++ [(a, .inr (5, [.null, .null, .null, .null, .int 0])), (q3, .inl (G.2.1 4, 40, .inr (.inr (.inr (.inr fun _ => none)))))]) := X
  refine c_put (ty := (tyX5 0)) (i := 0) S X lk5_13_5 rfl (fun _ _ _ h => by cases h; exact ⟨Or.inr ⟨rfl, rfl, hnm⟩, tyX5_ok 0 (by decide)⟩) rfl rfl (Nat.le_of_ble_eq_true rfl) dX5_init_10 (fun H lc X => ?_)
  have X : Xc G s H lc (ws ++ [(a, .inr (5, [.ref q3, .null, .null, .null, .int 0])), (q3, .inl (G.2.1 4, 40, .inr (.inr (.inr (.inr fun _ => none)))))]) := X
  refine lv_aload_n hx hb dX5_init_13 rfl (lv_at hl 0 rfl) ?_
  refine lv_bipush hx hb dX5_init_14 rfl (c_i (n := 40) (by decide) (fun v4 z5 => ?_))
  refine c_newa (atype := .int) (ty := .int) (t0 := 0) (N := 40) (a0 := (40, .inl fun _ => 0)) S X kc3 rfl rfl (fun _ => rfl) (by omega) (by decide) ⟨Nat.le_of_ble_eq_true rfl, Nat.le_of_ble_eq_true rfl⟩ dX5_init_16 (fun q6 H X => ?_)
  have X : Xc G s H lc (ws ++ [(a, .inr (5, [.ref q3, .null, .null, .null, .int 0])), (q3, .inl (G.2.1 4, 40, .inr (.inr (.inr (.inr fun _ => none))))), (q6, .inl (G.2.1 0, 40, .inl fun _ => 0))]) := X
  refine c_put (ty := (tyX5 1)) (i := 0) S X lk5_17_5 rfl (fun _ _ _ h => by cases h; exact ⟨Or.inr ⟨rfl, rfl, hnm⟩, tyX5_ok 1 (by decide)⟩) rfl rfl (Nat.le_of_ble_eq_true rfl) dX5_init_18 (fun H lc X => ?_)
  have X : Xc G s H lc (ws ++ [(a, .inr (5, [.ref q3, .ref q6, .null, .null, .int 0])), (q3, .inl (G.2.1 4, 40, .inr (.inr (.inr (.inr fun _ => none))))), (q6, .inl (G.2.1 0, 40, .inl fun _ => 0))]) := X
  refine lv_aload_n hx hb dX5_init_21 rfl (lv_at hl 0 rfl) ?_
  refine lv_bipush hx hb dX5_init_22 rfl (c_i (n := 40) (by decide) (fun v7 z8 => ?_))
  refine c_newa (atype := .int) (ty := .int) (t0 := 0) (N := 40) (a0 := (40, .inl fun _ => 0)) S X kc3 rfl rfl (fun _ => rfl) (by omega) (by decide) ⟨Nat.le_of_ble_eq_true rfl, Nat.le_of_ble_eq_true rfl⟩ dX5_init_24 (fun q9 H X => ?_)
  have X : Xc G s H lc (ws ++ [(a, .inr (5, [.ref q3, .ref q6, .null, .null, .int 0])), (q3, .inl (G.2.1 4, 40, .inr (.inr (.inr (.inr fun _ => none))))), (q6, .inl (G.2.1 0, 40, .inl fun _ => 0)), (q9, .inl (G.2.1 0, 40, .inl fun _ => 0))]) := X
  refine c_put (ty := (tyX5 2)) (i := 0) S X lk5_21_5 rfl (fun _ _ _ h => by cases h; exact ⟨Or.inr ⟨rfl, rfl, hnm⟩, tyX5_ok 2 (by decide)⟩) rfl rfl (Nat.le_of_ble_eq_true rfl) dX5_init_26 (fun H lc X => ?_)
  have X : Xc G s H lc (ws ++ [(a, .inr (5, [.ref q3, .ref q6, .ref q9, .null, .int 0])), (q3, .inl (G.2.1 4, 40, .inr (.inr (.inr (.inr fun _ => none))))), (q6, .inl (G.2.1 0, 40, .inl fun _ => 0)), (q9, .inl (G.2.1 0, 40, .inl fun _ => 0))]) := X
  refine lv_aload_n hx hb dX5_init_29 rfl (lv_at hl 0 rfl) ?_
  refine lv_bipush hx hb dX5_init_30 rfl (c_i (n := 40) (by decide) (fun v10 z11 => ?_))
  refine c_newa (atype := .int) (ty := .int) (t0 := 0) (N := 40) (a0 := (40, .inl fun _ => 0)) S X kc3 rfl rfl (fun _ => rfl) (by omega) (by decide) ⟨Nat.le_of_ble_eq_true rfl, Nat.le_of_ble_eq_true rfl⟩ dX5_init_32 (fun q12 H X => ?_)
  have X : Xc G s H lc (ws ++ [(a, .inr (5, [.ref q3, .ref q6, .ref q9, .null, .int 0])), (q3, .inl (G.2.1 4, 40, .inr (.inr (.inr (.inr fun _ => none))))), (q6, .inl (G.2.1 0, 40, .inl fun _ => 0)), (q9, .inl (G.2.1 0, 40, .inl fun _ => 0)), (q12, .inl (G.2.1 0, 40, .inl fun _ => 0))]) := X
  refine c_put (ty := (tyX5 3)) (i := 0) S X lk5_24_5 rfl (fun _ _ _ h => by cases h; exact ⟨Or.inr ⟨rfl, rfl, hnm⟩, tyX5_ok 3 (by decide)⟩) rfl rfl (Nat.le_of_ble_eq_true rfl) dX5_init_34 (fun H lc X => ?_)
  have X : Xc G s H lc (ws ++ [(a, .inr (5, [.ref q3, .ref q6, .ref q9, .ref q12, .int 0])), (q3, .inl (G.2.1 4, 40, .inr (.inr (.inr (.inr fun _ => none))))), (q6, .inl (G.2.1 0, 40, .inl fun _ => 0)), (q9, .inl (G.2.1 0, 40, .inl fun _ => 0)), (q12, .inl (G.2.1 0, 40, .inl fun _ => 0))]) := X
  exact c_vret S hr hlk X ⟨q3, q6, q9, q12, rfl⟩ dX5_init_37
set_option maxHeartbeats 8000000 in
set_option maxRecDepth 100000 in
theorem ci_X4 (l : Launch) (G : Gx) (ws : va_W) (a : Nat) : Cc l G yX4_init cX4_init 1 1 40 5 7168 [.ref a] (ws ++ [(a, .inr (4, [.null, .null, .null, .null, .null]))]) (fun u => ∃ (q3 q6 q9 q12 q15 : Nat), u = ws ++ [(a, .inr (4, [.ref q3, .ref q6, .ref q9, .ref q12, .ref q15])), (q3, .inl (G.2.1 0, 1024, .inl fun _ => 0)), (q6, .inl (G.2.1 2, 1024, .inl fun _ => 0)), (q9, .inl (G.2.1 2, 1024, .inl fun _ => 0)), (q12, .inl (G.2.1 0, 2048, .inl fun _ => 0)), (q15, .inl (G.2.1 0, 2048, .inl fun _ => 0))]) := by
  unfold Cc
  refine Cc_of (own := RX4) (by decide) rfl (Nat.le_of_ble_eq_true rfl) ?_
  intro p e s m below meth c ls S hr hlk hnm X hl
  have hx := S.1.1
  have hb := S.1.2.1
  obtain ⟨H, hH⟩ : ∃ z, z = s.heap := ⟨_, rfl⟩
  obtain ⟨lc, hlc⟩ : ∃ z : List Loc, z = [] := ⟨_, rfl⟩
  rw [← hH, ← hlc]
  rw [← hH, ← hlc] at X
  have hl : lv_has ls 1 [(0, .ref a)] := hl
  refine lv_aload_n hx hb dX4_init_0 rfl (lv_at hl 0 rfl) ?_
  refine c_obj S kc9 kc1 kc_ob hl.1 ⟨Nat.le_of_ble_eq_true rfl, Nat.le_of_ble_eq_true rfl⟩ dX4_init_1 ?_
  refine lv_aload_n hx hb dX4_init_4 rfl (lv_at hl 0 rfl) ?_
  refine lv_sipush hx hb dX4_init_5 rfl (c_i (n := 1024) (by decide) (fun v1 z2 => ?_))
  refine c_newa (atype := .int) (ty := .int) (t0 := 0) (N := 1024) (a0 := (1024, .inl fun _ => 0)) S X kc3 rfl rfl (fun _ => rfl) (by omega) (by decide) ⟨Nat.le_of_ble_eq_true rfl, Nat.le_of_ble_eq_true rfl⟩ dX4_init_8 (fun q3 H X => ?_)
  have X : Xc G s H lc (ws ++ [(a, .inr (4, [.null, .null, .null, .null, .null])), (q3, .inl (G.2.1 0, 1024, .inl fun _ => 0))]) := X
  refine c_put (ty := (tyX4 0)) (i := 0) S X lk4_9_4 rfl (fun _ _ _ h => by cases h; exact ⟨Or.inr ⟨rfl, rfl, hnm⟩, tyX4_ok 0 (by decide)⟩) rfl rfl (Nat.le_of_ble_eq_true rfl) dX4_init_10 (fun H lc X => ?_)
  have X : Xc G s H lc (ws ++ [(a, .inr (4, [.ref q3, .null, .null, .null, .null])), (q3, .inl (G.2.1 0, 1024, .inl fun _ => 0))]) := X
  refine lv_aload_n hx hb dX4_init_13 rfl (lv_at hl 0 rfl) ?_
  refine lv_sipush hx hb dX4_init_14 rfl (c_i (n := 1024) (by decide) (fun v4 z5 => ?_))
  refine c_newa (atype := .boolean) (ty := .boolean) (t0 := 2) (N := 1024) (a0 := (1024, .inl fun _ => 0)) S X kc10 rfl rfl (fun _ => rfl) (by omega) (by decide) ⟨Nat.le_of_ble_eq_true rfl, Nat.le_of_ble_eq_true rfl⟩ dX4_init_17 (fun q6 H X => ?_)
  have X : Xc G s H lc (ws ++ [(a, .inr (4, [.ref q3, .null, .null, .null, .null])), (q3, .inl (G.2.1 0, 1024, .inl fun _ => 0)), (q6, .inl (G.2.1 2, 1024, .inl fun _ => 0))]) := X
  refine c_put (ty := (tyX4 1)) (i := 0) S X lk4_15_4 rfl (fun _ _ _ h => by cases h; exact ⟨Or.inr ⟨rfl, rfl, hnm⟩, tyX4_ok 1 (by decide)⟩) rfl rfl (Nat.le_of_ble_eq_true rfl) dX4_init_19 (fun H lc X => ?_)
  have X : Xc G s H lc (ws ++ [(a, .inr (4, [.ref q3, .ref q6, .null, .null, .null])), (q3, .inl (G.2.1 0, 1024, .inl fun _ => 0)), (q6, .inl (G.2.1 2, 1024, .inl fun _ => 0))]) := X
  refine lv_aload_n hx hb dX4_init_22 rfl (lv_at hl 0 rfl) ?_
  refine lv_sipush hx hb dX4_init_23 rfl (c_i (n := 1024) (by decide) (fun v7 z8 => ?_))
  refine c_newa (atype := .boolean) (ty := .boolean) (t0 := 2) (N := 1024) (a0 := (1024, .inl fun _ => 0)) S X kc10 rfl rfl (fun _ => rfl) (by omega) (by decide) ⟨Nat.le_of_ble_eq_true rfl, Nat.le_of_ble_eq_true rfl⟩ dX4_init_26 (fun q9 H X => ?_)
  have X : Xc G s H lc (ws ++ [(a, .inr (4, [.ref q3, .ref q6, .null, .null, .null])), (q3, .inl (G.2.1 0, 1024, .inl fun _ => 0)), (q6, .inl (G.2.1 2, 1024, .inl fun _ => 0)), (q9, .inl (G.2.1 2, 1024, .inl fun _ => 0))]) := X
  refine c_put (ty := (tyX4 2)) (i := 0) S X lk4_19_4 rfl (fun _ _ _ h => by cases h; exact ⟨Or.inr ⟨rfl, rfl, hnm⟩, tyX4_ok 2 (by decide)⟩) rfl rfl (Nat.le_of_ble_eq_true rfl) dX4_init_28 (fun H lc X => ?_)
  have X : Xc G s H lc (ws ++ [(a, .inr (4, [.ref q3, .ref q6, .ref q9, .null, .null])), (q3, .inl (G.2.1 0, 1024, .inl fun _ => 0)), (q6, .inl (G.2.1 2, 1024, .inl fun _ => 0)), (q9, .inl (G.2.1 2, 1024, .inl fun _ => 0))]) := X
  refine lv_aload_n hx hb dX4_init_31 rfl (lv_at hl 0 rfl) ?_
  refine lv_sipush hx hb dX4_init_32 rfl (c_i (n := 2048) (by decide) (fun v10 z11 => ?_))
  refine c_newa (atype := .int) (ty := .int) (t0 := 0) (N := 2048) (a0 := (2048, .inl fun _ => 0)) S X kc3 rfl rfl (fun _ => rfl) (by omega) (by decide) ⟨Nat.le_of_ble_eq_true rfl, Nat.le_of_ble_eq_true rfl⟩ dX4_init_35 (fun q12 H X => ?_)
  have X : Xc G s H lc (ws ++ [(a, .inr (4, [.ref q3, .ref q6, .ref q9, .null, .null])), (q3, .inl (G.2.1 0, 1024, .inl fun _ => 0)), (q6, .inl (G.2.1 2, 1024, .inl fun _ => 0)), (q9, .inl (G.2.1 2, 1024, .inl fun _ => 0)), (q12, .inl (G.2.1 0, 2048, .inl fun _ => 0))]) := X
  refine c_put (ty := (tyX4 3)) (i := 0) S X lk4_22_4 rfl (fun _ _ _ h => by cases h; exact ⟨Or.inr ⟨rfl, rfl, hnm⟩, tyX4_ok 3 (by decide)⟩) rfl rfl (Nat.le_of_ble_eq_true rfl) dX4_init_37 (fun H lc X => ?_)
  have X : Xc G s H lc (ws ++ [(a, .inr (4, [.ref q3, .ref q6, .ref q9, .ref q12, .null])), (q3, .inl (G.2.1 0, 1024, .inl fun _ => 0)), (q6, .inl (G.2.1 2, 1024, .inl fun _ => 0)), (q9, .inl (G.2.1 2, 1024, .inl fun _ => 0)), (q12, .inl (G.2.1 0, 2048, .inl fun _ => 0))]) := X
  refine lv_aload_n hx hb dX4_init_40 rfl (lv_at hl 0 rfl) ?_
  refine lv_sipush hx hb dX4_init_41 rfl (c_i (n := 2048) (by decide) (fun v13 z14 => ?_))
  refine c_newa (atype := .int) (ty := .int) (t0 := 0) (N := 2048) (a0 := (2048, .inl fun _ => 0)) S X kc3 rfl rfl (fun _ => rfl) (by omega) (by decide) ⟨Nat.le_of_ble_eq_true rfl, Nat.le_of_ble_eq_true rfl⟩ dX4_init_44 (fun q15 H X => ?_)
  have X : Xc G s H lc (ws ++ [(a, .inr (4, [.ref q3, .ref q6, .ref q9, .ref q12, .null])), (q3, .inl (G.2.1 0, 1024, .inl fun _ => 0)), (q6, .inl (G.2.1 2, 1024, .inl fun _ => 0)), (q9, .inl (G.2.1 2, 1024, .inl fun _ => 0)), (q12, .inl (G.2.1 0, 2048, .inl fun _ => 0)), (q15, .inl (G.2.1 0, 2048, .inl fun _ => 0))]) := X
  refine c_put (ty := (tyX4 4)) (i := 0) S X lk4_25_4 rfl (fun _ _ _ h => by cases h; exact ⟨Or.inr ⟨rfl, rfl, hnm⟩, tyX4_ok 4 (by decide)⟩) rfl rfl (Nat.le_of_ble_eq_true rfl) dX4_init_46 (fun H lc X => ?_)
  have X : Xc G s H lc (ws ++ [(a, .inr (4, [.ref q3, .ref q6, .ref q9, .ref q12, .ref q15])), (q3, .inl (G.2.1 0, 1024, .inl fun _ => 0)), (q6, .inl (G.2.1 2, 1024, .inl fun _ => 0)), (q9, .inl (G.2.1 2, 1024, .inl fun _ => 0)), (q12, .inl (G.2.1 0, 2048, .inl fun _ => 0)), (q15, .inl (G.2.1 0, 2048, .inl fun _ => 0))]) := X
  exact c_vret S hr hlk X ⟨q3, q6, q9, q12, q15, rfl⟩ dX4_init_49
set_option maxHeartbeats 8000000 in
set_option maxRecDepth 100000 in
theorem ci_X0 (l : Launch) (G : Gx) (ws : va_W) (a b0 : Nat) : Cc l G yX0_init cX0_init 2 3 80 7 150 [.ref a, .ref b0] (ws ++ [(a, .inr (0, [.null, .int 0, .int 0, .null, .int 0, .int 0, .int 0]))]) (fun u => ∃ (q3 q6 q7 q8 q9 q10 q11 : Nat), u = ws ++ [(a, .inr (0, [.ref b0, .int 0, .int 0, .ref q3, .int 0, .int 0, .int 0])), (q3, .inr (2, [.int (4), .int (0), .int (0), .int (0), .int (0), .ref q6, .ref q7, .ref q8, .ref q9, .ref q10, .ref q11])), (q6, .inl (G.2.1 0, 10, .inl fun _ => 0)), (q7, .inl (G.2.1 0, 10, .inl (flf 10 (-1) (fun _ => 0)))), (q8, .inl (G.2.1 0, 10, .inl (flf 10 (0) (fun _ => 0)))), (q9, .inl (G.2.1 0, 90, .inl (flf 90 (0) (fun _ => 0)))), (q10, .inl (G.2.1 1, 9, .inr (.inl fun _ => 0))), (q11, .inl (G.2.1 1, 10, .inr (.inl fun _ => 0)))]) := by
  unfold Cc
  refine Cc_of (own := RX0) (by decide) rfl (Nat.le_of_ble_eq_true rfl) ?_
  intro p e s m below meth c ls S hr hlk hnm X hl
  have hx := S.1.1
  have hb := S.1.2.1
  obtain ⟨H, hH⟩ : ∃ z, z = s.heap := ⟨_, rfl⟩
  obtain ⟨lc, hlc⟩ : ∃ z : List Loc, z = [] := ⟨_, rfl⟩
  rw [← hH, ← hlc]
  rw [← hH, ← hlc] at X
  have hl : lv_has ls 2 [(0, .ref a), (1, .ref b0)] := hl
  refine lv_aload_n hx hb dX0_init_0 rfl (lv_at hl 0 rfl) ?_
  refine lv_aload_n hx hb dX0_init_1 rfl (lv_at hl 1 rfl) ?_
  have X : Xc G s H lc ((ws ++ []) ++ [(a, .inr (0, [.null, .int 0, .int 0, .null, .int 0, .int 0, .int 0]))]) := by rw [List.append_assoc]; exact X
  refine c_kv (c_runI (As := [.ref b0]) (rest := []) S X (ci_X8_0 l G (ws ++ ([] : va_W)) a b0) ckiOpinionFerry_FerryText_3 rfl ⟨Nat.le_of_ble_eq_true rfl, Nat.le_of_ble_eq_true rfl⟩ rfl hl.1 rfl (Nat.le_of_ble_eq_true rfl) dX0_init_2 ⟨Nat.le_of_ble_eq_true rfl, Nat.le_of_ble_eq_true rfl⟩) X (fun u1 H lc h2 X => ?_)
  subst h2
  rw [List.append_assoc] at X
  have X : Xc G s H lc (ws ++ [(a, .inr (0, [.ref b0, .int 0, .int 0, .null, .int 0, .int 0, .int 0]))]) := X
  refine lv_aload_n hx hb dX0_init_5 rfl (lv_at hl 0 rfl) ?_
  refine c_new S X nw0_9 ⟨Nat.le_of_ble_eq_true rfl, Nat.le_of_ble_eq_true rfl⟩ dX0_init_6 (fun q3 H X => ?_)
  have X : Xc G s H lc (ws ++ [(a, .inr (0, [.ref b0, .int 0, .int 0, .null, .int 0, .int 0, .int 0])), (q3, .inr (2, [.int 0, .int 0, .int 0, .int 0, .int 0, .null, .null, .null, .null, .null, .null]))]) := X
  refine lv_dup hx hb dX0_init_9 rfl ?_
  have X : Xc G s H lc ((ws ++ [(a, .inr (0, [.ref b0, .int 0, .int 0, .null, .int 0, .int 0, .int 0]))]) ++ [(q3, .inr (2, [.int 0, .int 0, .int 0, .int 0, .int 0, .null, .null, .null, .null, .null, .null]))]) := by rw [List.append_assoc]; exact X
  refine c_kv (c_runI (As := []) (rest := [.ref q3, .ref a]) S X (ci_X2 l G (ws ++ ([(a, .inr (0, [.ref b0, .int 0, .int 0, .null, .int 0, .int 0, .int 0]))] : va_W)) q3) ckiOpinionFerry_FerryText_11 rfl ⟨Nat.le_of_ble_eq_true rfl, Nat.le_of_ble_eq_true rfl⟩ rfl hl.1 rfl (Nat.le_of_ble_eq_true rfl) dX0_init_10 ⟨Nat.le_of_ble_eq_true rfl, Nat.le_of_ble_eq_true rfl⟩) X (fun u4 H lc h5 X => ?_)
  obtain ⟨q6, q7, q8, q9, q10, q11, rfl⟩ := h5
  rw [List.append_assoc] at X
  have X : Xc G s H lc (ws ++ [(a, .inr (0, [.ref b0, .int 0, .int 0, .null, .int 0, .int 0, .int 0])), (q3, .inr (2, [.int (4), .int (0), .int (0), .int (0), .int (0), .ref q6, .ref q7, .ref q8, .ref q9, .ref q10, .ref q11])), (q6, .inl (G.2.1 0, 10, .inl fun _ => 0)), (q7, .inl (G.2.1 0, 10, .inl (flf 10 (-1) (fun _ => 0)))), (q8, .inl (G.2.1 0, 10, .inl (flf 10 (0) (fun _ => 0)))), (q9, .inl (G.2.1 0, 90, .inl (flf 90 (0) (fun _ => 0)))), (q10, .inl (G.2.1 1, 9, .inr (.inl fun _ => 0))), (q11, .inl (G.2.1 1, 10, .inr (.inl fun _ => 0)))]) := X
  refine c_put (ty := (tyX0 3)) (i := 0) S X lk0_14_0 rfl (fun _ _ _ h => by cases h; exact ⟨Or.inr ⟨rfl, rfl, hnm⟩, tyX0_ok 3 (by decide)⟩) rfl rfl (Nat.le_of_ble_eq_true rfl) dX0_init_13 (fun H lc X => ?_)
  have X : Xc G s H lc (ws ++ [(a, .inr (0, [.ref b0, .int 0, .int 0, .ref q3, .int 0, .int 0, .int 0])), (q3, .inr (2, [.int (4), .int (0), .int (0), .int (0), .int (0), .ref q6, .ref q7, .ref q8, .ref q9, .ref q10, .ref q11])), (q6, .inl (G.2.1 0, 10, .inl fun _ => 0)), (q7, .inl (G.2.1 0, 10, .inl (flf 10 (-1) (fun _ => 0)))), (q8, .inl (G.2.1 0, 10, .inl (flf 10 (0) (fun _ => 0)))), (q9, .inl (G.2.1 0, 90, .inl (flf 90 (0) (fun _ => 0)))), (q10, .inl (G.2.1 1, 9, .inr (.inl fun _ => 0))), (q11, .inl (G.2.1 1, 10, .inr (.inl fun _ => 0)))]) := X
  exact c_vret S hr hlk X ⟨q3, q6, q7, q8, q9, q10, q11, rfl⟩ dX0_init_16
set_option maxHeartbeats 8000000 in
set_option maxRecDepth 100000 in
theorem ci_X1 (l : Launch) (G : Gx) (ws : va_W) (a b0 : Nat) : Cc l G yX1_init cX1_init 2 2 61 4 160 [.ref a, .ref b0] (ws ++ [(a, .inr (1, [.null, .int 0, .int 0, .int 0, .null, .null, .null, .null]))]) (fun u => ∃ (q5 q8 q11 q14 : Nat), u = ws ++ [(a, .inr (1, [.ref b0, .int 0, .int 0, .int 0, .ref q5, .ref q8, .ref q11, .ref q14])), (q5, .inl (G.2.1 0, 40, .inl fun _ => 0)), (q8, .inl (G.2.1 0, 40, .inl fun _ => 0)), (q11, .inl (G.2.1 0, 40, .inl fun _ => 0)), (q14, .inl (G.2.1 0, 40, .inl fun _ => 0))]) := by
  unfold Cc
  refine Cc_of (own := RX1) (by decide) rfl (Nat.le_of_ble_eq_true rfl) ?_
  intro p e s m below meth c ls S hr hlk hnm X hl
  have hx := S.1.1
  have hb := S.1.2.1
  obtain ⟨H, hH⟩ : ∃ z, z = s.heap := ⟨_, rfl⟩
  obtain ⟨lc, hlc⟩ : ∃ z : List Loc, z = [] := ⟨_, rfl⟩
  rw [← hH, ← hlc]
  rw [← hH, ← hlc] at X
  have hl : lv_has ls 2 [(0, .ref a), (1, .ref b0)] := hl
  refine lv_aload_n hx hb dX1_init_0 rfl (lv_at hl 0 rfl) ?_
  refine lv_aload_n hx hb dX1_init_1 rfl (lv_at hl 1 rfl) ?_
  have X : Xc G s H lc ((ws ++ []) ++ [(a, .inr (1, [.null, .int 0, .int 0, .int 0, .null, .null, .null, .null]))]) := by rw [List.append_assoc]; exact X
  refine c_kv (c_runI (As := [.ref b0]) (rest := []) S X (ci_X8_1 l G (ws ++ ([] : va_W)) a b0) ckiOpinionFerry_LogText_3 rfl ⟨Nat.le_of_ble_eq_true rfl, Nat.le_of_ble_eq_true rfl⟩ rfl hl.1 rfl (Nat.le_of_ble_eq_true rfl) dX1_init_2 ⟨Nat.le_of_ble_eq_true rfl, Nat.le_of_ble_eq_true rfl⟩) X (fun u1 H lc h2 X => ?_)
  subst h2
  rw [List.append_assoc] at X
  have X : Xc G s H lc (ws ++ [(a, .inr (1, [.ref b0, .int 0, .int 0, .int 0, .null, .null, .null, .null]))]) := X
  refine lv_aload_n hx hb dX1_init_5 rfl (lv_at hl 0 rfl) ?_
  refine lv_bipush hx hb dX1_init_6 rfl (c_i (n := 40) (by decide) (fun v3 z4 => ?_))
  refine c_newa (atype := .int) (ty := .int) (t0 := 0) (N := 40) (a0 := (40, .inl fun _ => 0)) S X kc3 rfl rfl (fun _ => rfl) (by omega) (by decide) ⟨Nat.le_of_ble_eq_true rfl, Nat.le_of_ble_eq_true rfl⟩ dX1_init_8 (fun q5 H X => ?_)
  have X : Xc G s H lc (ws ++ [(a, .inr (1, [.ref b0, .int 0, .int 0, .int 0, .null, .null, .null, .null])), (q5, .inl (G.2.1 0, 40, .inl fun _ => 0))]) := X
  refine c_put (ty := (tyX1 4)) (i := 0) S X lk1_9_1 rfl (fun _ _ _ h => by cases h; exact ⟨Or.inr ⟨rfl, rfl, hnm⟩, tyX1_ok 4 (by decide)⟩) rfl rfl (Nat.le_of_ble_eq_true rfl) dX1_init_10 (fun H lc X => ?_)
  have X : Xc G s H lc (ws ++ [(a, .inr (1, [.ref b0, .int 0, .int 0, .int 0, .ref q5, .null, .null, .null])), (q5, .inl (G.2.1 0, 40, .inl fun _ => 0))]) := X
  refine lv_aload_n hx hb dX1_init_13 rfl (lv_at hl 0 rfl) ?_
  refine lv_bipush hx hb dX1_init_14 rfl (c_i (n := 40) (by decide) (fun v6 z7 => ?_))
  refine c_newa (atype := .int) (ty := .int) (t0 := 0) (N := 40) (a0 := (40, .inl fun _ => 0)) S X kc3 rfl rfl (fun _ => rfl) (by omega) (by decide) ⟨Nat.le_of_ble_eq_true rfl, Nat.le_of_ble_eq_true rfl⟩ dX1_init_16 (fun q8 H X => ?_)
  have X : Xc G s H lc (ws ++ [(a, .inr (1, [.ref b0, .int 0, .int 0, .int 0, .ref q5, .null, .null, .null])), (q5, .inl (G.2.1 0, 40, .inl fun _ => 0)), (q8, .inl (G.2.1 0, 40, .inl fun _ => 0))]) := X
  refine c_put (ty := (tyX1 5)) (i := 0) S X lk1_15_1 rfl (fun _ _ _ h => by cases h; exact ⟨Or.inr ⟨rfl, rfl, hnm⟩, tyX1_ok 5 (by decide)⟩) rfl rfl (Nat.le_of_ble_eq_true rfl) dX1_init_18 (fun H lc X => ?_)
  have X : Xc G s H lc (ws ++ [(a, .inr (1, [.ref b0, .int 0, .int 0, .int 0, .ref q5, .ref q8, .null, .null])), (q5, .inl (G.2.1 0, 40, .inl fun _ => 0)), (q8, .inl (G.2.1 0, 40, .inl fun _ => 0))]) := X
  refine lv_aload_n hx hb dX1_init_21 rfl (lv_at hl 0 rfl) ?_
  refine lv_bipush hx hb dX1_init_22 rfl (c_i (n := 40) (by decide) (fun v9 z10 => ?_))
  refine c_newa (atype := .int) (ty := .int) (t0 := 0) (N := 40) (a0 := (40, .inl fun _ => 0)) S X kc3 rfl rfl (fun _ => rfl) (by omega) (by decide) ⟨Nat.le_of_ble_eq_true rfl, Nat.le_of_ble_eq_true rfl⟩ dX1_init_24 (fun q11 H X => ?_)
  have X : Xc G s H lc (ws ++ [(a, .inr (1, [.ref b0, .int 0, .int 0, .int 0, .ref q5, .ref q8, .null, .null])), (q5, .inl (G.2.1 0, 40, .inl fun _ => 0)), (q8, .inl (G.2.1 0, 40, .inl fun _ => 0)), (q11, .inl (G.2.1 0, 40, .inl fun _ => 0))]) := X
  refine c_put (ty := (tyX1 6)) (i := 0) S X lk1_18_1 rfl (fun _ _ _ h => by cases h; exact ⟨Or.inr ⟨rfl, rfl, hnm⟩, tyX1_ok 6 (by decide)⟩) rfl rfl (Nat.le_of_ble_eq_true rfl) dX1_init_26 (fun H lc X => ?_)
  have X : Xc G s H lc (ws ++ [(a, .inr (1, [.ref b0, .int 0, .int 0, .int 0, .ref q5, .ref q8, .ref q11, .null])), (q5, .inl (G.2.1 0, 40, .inl fun _ => 0)), (q8, .inl (G.2.1 0, 40, .inl fun _ => 0)), (q11, .inl (G.2.1 0, 40, .inl fun _ => 0))]) := X
  refine lv_aload_n hx hb dX1_init_29 rfl (lv_at hl 0 rfl) ?_
  refine lv_bipush hx hb dX1_init_30 rfl (c_i (n := 40) (by decide) (fun v12 z13 => ?_))
  refine c_newa (atype := .int) (ty := .int) (t0 := 0) (N := 40) (a0 := (40, .inl fun _ => 0)) S X kc3 rfl rfl (fun _ => rfl) (by omega) (by decide) ⟨Nat.le_of_ble_eq_true rfl, Nat.le_of_ble_eq_true rfl⟩ dX1_init_32 (fun q14 H X => ?_)
  have X : Xc G s H lc (ws ++ [(a, .inr (1, [.ref b0, .int 0, .int 0, .int 0, .ref q5, .ref q8, .ref q11, .null])), (q5, .inl (G.2.1 0, 40, .inl fun _ => 0)), (q8, .inl (G.2.1 0, 40, .inl fun _ => 0)), (q11, .inl (G.2.1 0, 40, .inl fun _ => 0)), (q14, .inl (G.2.1 0, 40, .inl fun _ => 0))]) := X
  refine c_put (ty := (tyX1 7)) (i := 0) S X lk1_21_1 rfl (fun _ _ _ h => by cases h; exact ⟨Or.inr ⟨rfl, rfl, hnm⟩, tyX1_ok 7 (by decide)⟩) rfl rfl (Nat.le_of_ble_eq_true rfl) dX1_init_34 (fun H lc X => ?_)
  have X : Xc G s H lc (ws ++ [(a, .inr (1, [.ref b0, .int 0, .int 0, .int 0, .ref q5, .ref q8, .ref q11, .ref q14])), (q5, .inl (G.2.1 0, 40, .inl fun _ => 0)), (q8, .inl (G.2.1 0, 40, .inl fun _ => 0)), (q11, .inl (G.2.1 0, 40, .inl fun _ => 0)), (q14, .inl (G.2.1 0, 40, .inl fun _ => 0))]) := X
  exact c_vret S hr hlk X ⟨q5, q8, q11, q14, rfl⟩ dX1_init_37
set_option maxHeartbeats 8000000 in
set_option maxRecDepth 100000 in
theorem ci_X6 (l : Launch) (G : Gx) (ws : va_W) (a b0 : Nat) : Cc l G yX6_init cX6_init 2 2 61 5 165 [.ref a, .ref b0] (ws ++ [(a, .inr (6, [.null, .int 0, .int 0, .null, .int 0, .null]))]) (fun u => ∃ (q3 q6 q7 q8 q9 : Nat), u = ws ++ [(a, .inr (6, [.ref b0, .int 0, .int 0, .ref q3, .int 0, .null])), (q3, .inr (5, [.ref q6, .ref q7, .ref q8, .ref q9, .int 0])), (q6, .inl (G.2.1 4, 40, .inr (.inr (.inr (.inr fun _ => none))))), (q7, .inl (G.2.1 0, 40, .inl fun _ => 0)), (q8, .inl (G.2.1 0, 40, .inl fun _ => 0)), (q9, .inl (G.2.1 0, 40, .inl fun _ => 0))]) := by
  unfold Cc
  refine Cc_of (own := RX6) (by decide) rfl (Nat.le_of_ble_eq_true rfl) ?_
  intro p e s m below meth c ls S hr hlk hnm X hl
  have hx := S.1.1
  have hb := S.1.2.1
  obtain ⟨H, hH⟩ : ∃ z, z = s.heap := ⟨_, rfl⟩
  obtain ⟨lc, hlc⟩ : ∃ z : List Loc, z = [] := ⟨_, rfl⟩
  rw [← hH, ← hlc]
  rw [← hH, ← hlc] at X
  have hl : lv_has ls 2 [(0, .ref a), (1, .ref b0)] := hl
  refine lv_aload_n hx hb dX6_init_0 rfl (lv_at hl 0 rfl) ?_
  refine lv_aload_n hx hb dX6_init_1 rfl (lv_at hl 1 rfl) ?_
  have X : Xc G s H lc ((ws ++ []) ++ [(a, .inr (6, [.null, .int 0, .int 0, .null, .int 0, .null]))]) := by rw [List.append_assoc]; exact X
  refine c_kv (c_runI (As := [.ref b0]) (rest := []) S X (ci_X8_6 l G (ws ++ ([] : va_W)) a b0) ckiOpinionFerry_SentenceText_3 rfl ⟨Nat.le_of_ble_eq_true rfl, Nat.le_of_ble_eq_true rfl⟩ rfl hl.1 rfl (Nat.le_of_ble_eq_true rfl) dX6_init_2 ⟨Nat.le_of_ble_eq_true rfl, Nat.le_of_ble_eq_true rfl⟩) X (fun u1 H lc h2 X => ?_)
  subst h2
  rw [List.append_assoc] at X
  have X : Xc G s H lc (ws ++ [(a, .inr (6, [.ref b0, .int 0, .int 0, .null, .int 0, .null]))]) := X
  refine lv_aload_n hx hb dX6_init_5 rfl (lv_at hl 0 rfl) ?_
  refine c_new S X nw6_9 ⟨Nat.le_of_ble_eq_true rfl, Nat.le_of_ble_eq_true rfl⟩ dX6_init_6 (fun q3 H X => ?_)
  have X : Xc G s H lc (ws ++ [(a, .inr (6, [.ref b0, .int 0, .int 0, .null, .int 0, .null])), (q3, .inr (5, [.null, .null, .null, .null, .int 0]))]) := X
  refine lv_dup hx hb dX6_init_9 rfl ?_
  have X : Xc G s H lc ((ws ++ [(a, .inr (6, [.ref b0, .int 0, .int 0, .null, .int 0, .null]))]) ++ [(q3, .inr (5, [.null, .null, .null, .null, .int 0]))]) := by rw [List.append_assoc]; exact X
  refine c_kv (c_runJ (As := []) (rest := [.ref q3, .ref a]) S X (ci_X5 l G (ws ++ ([(a, .inr (6, [.ref b0, .int 0, .int 0, .null, .int 0, .null]))] : va_W)) q3) ckiOpinionFerry_SentenceText_11 rfl ⟨Nat.le_of_ble_eq_true rfl, Nat.le_of_ble_eq_true rfl⟩ rfl hl.1 rfl (Nat.le_of_ble_eq_true rfl) dX6_init_10 ⟨Nat.le_of_ble_eq_true rfl, Nat.le_of_ble_eq_true rfl⟩) X (fun u4 H lc h5 X => ?_)
  obtain ⟨q6, q7, q8, q9, rfl⟩ := h5
  rw [List.append_assoc] at X
  have X : Xc G s H lc (ws ++ [(a, .inr (6, [.ref b0, .int 0, .int 0, .null, .int 0, .null])), (q3, .inr (5, [.ref q6, .ref q7, .ref q8, .ref q9, .int 0])), (q6, .inl (G.2.1 4, 40, .inr (.inr (.inr (.inr fun _ => none))))), (q7, .inl (G.2.1 0, 40, .inl fun _ => 0)), (q8, .inl (G.2.1 0, 40, .inl fun _ => 0)), (q9, .inl (G.2.1 0, 40, .inl fun _ => 0))]) := X
  refine c_put (ty := (tyX6 3)) (i := 0) S X lk6_14_6 rfl (fun _ _ _ h => by cases h; exact ⟨Or.inr ⟨rfl, rfl, hnm⟩, tyX6_ok 3 (by decide)⟩) rfl rfl (Nat.le_of_ble_eq_true rfl) dX6_init_13 (fun H lc X => ?_)
  have X : Xc G s H lc (ws ++ [(a, .inr (6, [.ref b0, .int 0, .int 0, .ref q3, .int 0, .null])), (q3, .inr (5, [.ref q6, .ref q7, .ref q8, .ref q9, .int 0])), (q6, .inl (G.2.1 4, 40, .inr (.inr (.inr (.inr fun _ => none))))), (q7, .inl (G.2.1 0, 40, .inl fun _ => 0)), (q8, .inl (G.2.1 0, 40, .inl fun _ => 0)), (q9, .inl (G.2.1 0, 40, .inl fun _ => 0))]) := X
  exact c_vret S hr hlk X ⟨q3, q6, q7, q8, q9, rfl⟩ dX6_init_16
set_option maxHeartbeats 8000000 in
set_option maxRecDepth 100000 in
theorem ci_X10 (l : Launch) (G : Gx) (ws : va_W) (a : Nat) : Cc l G yX10_init cX10_init 1 3 80 17 526 [.ref a] (ws ++ [(a, .inr (8, [.null, .null, .null, .int 0]))]) (fun u => ∃ (q1 q4 q5 q6 q7 q8 q9 q10 q13 q14 q15 q16 q17 q20 q21 q22 q23 : Nat), u = ws ++ [(a, .inr (8, [.ref q1, .ref q10, .ref q17, .int 0])), (q1, .inr (2, [.int (4), .int (0), .int (0), .int (0), .int (0), .ref q4, .ref q5, .ref q6, .ref q7, .ref q8, .ref q9])), (q4, .inl (G.2.1 0, 10, .inl fun _ => 0)), (q5, .inl (G.2.1 0, 10, .inl (flf 10 (-1) (fun _ => 0)))), (q6, .inl (G.2.1 0, 10, .inl (flf 10 (0) (fun _ => 0)))), (q7, .inl (G.2.1 0, 90, .inl (flf 90 (0) (fun _ => 0)))), (q8, .inl (G.2.1 1, 9, .inr (.inl fun _ => 0))), (q9, .inl (G.2.1 1, 10, .inr (.inl fun _ => 0))), (q10, .inr (3, [.ref q13, .ref q14, .ref q15, .ref q16, .int 0, .int 0, .int 0, .int 0, .int (-1), .int 0, .int 0])), (q13, .inl (G.2.1 0, 90, .inl fun _ => 0)), (q14, .inl (G.2.1 0, 90, .inl fun _ => 0)), (q15, .inl (G.2.1 0, 10, .inl fun _ => 0)), (q16, .inl (G.2.1 0, 10, .inl fun _ => 0)), (q17, .inr (5, [.ref q20, .ref q21, .ref q22, .ref q23, .int 0])), (q20, .inl (G.2.1 4, 40, .inr (.inr (.inr (.inr fun _ => none))))), (q21, .inl (G.2.1 0, 40, .inl fun _ => 0)), (q22, .inl (G.2.1 0, 40, .inl fun _ => 0)), (q23, .inl (G.2.1 0, 40, .inl fun _ => 0))]) := by
  unfold Cc
  refine Cc_of (own := RX10) (by decide) rfl (Nat.le_of_ble_eq_true rfl) ?_
  intro p e s m below meth c ls S hr hlk hnm X hl
  have hx := S.1.1
  have hb := S.1.2.1
  obtain ⟨H, hH⟩ : ∃ z, z = s.heap := ⟨_, rfl⟩
  obtain ⟨lc, hlc⟩ : ∃ z : List Loc, z = [] := ⟨_, rfl⟩
  rw [← hH, ← hlc]
  rw [← hH, ← hlc] at X
  have hl : lv_has ls 1 [(0, .ref a)] := hl
  refine lv_aload_n hx hb dX10_init_0 rfl (lv_at hl 0 rfl) ?_
  refine c_obj S kc11 kc1 kc_ob hl.1 ⟨Nat.le_of_ble_eq_true rfl, Nat.le_of_ble_eq_true rfl⟩ dX10_init_1 ?_
  refine lv_aload_n hx hb dX10_init_4 rfl (lv_at hl 0 rfl) ?_
  refine c_new S X nw10_9 ⟨Nat.le_of_ble_eq_true rfl, Nat.le_of_ble_eq_true rfl⟩ dX10_init_5 (fun q1 H X => ?_)
  have X : Xc G s H lc (ws ++ [(a, .inr (8, [.null, .null, .null, .int 0])), (q1, .inr (2, [.int 0, .int 0, .int 0, .int 0, .int 0, .null, .null, .null, .null, .null, .null]))]) := X
  refine lv_dup hx hb dX10_init_8 rfl ?_
  have X : Xc G s H lc ((ws ++ [(a, .inr (8, [.null, .null, .null, .int 0]))]) ++ [(q1, .inr (2, [.int 0, .int 0, .int 0, .int 0, .int 0, .null, .null, .null, .null, .null, .null]))]) := by rw [List.append_assoc]; exact X
  refine c_kv (c_runI (As := []) (rest := [.ref q1, .ref a]) S X (ci_X2 l G (ws ++ ([(a, .inr (8, [.null, .null, .null, .int 0]))] : va_W)) q1) ckiOpinionFerry_World_11 rfl ⟨Nat.le_of_ble_eq_true rfl, Nat.le_of_ble_eq_true rfl⟩ rfl hl.1 rfl (Nat.le_of_ble_eq_true rfl) dX10_init_9 ⟨Nat.le_of_ble_eq_true rfl, Nat.le_of_ble_eq_true rfl⟩) X (fun u2 H lc h3 X => ?_)
  obtain ⟨q4, q5, q6, q7, q8, q9, rfl⟩ := h3
  rw [List.append_assoc] at X
  have X : Xc G s H lc (ws ++ [(a, .inr (8, [.null, .null, .null, .int 0])), (q1, .inr (2, [.int (4), .int (0), .int (0), .int (0), .int (0), .ref q4, .ref q5, .ref q6, .ref q7, .ref q8, .ref q9])), (q4, .inl (G.2.1 0, 10, .inl fun _ => 0)), (q5, .inl (G.2.1 0, 10, .inl (flf 10 (-1) (fun _ => 0)))), (q6, .inl (G.2.1 0, 10, .inl (flf 10 (0) (fun _ => 0)))), (q7, .inl (G.2.1 0, 90, .inl (flf 90 (0) (fun _ => 0)))), (q8, .inl (G.2.1 1, 9, .inr (.inl fun _ => 0))), (q9, .inl (G.2.1 1, 10, .inr (.inl fun _ => 0)))]) := X
  refine c_put (ty := (tyX10 0)) (i := 0) S X lk10_12_8 rfl (fun _ _ _ h => by cases h; exact ⟨Or.inr ⟨rfl, rfl, hnm⟩, tyX10_ok 0 (by decide)⟩) rfl rfl (Nat.le_of_ble_eq_true rfl) dX10_init_12 (fun H lc X => ?_)
  have X : Xc G s H lc (ws ++ [(a, .inr (8, [.ref q1, .null, .null, .int 0])), (q1, .inr (2, [.int (4), .int (0), .int (0), .int (0), .int (0), .ref q4, .ref q5, .ref q6, .ref q7, .ref q8, .ref q9])), (q4, .inl (G.2.1 0, 10, .inl fun _ => 0)), (q5, .inl (G.2.1 0, 10, .inl (flf 10 (-1) (fun _ => 0)))), (q6, .inl (G.2.1 0, 10, .inl (flf 10 (0) (fun _ => 0)))), (q7, .inl (G.2.1 0, 90, .inl (flf 90 (0) (fun _ => 0)))), (q8, .inl (G.2.1 1, 9, .inr (.inl fun _ => 0))), (q9, .inl (G.2.1 1, 10, .inr (.inl fun _ => 0)))]) := X
  refine lv_aload_n hx hb dX10_init_15 rfl (lv_at hl 0 rfl) ?_
  refine c_new S X nw10_18 ⟨Nat.le_of_ble_eq_true rfl, Nat.le_of_ble_eq_true rfl⟩ dX10_init_16 (fun q10 H X => ?_)
  have X : Xc G s H lc (ws ++ [(a, .inr (8, [.ref q1, .null, .null, .int 0])), (q1, .inr (2, [.int (4), .int (0), .int (0), .int (0), .int (0), .ref q4, .ref q5, .ref q6, .ref q7, .ref q8, .ref q9])), (q4, .inl (G.2.1 0, 10, .inl fun _ => 0)), (q5, .inl (G.2.1 0, 10, .inl (flf 10 (-1) (fun _ => 0)))), (q6, .inl (G.2.1 0, 10, .inl (flf 10 (0) (fun _ => 0)))), (q7, .inl (G.2.1 0, 90, .inl (flf 90 (0) (fun _ => 0)))), (q8, .inl (G.2.1 1, 9, .inr (.inl fun _ => 0))), (q9, .inl (G.2.1 1, 10, .inr (.inl fun _ => 0))), (q10, .inr (3, [.null, .null, .null, .null, .int 0, .int 0, .int 0, .int 0, .int 0, .int 0, .int 0]))]) := X
  refine lv_dup hx hb dX10_init_19 rfl ?_
  have X : Xc G s H lc ((ws ++ [(a, .inr (8, [.ref q1, .null, .null, .int 0])), (q1, .inr (2, [.int (4), .int (0), .int (0), .int (0), .int (0), .ref q4, .ref q5, .ref q6, .ref q7, .ref q8, .ref q9])), (q4, .inl (G.2.1 0, 10, .inl fun _ => 0)), (q5, .inl (G.2.1 0, 10, .inl (flf 10 (-1) (fun _ => 0)))), (q6, .inl (G.2.1 0, 10, .inl (flf 10 (0) (fun _ => 0)))), (q7, .inl (G.2.1 0, 90, .inl (flf 90 (0) (fun _ => 0)))), (q8, .inl (G.2.1 1, 9, .inr (.inl fun _ => 0))), (q9, .inl (G.2.1 1, 10, .inr (.inl fun _ => 0)))]) ++ [(q10, .inr (3, [.null, .null, .null, .null, .int 0, .int 0, .int 0, .int 0, .int 0, .int 0, .int 0]))]) := by rw [List.append_assoc]; exact X
  refine c_kv (c_runJ (As := []) (rest := [.ref q10, .ref a]) S X (ci_X3 l G (ws ++ ([(a, .inr (8, [.ref q1, .null, .null, .int 0])), (q1, .inr (2, [.int (4), .int (0), .int (0), .int (0), .int (0), .ref q4, .ref q5, .ref q6, .ref q7, .ref q8, .ref q9])), (q4, .inl (G.2.1 0, 10, .inl fun _ => 0)), (q5, .inl (G.2.1 0, 10, .inl (flf 10 (-1) (fun _ => 0)))), (q6, .inl (G.2.1 0, 10, .inl (flf 10 (0) (fun _ => 0)))), (q7, .inl (G.2.1 0, 90, .inl (flf 90 (0) (fun _ => 0)))), (q8, .inl (G.2.1 1, 9, .inr (.inl fun _ => 0))), (q9, .inl (G.2.1 1, 10, .inr (.inl fun _ => 0)))] : va_W)) q10) ckiOpinionFerry_World_20 rfl ⟨Nat.le_of_ble_eq_true rfl, Nat.le_of_ble_eq_true rfl⟩ rfl hl.1 rfl (Nat.le_of_ble_eq_true rfl) dX10_init_20 ⟨Nat.le_of_ble_eq_true rfl, Nat.le_of_ble_eq_true rfl⟩) X (fun u11 H lc h12 X => ?_)
  obtain ⟨q13, q14, q15, q16, rfl⟩ := h12
  rw [List.append_assoc] at X
  have X : Xc G s H lc (ws ++ [(a, .inr (8, [.ref q1, .null, .null, .int 0])), (q1, .inr (2, [.int (4), .int (0), .int (0), .int (0), .int (0), .ref q4, .ref q5, .ref q6, .ref q7, .ref q8, .ref q9])), (q4, .inl (G.2.1 0, 10, .inl fun _ => 0)), (q5, .inl (G.2.1 0, 10, .inl (flf 10 (-1) (fun _ => 0)))), (q6, .inl (G.2.1 0, 10, .inl (flf 10 (0) (fun _ => 0)))), (q7, .inl (G.2.1 0, 90, .inl (flf 90 (0) (fun _ => 0)))), (q8, .inl (G.2.1 1, 9, .inr (.inl fun _ => 0))), (q9, .inl (G.2.1 1, 10, .inr (.inl fun _ => 0))), (q10, .inr (3, [.ref q13, .ref q14, .ref q15, .ref q16, .int 0, .int 0, .int 0, .int 0, .int (-1), .int 0, .int 0])), (q13, .inl (G.2.1 0, 90, .inl fun _ => 0)), (q14, .inl (G.2.1 0, 90, .inl fun _ => 0)), (q15, .inl (G.2.1 0, 10, .inl fun _ => 0)), (q16, .inl (G.2.1 0, 10, .inl fun _ => 0))]) := X
  refine c_put (ty := (tyX10 1)) (i := 0) S X lk10_21_8 rfl (fun _ _ _ h => by cases h; exact ⟨Or.inr ⟨rfl, rfl, hnm⟩, tyX10_ok 1 (by decide)⟩) rfl rfl (Nat.le_of_ble_eq_true rfl) dX10_init_23 (fun H lc X => ?_)
  have X : Xc G s H lc (ws ++ [(a, .inr (8, [.ref q1, .ref q10, .null, .int 0])), (q1, .inr (2, [.int (4), .int (0), .int (0), .int (0), .int (0), .ref q4, .ref q5, .ref q6, .ref q7, .ref q8, .ref q9])), (q4, .inl (G.2.1 0, 10, .inl fun _ => 0)), (q5, .inl (G.2.1 0, 10, .inl (flf 10 (-1) (fun _ => 0)))), (q6, .inl (G.2.1 0, 10, .inl (flf 10 (0) (fun _ => 0)))), (q7, .inl (G.2.1 0, 90, .inl (flf 90 (0) (fun _ => 0)))), (q8, .inl (G.2.1 1, 9, .inr (.inl fun _ => 0))), (q9, .inl (G.2.1 1, 10, .inr (.inl fun _ => 0))), (q10, .inr (3, [.ref q13, .ref q14, .ref q15, .ref q16, .int 0, .int 0, .int 0, .int 0, .int (-1), .int 0, .int 0])), (q13, .inl (G.2.1 0, 90, .inl fun _ => 0)), (q14, .inl (G.2.1 0, 90, .inl fun _ => 0)), (q15, .inl (G.2.1 0, 10, .inl fun _ => 0)), (q16, .inl (G.2.1 0, 10, .inl fun _ => 0))]) := X
  refine lv_aload_n hx hb dX10_init_26 rfl (lv_at hl 0 rfl) ?_
  refine c_new S X nw10_25 ⟨Nat.le_of_ble_eq_true rfl, Nat.le_of_ble_eq_true rfl⟩ dX10_init_27 (fun q17 H X => ?_)
  have X : Xc G s H lc (ws ++ [(a, .inr (8, [.ref q1, .ref q10, .null, .int 0])), (q1, .inr (2, [.int (4), .int (0), .int (0), .int (0), .int (0), .ref q4, .ref q5, .ref q6, .ref q7, .ref q8, .ref q9])), (q4, .inl (G.2.1 0, 10, .inl fun _ => 0)), (q5, .inl (G.2.1 0, 10, .inl (flf 10 (-1) (fun _ => 0)))), (q6, .inl (G.2.1 0, 10, .inl (flf 10 (0) (fun _ => 0)))), (q7, .inl (G.2.1 0, 90, .inl (flf 90 (0) (fun _ => 0)))), (q8, .inl (G.2.1 1, 9, .inr (.inl fun _ => 0))), (q9, .inl (G.2.1 1, 10, .inr (.inl fun _ => 0))), (q10, .inr (3, [.ref q13, .ref q14, .ref q15, .ref q16, .int 0, .int 0, .int 0, .int 0, .int (-1), .int 0, .int 0])), (q13, .inl (G.2.1 0, 90, .inl fun _ => 0)), (q14, .inl (G.2.1 0, 90, .inl fun _ => 0)), (q15, .inl (G.2.1 0, 10, .inl fun _ => 0)), (q16, .inl (G.2.1 0, 10, .inl fun _ => 0)), (q17, .inr (5, [.null, .null, .null, .null, .int 0]))]) := X
  refine lv_dup hx hb dX10_init_30 rfl ?_
  have X : Xc G s H lc ((ws ++ [(a, .inr (8, [.ref q1, .ref q10, .null, .int 0])), (q1, .inr (2, [.int (4), .int (0), .int (0), .int (0), .int (0), .ref q4, .ref q5, .ref q6, .ref q7, .ref q8, .ref q9])), (q4, .inl (G.2.1 0, 10, .inl fun _ => 0)), (q5, .inl (G.2.1 0, 10, .inl (flf 10 (-1) (fun _ => 0)))), (q6, .inl (G.2.1 0, 10, .inl (flf 10 (0) (fun _ => 0)))), (q7, .inl (G.2.1 0, 90, .inl (flf 90 (0) (fun _ => 0)))), (q8, .inl (G.2.1 1, 9, .inr (.inl fun _ => 0))), (q9, .inl (G.2.1 1, 10, .inr (.inl fun _ => 0))), (q10, .inr (3, [.ref q13, .ref q14, .ref q15, .ref q16, .int 0, .int 0, .int 0, .int 0, .int (-1), .int 0, .int 0])), (q13, .inl (G.2.1 0, 90, .inl fun _ => 0)), (q14, .inl (G.2.1 0, 90, .inl fun _ => 0)), (q15, .inl (G.2.1 0, 10, .inl fun _ => 0)), (q16, .inl (G.2.1 0, 10, .inl fun _ => 0))]) ++ [(q17, .inr (5, [.null, .null, .null, .null, .int 0]))]) := by rw [List.append_assoc]; exact X
  refine c_kv (c_runJ (As := []) (rest := [.ref q17, .ref a]) S X (ci_X5 l G (ws ++ ([(a, .inr (8, [.ref q1, .ref q10, .null, .int 0])), (q1, .inr (2, [.int (4), .int (0), .int (0), .int (0), .int (0), .ref q4, .ref q5, .ref q6, .ref q7, .ref q8, .ref q9])), (q4, .inl (G.2.1 0, 10, .inl fun _ => 0)), (q5, .inl (G.2.1 0, 10, .inl (flf 10 (-1) (fun _ => 0)))), (q6, .inl (G.2.1 0, 10, .inl (flf 10 (0) (fun _ => 0)))), (q7, .inl (G.2.1 0, 90, .inl (flf 90 (0) (fun _ => 0)))), (q8, .inl (G.2.1 1, 9, .inr (.inl fun _ => 0))), (q9, .inl (G.2.1 1, 10, .inr (.inl fun _ => 0))), (q10, .inr (3, [.ref q13, .ref q14, .ref q15, .ref q16, .int 0, .int 0, .int 0, .int 0, .int (-1), .int 0, .int 0])), (q13, .inl (G.2.1 0, 90, .inl fun _ => 0)), (q14, .inl (G.2.1 0, 90, .inl fun _ => 0)), (q15, .inl (G.2.1 0, 10, .inl fun _ => 0)), (q16, .inl (G.2.1 0, 10, .inl fun _ => 0))] : va_W)) q17) ckiOpinionFerry_World_27 rfl ⟨Nat.le_of_ble_eq_true rfl, Nat.le_of_ble_eq_true rfl⟩ rfl hl.1 rfl (Nat.le_of_ble_eq_true rfl) dX10_init_31 ⟨Nat.le_of_ble_eq_true rfl, Nat.le_of_ble_eq_true rfl⟩) X (fun u18 H lc h19 X => ?_)
  obtain ⟨q20, q21, q22, q23, rfl⟩ := h19
  rw [List.append_assoc] at X
  have X : Xc G s H lc (ws ++ [(a, .inr (8, [.ref q1, .ref q10, .null, .int 0])), (q1, .inr (2, [.int (4), .int (0), .int (0), .int (0), .int (0), .ref q4, .ref q5, .ref q6, .ref q7, .ref q8, .ref q9])), (q4, .inl (G.2.1 0, 10, .inl fun _ => 0)), (q5, .inl (G.2.1 0, 10, .inl (flf 10 (-1) (fun _ => 0)))), (q6, .inl (G.2.1 0, 10, .inl (flf 10 (0) (fun _ => 0)))), (q7, .inl (G.2.1 0, 90, .inl (flf 90 (0) (fun _ => 0)))), (q8, .inl (G.2.1 1, 9, .inr (.inl fun _ => 0))), (q9, .inl (G.2.1 1, 10, .inr (.inl fun _ => 0))), (q10, .inr (3, [.ref q13, .ref q14, .ref q15, .ref q16, .int 0, .int 0, .int 0, .int 0, .int (-1), .int 0, .int 0])), (q13, .inl (G.2.1 0, 90, .inl fun _ => 0)), (q14, .inl (G.2.1 0, 90, .inl fun _ => 0)), (q15, .inl (G.2.1 0, 10, .inl fun _ => 0)), (q16, .inl (G.2.1 0, 10, .inl fun _ => 0)), (q17, .inr (5, [.ref q20, .ref q21, .ref q22, .ref q23, .int 0])), (q20, .inl (G.2.1 4, 40, .inr (.inr (.inr (.inr fun _ => none))))), (q21, .inl (G.2.1 0, 40, .inl fun _ => 0)), (q22, .inl (G.2.1 0, 40, .inl fun _ => 0)), (q23, .inl (G.2.1 0, 40, .inl fun _ => 0))]) := X
  refine c_put (ty := (tyX10 2)) (i := 0) S X lk10_28_8 rfl (fun _ _ _ h => by cases h; exact ⟨Or.inr ⟨rfl, rfl, hnm⟩, tyX10_ok 2 (by decide)⟩) rfl rfl (Nat.le_of_ble_eq_true rfl) dX10_init_34 (fun H lc X => ?_)
  have X : Xc G s H lc (ws ++ [(a, .inr (8, [.ref q1, .ref q10, .ref q17, .int 0])), (q1, .inr (2, [.int (4), .int (0), .int (0), .int (0), .int (0), .ref q4, .ref q5, .ref q6, .ref q7, .ref q8, .ref q9])), (q4, .inl (G.2.1 0, 10, .inl fun _ => 0)), (q5, .inl (G.2.1 0, 10, .inl (flf 10 (-1) (fun _ => 0)))), (q6, .inl (G.2.1 0, 10, .inl (flf 10 (0) (fun _ => 0)))), (q7, .inl (G.2.1 0, 90, .inl (flf 90 (0) (fun _ => 0)))), (q8, .inl (G.2.1 1, 9, .inr (.inl fun _ => 0))), (q9, .inl (G.2.1 1, 10, .inr (.inl fun _ => 0))), (q10, .inr (3, [.ref q13, .ref q14, .ref q15, .ref q16, .int 0, .int 0, .int 0, .int 0, .int (-1), .int 0, .int 0])), (q13, .inl (G.2.1 0, 90, .inl fun _ => 0)), (q14, .inl (G.2.1 0, 90, .inl fun _ => 0)), (q15, .inl (G.2.1 0, 10, .inl fun _ => 0)), (q16, .inl (G.2.1 0, 10, .inl fun _ => 0)), (q17, .inr (5, [.ref q20, .ref q21, .ref q22, .ref q23, .int 0])), (q20, .inl (G.2.1 4, 40, .inr (.inr (.inr (.inr fun _ => none))))), (q21, .inl (G.2.1 0, 40, .inl fun _ => 0)), (q22, .inl (G.2.1 0, 40, .inl fun _ => 0)), (q23, .inl (G.2.1 0, 40, .inl fun _ => 0))]) := X
  exact c_vret S hr hlk X ⟨q1, q4, q5, q6, q7, q8, q9, q10, q13, q14, q15, q16, q17, q20, q21, q22, q23, rfl⟩ dX10_init_37
