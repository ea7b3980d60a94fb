def po_X5_add (τ : Tau)  (a1 a2 : Int32)   (u : Tau) : Prop := Inv u ∧ Fr [(17, 4)] [18, 19, 20] τ u ∧ YT u
set_option maxHeartbeats 4000000 in
set_option maxRecDepth 100000 in
theorem c_X5_add (l : Launch) (G : Gx) (τ : Tau) (hI : Inv τ) (a0 : Nat) (h_a0 : a0 < 24) (a1 : Int32) (a2 : Int32) (h_a1 : R (-2147483648) (2147483647) a1) (h_a2 : R (0) (99) a2) (hYT : YT τ) (hp_0 : (a0 = 4 ∨ a0 = 5 → a2.toInt ≤ 8)) : Cv l G yX5_add cX5_add 4 0 0 [.ref (G.2.2.2.1 17), .ref (G.2.2.1 a0), .int a1, .int a2] τ (po_X5_add τ  a1 a2  ) := by
  unfold Cv
  refine C_of (own := RX5) (by decide) rfl (Nat.le_of_ble_eq_true rfl) ?_
  intro p e s m below meth c ls S hr hlk X hl
  have hl : lv_has ls 4 [(0, .ref (G.2.2.2.1 17)), (1, .ref (G.2.2.1 a0)), (2, .int a1), (3, .int a2)] := hl
  refine r_aload_n S dX5_add_0 rfl (lv_at hl 0 rfl) ?_
  refine r_getn (K := 17) S X (Nat.le_of_ble_eq_true rfl) rfl lk5_27_5 (fun _ => ⟨_, rfl, rfl⟩) dX5_add_1 (fun v1 z2 => ?_)
  have r3 : R (0) (40) v1 := rd hI rfl z2
  refine r_bipush S dX5_add_4 (by decide) (fun v4 z5 => ?_)
  have r6 := R_eq z5
  refine r_icmp_ge (tgt := 49) S dX5_add_6 (by decide) (fun c7 => ?_) (fun c7 => ?_)
  ·
    have r8 : R (40) (40) v1 := ⟨by omega, by omega⟩
    exact r_vret S hr hlk X ⟨hI, Fr_rfl, hYT⟩ dX5_add_49
  ·
    have r9 : R (0) (39) v1 := ⟨by omega, by omega⟩
    refine r_aload_n S dX5_add_9 rfl (lv_at hl 0 rfl) ?_
    refine r_get (K := 17) (v := .ref (G.2.2.2.1 18)) S X (Nat.le_of_ble_eq_true rfl) rfl lk5_13_5 (fun _ => ⟨_, rfl, rfl⟩) dX5_add_10 ?_
    refine r_aload_n S dX5_add_13 rfl (lv_at hl 0 rfl) ?_
    refine r_geti (K := 17) S X (Nat.le_of_ble_eq_true rfl) rfl lk5_27_5 (fun _ => ⟨_, rfl, rfl⟩) z2 dX5_add_14 ?_
    refine r_aload_n S dX5_add_17 rfl (lv_at hl 1 rfl) ?_
    obtain ⟨y10, h11, r12⟩ := wx_c a0 h_a0
    refine r_castc (n := 40) (K := 18) S X (Nat.le_of_ble_eq_true rfl) rfl (fun _ _ => rfl) (ix_of r9 rfl) h11 r12 dX5_add_18 (fun t13 H lc M14 X15 => ?_)
    have I16 := Inv_mu hI M14 (show Rg (kd 18) _ y10 from r12)
    have F17 : Fr [(17, 4)] [18, 19, 20] τ t13 := Fr_cell Fr_rfl M14 (by decide)
    refine r_aload_n S dX5_add_19 rfl (lv_at hl 0 rfl) ?_
    refine r_get (K := 17) (v := .ref (G.2.2.2.1 20)) S X15 (Nat.le_of_ble_eq_true rfl) rfl lk5_21_5 (fun _ => ⟨_, rfl, rfl⟩) dX5_add_20 ?_
    refine r_aload_n S dX5_add_23 rfl (lv_at hl 0 rfl) ?_
    refine r_geti (K := 17) S X15 (Nat.le_of_ble_eq_true rfl) rfl lk5_27_5 (fun _ => ⟨_, rfl, rfl⟩) ((M14.2 17 4 (Or.inl (by decide))).trans z2) dX5_add_24 ?_
    refine r_iload_n S dX5_add_27 rfl (lv_at hl 2 rfl) ?_
    refine r_ast (n := 40) (K := 20) S X15 (Nat.le_of_ble_eq_true rfl) rfl (fun _ _ => rfl) (ix_of r9 rfl) dX5_add_28 (fun t18 H lc M19 X20 => ?_)
    have I21 := Inv_mu I16 M19 (R_any a1)
    have F22 : Fr [(17, 4)] [18, 19, 20] τ t18 := Fr_cell F17 M19 (by decide)
    refine r_aload_n S dX5_add_29 rfl (lv_at hl 0 rfl) ?_
    refine r_get (K := 17) (v := .ref (G.2.2.2.1 19)) S X20 (Nat.le_of_ble_eq_true rfl) rfl lk5_17_5 (fun _ => ⟨_, rfl, rfl⟩) dX5_add_30 ?_
    refine r_aload_n S dX5_add_33 rfl (lv_at hl 0 rfl) ?_
    refine r_geti (K := 17) S X20 (Nat.le_of_ble_eq_true rfl) rfl lk5_27_5 (fun _ => ⟨_, rfl, rfl⟩) ((M19.2 17 4 (Or.inl (by decide))).trans ((M14.2 17 4 (Or.inl (by decide))).trans z2)) dX5_add_34 ?_
    refine r_iload_n S dX5_add_37 rfl (lv_at hl 3 rfl) ?_
    refine r_ast (n := 40) (K := 19) S X20 (Nat.le_of_ble_eq_true rfl) rfl (fun _ _ => rfl) (ix_of r9 rfl) dX5_add_38 (fun t23 H lc M24 X25 => ?_)
    have I26 := Inv_mu I21 M24 (show Rg (kd 19) _ a2 from (R_of (lo := 0) (hi := 99) h_a2 rfl))
    have F27 : Fr [(17, 4)] [18, 19, 20] τ t23 := Fr_cell F22 M24 (by decide)
    refine r_aload_n S dX5_add_39 rfl (lv_at hl 0 rfl) ?_
    refine r_dup S dX5_add_40 rfl ?_
    refine r_geti (K := 17) S X25 (Nat.le_of_ble_eq_true rfl) rfl lk5_27_5 (fun _ => ⟨_, rfl, rfl⟩) ((M24.2 17 4 (Or.inl (by decide))).trans ((M19.2 17 4 (Or.inl (by decide))).trans ((M14.2 17 4 (Or.inl (by decide))).trans z2))) dX5_add_41 ?_
    refine r_iconst S dX5_add_44 (by decide) (fun v28 z29 => ?_)
    have r30 := R_eq z29
    refine r_iadd S dX5_add_45 (fun v31 z32 => ?_)
    obtain ⟨e33, r34⟩ := i_add (lo := 1) (hi := 40) z32 r9 r30 rfl
    refine r_put (K := 17) (ty := .int) S X25 (Nat.le_of_ble_eq_true rfl) rfl lk5_27_5 (fun _ => ⟨_, rfl, Nat.le_of_ble_eq_true rfl, rfl⟩) (fun _ _ _ h => by cases h; exact ⟨rfl, rfl⟩) rfl rfl dX5_add_46 (fun t35 H lc M36 X37 => ?_)
    have I38 := Inv_mu I26 M36 (show Rg (kd 17) 4 v31 from (R_of (lo := 0) (hi := 40) r34 rfl))
    have F39 : Fr [(17, 4)] [18, 19, 20] τ t35 := Fr_mu F27 M36 (by decide)
    exact r_vret S hr hlk X37 ⟨I38, F39, (YD_put (k := 17) hYT (fun j hj => ((M36.2 18 j (Or.inl (by decide))).trans ((M24.2 18 j (Or.inl (by decide))).trans ((M19.2 18 j (Or.inl (by decide))).trans ((M14.2 18 j (Or.inr hj)).trans rfl))))) (fun j hj => ((M36.2 19 j (Or.inl (by decide))).trans ((M24.2 19 j (Or.inr hj)).trans ((M19.2 19 j (Or.inl (by decide))).trans ((M14.2 19 j (Or.inl (by decide))).trans rfl))))) (((M36.2 18 v1.toNatClampNeg (Or.inl (by decide))).trans ((M24.2 18 v1.toNatClampNeg (Or.inl (by decide))).trans ((M19.2 18 v1.toNatClampNeg (Or.inl (by decide))).trans rfl))).trans M14.1) (((M36.2 19 v1.toNatClampNeg (Or.inl (by decide))).trans rfl).trans M24.1) (by intro h; have q := h11; have r := hp_0 (by omega); omega))⟩ dX5_add_49
def po_sncopy_35_17 (τ : Tau)     (u : Tau) : Prop := Inv u ∧ Fr [(35, 4)] [36, 37, 38] τ u ∧ YW u
set_option maxHeartbeats 4000000 in
set_option maxRecDepth 100000 in
theorem c_sncopy_35_17 (l : Launch) (G : Gx) (τ : Tau) (hI : Inv τ) (hYW : YW τ) (hYT : YT τ) : Cv l G yX5_copyFrom cX5_copyFrom 3 0 0 [.ref (G.2.2.2.1 35), .ref (G.2.2.2.1 17)] τ (po_sncopy_35_17 τ    ) := by
  unfold Cv
  refine C_of (own := RX5) (by decide) rfl (Nat.le_of_ble_eq_true rfl) ?_
  intro p e s m below meth c ls S hr hlk X hl
  have hl : lv_has ls 3 [(0, .ref (G.2.2.2.1 35)), (1, .ref (G.2.2.2.1 17))] := hl
  refine r_aload_n S dX5_copyFrom_0 rfl (lv_at hl 0 rfl) ?_
  refine r_aload_n S dX5_copyFrom_1 rfl (lv_at hl 1 rfl) ?_
  refine r_getn (K := 17) S X (Nat.le_of_ble_eq_true rfl) rfl lk5_27_5 (fun _ => ⟨_, rfl, rfl⟩) dX5_copyFrom_2 (fun v1 z2 => ?_)
  have r3 : R (0) (40) v1 := rd hI rfl z2
  refine r_put (K := 17) (ty := .int) S X (Nat.le_of_ble_eq_true rfl) rfl lk5_27_5 (fun _ => ⟨_, rfl, Nat.le_of_ble_eq_true rfl, rfl⟩) (fun _ _ _ h => by cases h; exact ⟨rfl, rfl⟩) rfl rfl dX5_copyFrom_5 (fun t4 H lc M5 X6 => ?_)
  have I7 := Inv_mu hI M5 (show Rg (kd 35) 4 v1 from (R_of (lo := 0) (hi := 40) r3 rfl))
  have F8 : Fr [(35, 4)] [36, 37, 38] τ t4 := Fr_mu Fr_rfl M5 (by decide)
  refine r_iconst S dX5_copyFrom_8 (by decide) (fun v9 z10 => ?_)
  have r11 := R_eq z10
  refine r_istore_n (lv' := [(2, .int v9), (0, .ref (G.2.2.2.1 35)), (1, .ref (G.2.2.2.1 17))]) S dX5_copyFrom_9 rfl hl (by decide) rfl (fun ls hl => ?_)
  have L990 : ∀ (n : Nat) (t983 : Tau) (H : Heap) (lc : List Loc) (ls : Array Slot) (i981 : Int32), Xd G s H lc t983 → Inv t983 → Fr [(35, 4)] [36, 37, 38] τ t983 → YT t983 → R (0) (40) i981 → t983 17 4 = v1 → t983 35 4 = v1 → YW t983 → lv_has ls 3 [(0, .ref (G.2.2.2.1 35)), (1, .ref (G.2.2.2.1 17)), (2, .int i981)] → (40 - i981.toInt).toNat < n → W p l e (Rm 0 0) s m ([.ref (G.2.2.2.1 35), .ref (G.2.2.2.1 17)] : List Value).toArray below meth c H lc 0 0 (MQ below (va_Qv (po_sncopy_35_17 τ    ) (Bs G) G.2.2.2.2) ([.ref (G.2.2.2.1 35), .ref (G.2.2.2.1 17)] : List Value).toArray s 0 0 G.2.2.2.2) (F0 m 10 ls []) := by
    intro n
    induction n with
    | zero => intros; omega
    | succ n ih992 =>
      intro t983 H lc ls i981 X987 I984 F985 hYT986 r982 z988 z989 x991 hl hm
      refine r_iload_n S dX5_copyFrom_10 rfl (lv_at hl 2 rfl) ?_
      refine r_aload_n S dX5_copyFrom_11 rfl (lv_at hl 0 rfl) ?_
      refine r_geti (K := 17) S X987 (Nat.le_of_ble_eq_true rfl) rfl lk5_27_5 (fun _ => ⟨_, rfl, rfl⟩) z989 dX5_copyFrom_12 ?_
      refine r_icmp_ge (tgt := 60) S dX5_copyFrom_15 (by decide) (fun c993 => ?_) (fun c993 => ?_)
      ·
        exact r_vret S hr hlk X987 ⟨I984, F985, x991⟩ dX5_copyFrom_60
      ·
        have r994 : R (0) (39) i981 := ⟨by omega, by omega⟩
        have r995 : R (1) (40) v1 := ⟨by omega, by omega⟩
        refine r_aload_n S dX5_copyFrom_18 rfl (lv_at hl 0 rfl) ?_
        refine r_get (K := 17) (v := .ref (G.2.2.2.1 36)) S X987 (Nat.le_of_ble_eq_true rfl) rfl lk5_13_5 (fun _ => ⟨_, rfl, rfl⟩) dX5_copyFrom_19 ?_
        refine r_iload_n S dX5_copyFrom_22 rfl (lv_at hl 2 rfl) ?_
        refine r_aload_n S dX5_copyFrom_23 rfl (lv_at hl 1 rfl) ?_
        refine r_get (K := 17) (v := .ref (G.2.2.2.1 18)) S X987 (Nat.le_of_ble_eq_true rfl) rfl lk5_13_5 (fun _ => ⟨_, rfl, rfl⟩) dX5_copyFrom_24 ?_
        refine r_iload_n S dX5_copyFrom_27 rfl (lv_at hl 2 rfl) ?_
        refine r_wald2 (n := 40) (K := 18) S X987 (Nat.le_of_ble_eq_true rfl) rfl (fun _ => rfl) (ix_of r994 rfl) (fun _ z => rd I984 rfl z) dX5_copyFrom_28 (fun y996 z997 h998 => ?_) (fun y996 w999 z997 h_w999 e1000 => ?_)
        ·
          have r1001 : R 0 24 y996 := ⟨by omega, by omega⟩
          refine r_castn (n := 40) (K := 18) S X987 (Nat.le_of_ble_eq_true rfl) rfl (fun _ _ => rfl) (ix_of r994 rfl) h998 r1001 dX5_copyFrom_29 (fun t1002 H lc M1003 X1004 => ?_)
          have I1005 := Inv_mu I984 M1003 (show Rg (kd 36) _ y996 from r1001)
          have F1006 : Fr [(35, 4)] [36, 37, 38] τ t1002 := Fr_cell F985 M1003 (by decide)
          refine r_aload_n S dX5_copyFrom_30 rfl (lv_at hl 0 rfl) ?_
          refine r_get (K := 17) (v := .ref (G.2.2.2.1 37)) S X1004 (Nat.le_of_ble_eq_true rfl) rfl lk5_17_5 (fun _ => ⟨_, rfl, rfl⟩) dX5_copyFrom_31 ?_
          refine r_iload_n S dX5_copyFrom_34 rfl (lv_at hl 2 rfl) ?_
          refine r_aload_n S dX5_copyFrom_35 rfl (lv_at hl 1 rfl) ?_
          refine r_get (K := 17) (v := .ref (G.2.2.2.1 19)) S X1004 (Nat.le_of_ble_eq_true rfl) rfl lk5_17_5 (fun _ => ⟨_, rfl, rfl⟩) dX5_copyFrom_36 ?_
          refine r_iload_n S dX5_copyFrom_39 rfl (lv_at hl 2 rfl) ?_
          refine r_aldn (n := 40) (K := 19) S X1004 (Nat.le_of_ble_eq_true rfl) rfl (fun _ => rfl) (ix_of r994 rfl) dX5_copyFrom_40 (fun v1007 z1008 => ?_)
          have r1009 : R (0) (99) v1007 := rd I1005 rfl z1008
          refine r_ast (n := 40) (K := 19) S X1004 (Nat.le_of_ble_eq_true rfl) rfl (fun _ _ => rfl) (ix_of r994 rfl) dX5_copyFrom_41 (fun t1010 H lc M1011 X1012 => ?_)
          have I1013 := Inv_mu I1005 M1011 (show Rg (kd 37) _ v1007 from (R_of (lo := 0) (hi := 99) r1009 rfl))
          have F1014 : Fr [(35, 4)] [36, 37, 38] τ t1010 := Fr_cell F1006 M1011 (by decide)
          refine r_aload_n S dX5_copyFrom_42 rfl (lv_at hl 0 rfl) ?_
          refine r_get (K := 17) (v := .ref (G.2.2.2.1 38)) S X1012 (Nat.le_of_ble_eq_true rfl) rfl lk5_21_5 (fun _ => ⟨_, rfl, rfl⟩) dX5_copyFrom_43 ?_
          refine r_iload_n S dX5_copyFrom_46 rfl (lv_at hl 2 rfl) ?_
          refine r_aload_n S dX5_copyFrom_47 rfl (lv_at hl 1 rfl) ?_
          refine r_get (K := 17) (v := .ref (G.2.2.2.1 20)) S X1012 (Nat.le_of_ble_eq_true rfl) rfl lk5_21_5 (fun _ => ⟨_, rfl, rfl⟩) dX5_copyFrom_48 ?_
          refine r_iload_n S dX5_copyFrom_51 rfl (lv_at hl 2 rfl) ?_
          refine r_aldn (n := 40) (K := 20) S X1012 (Nat.le_of_ble_eq_true rfl) rfl (fun _ => rfl) (ix_of r994 rfl) dX5_copyFrom_52 (fun v1015 z1016 => ?_)
          have r1018 := R_any v1015
          refine r_ast (n := 40) (K := 20) S X1012 (Nat.le_of_ble_eq_true rfl) rfl (fun _ _ => rfl) (ix_of r994 rfl) dX5_copyFrom_53 (fun t1019 H lc M1020 X1021 => ?_)
          have I1022 := Inv_mu I1013 M1020 (R_any v1015)
          have F1023 : Fr [(35, 4)] [36, 37, 38] τ t1019 := Fr_cell F1014 M1020 (by decide)
          refine r_iinc (k := 2) S dX5_copyFrom_54 hl rfl (by decide) (by decide) (fun v1024 d1025 ls z1026 z1027 hl => ?_)
          obtain ⟨e1028, r1029⟩ := i_add (lo := 1) (hi := 40) z1026 r994 (R_eq z1027) rfl
          have hl : lv_has ls 3 [(2, .int v1024), (0, .ref (G.2.2.2.1 35)), (1, .ref (G.2.2.2.1 17))] := hl
          refine r_goto (tgt := 10) S dX5_copyFrom_57 (by decide) ?_
          exact ih992 t1019 _ _ _ v1024 X1021 I1022 F1023 (YT_eq hYT986 (fun j => ((M1020.2 18 j (Or.inl (by decide))).trans ((M1011.2 18 j (Or.inl (by decide))).trans ((M1003.2 18 j (Or.inl (by decide))).trans rfl)))) (fun j => ((M1020.2 19 j (Or.inl (by decide))).trans ((M1011.2 19 j (Or.inl (by decide))).trans ((M1003.2 19 j (Or.inl (by decide))).trans rfl))))) (R_of r1029 rfl) ((M1020.2 17 4 (Or.inl (by decide))).trans ((M1011.2 17 4 (Or.inl (by decide))).trans ((M1003.2 17 4 (Or.inl (by decide))).trans z988))) ((M1020.2 35 4 (Or.inl (by decide))).trans ((M1011.2 35 4 (Or.inl (by decide))).trans ((M1003.2 35 4 (Or.inl (by decide))).trans z989))) (YD_put (k := 35) x991 (fun j hj => ((M1020.2 36 j (Or.inl (by decide))).trans ((M1011.2 36 j (Or.inl (by decide))).trans ((M1003.2 36 j (Or.inr hj)).trans rfl)))) (fun j hj => ((M1020.2 37 j (Or.inl (by decide))).trans ((M1011.2 37 j (Or.inr hj)).trans ((M1003.2 37 j (Or.inl (by decide))).trans rfl)))) (((M1020.2 36 i981.toNatClampNeg (Or.inl (by decide))).trans ((M1011.2 36 i981.toNatClampNeg (Or.inl (by decide))).trans rfl)).trans M1003.1) (((M1020.2 37 i981.toNatClampNeg (Or.inl (by decide))).trans rfl).trans M1011.1) (YD_at (k := 17) hYT986 z997 ((((M1003.2 19 i981.toNatClampNeg (Or.inl (by decide))).trans rfl)).symm.trans z1008))) (lv_sub hl [1, 2, 0] rfl) (by omega)
        ·
          have r1030 : R 0 24 y996 := ⟨by omega, by omega⟩
          refine r_castc (n := 40) (K := 18) S X987 (Nat.le_of_ble_eq_true rfl) rfl (fun _ _ => rfl) (ix_of r994 rfl) e1000 r1030 dX5_copyFrom_29 (fun t1031 H lc M1032 X1033 => ?_)
          have I1034 := Inv_mu I984 M1032 (show Rg (kd 36) _ y996 from r1030)
          have F1035 : Fr [(35, 4)] [36, 37, 38] τ t1031 := Fr_cell F985 M1032 (by decide)
          refine r_aload_n S dX5_copyFrom_30 rfl (lv_at hl 0 rfl) ?_
          refine r_get (K := 17) (v := .ref (G.2.2.2.1 37)) S X1033 (Nat.le_of_ble_eq_true rfl) rfl lk5_17_5 (fun _ => ⟨_, rfl, rfl⟩) dX5_copyFrom_31 ?_
          refine r_iload_n S dX5_copyFrom_34 rfl (lv_at hl 2 rfl) ?_
          refine r_aload_n S dX5_copyFrom_35 rfl (lv_at hl 1 rfl) ?_
          refine r_get (K := 17) (v := .ref (G.2.2.2.1 19)) S X1033 (Nat.le_of_ble_eq_true rfl) rfl lk5_17_5 (fun _ => ⟨_, rfl, rfl⟩) dX5_copyFrom_36 ?_
          refine r_iload_n S dX5_copyFrom_39 rfl (lv_at hl 2 rfl) ?_
          refine r_aldn (n := 40) (K := 19) S X1033 (Nat.le_of_ble_eq_true rfl) rfl (fun _ => rfl) (ix_of r994 rfl) dX5_copyFrom_40 (fun v1036 z1037 => ?_)
          have r1038 : R (0) (99) v1036 := rd I1034 rfl z1037
          refine r_ast (n := 40) (K := 19) S X1033 (Nat.le_of_ble_eq_true rfl) rfl (fun _ _ => rfl) (ix_of r994 rfl) dX5_copyFrom_41 (fun t1039 H lc M1040 X1041 => ?_)
          have I1042 := Inv_mu I1034 M1040 (show Rg (kd 37) _ v1036 from (R_of (lo := 0) (hi := 99) r1038 rfl))
          have F1043 : Fr [(35, 4)] [36, 37, 38] τ t1039 := Fr_cell F1035 M1040 (by decide)
          refine r_aload_n S dX5_copyFrom_42 rfl (lv_at hl 0 rfl) ?_
          refine r_get (K := 17) (v := .ref (G.2.2.2.1 38)) S X1041 (Nat.le_of_ble_eq_true rfl) rfl lk5_21_5 (fun _ => ⟨_, rfl, rfl⟩) dX5_copyFrom_43 ?_
          refine r_iload_n S dX5_copyFrom_46 rfl (lv_at hl 2 rfl) ?_
          refine r_aload_n S dX5_copyFrom_47 rfl (lv_at hl 1 rfl) ?_
          refine r_get (K := 17) (v := .ref (G.2.2.2.1 20)) S X1041 (Nat.le_of_ble_eq_true rfl) rfl lk5_21_5 (fun _ => ⟨_, rfl, rfl⟩) dX5_copyFrom_48 ?_
          refine r_iload_n S dX5_copyFrom_51 rfl (lv_at hl 2 rfl) ?_
          refine r_aldn (n := 40) (K := 20) S X1041 (Nat.le_of_ble_eq_true rfl) rfl (fun _ => rfl) (ix_of r994 rfl) dX5_copyFrom_52 (fun v1044 z1045 => ?_)
          have r1047 := R_any v1044
          refine r_ast (n := 40) (K := 20) S X1041 (Nat.le_of_ble_eq_true rfl) rfl (fun _ _ => rfl) (ix_of r994 rfl) dX5_copyFrom_53 (fun t1048 H lc M1049 X1050 => ?_)
          have I1051 := Inv_mu I1042 M1049 (R_any v1044)
          have F1052 : Fr [(35, 4)] [36, 37, 38] τ t1048 := Fr_cell F1043 M1049 (by decide)
          refine r_iinc (k := 2) S dX5_copyFrom_54 hl rfl (by decide) (by decide) (fun v1053 d1054 ls z1055 z1056 hl => ?_)
          obtain ⟨e1057, r1058⟩ := i_add (lo := 1) (hi := 40) z1055 r994 (R_eq z1056) rfl
          have hl : lv_has ls 3 [(2, .int v1053), (0, .ref (G.2.2.2.1 35)), (1, .ref (G.2.2.2.1 17))] := hl
          refine r_goto (tgt := 10) S dX5_copyFrom_57 (by decide) ?_
          exact ih992 t1048 _ _ _ v1053 X1050 I1051 F1052 (YT_eq hYT986 (fun j => ((M1049.2 18 j (Or.inl (by decide))).trans ((M1040.2 18 j (Or.inl (by decide))).trans ((M1032.2 18 j (Or.inl (by decide))).trans rfl)))) (fun j => ((M1049.2 19 j (Or.inl (by decide))).trans ((M1040.2 19 j (Or.inl (by decide))).trans ((M1032.2 19 j (Or.inl (by decide))).trans rfl))))) (R_of r1058 rfl) ((M1049.2 17 4 (Or.inl (by decide))).trans ((M1040.2 17 4 (Or.inl (by decide))).trans ((M1032.2 17 4 (Or.inl (by decide))).trans z988))) ((M1049.2 35 4 (Or.inl (by decide))).trans ((M1040.2 35 4 (Or.inl (by decide))).trans ((M1032.2 35 4 (Or.inl (by decide))).trans z989))) (YD_put (k := 35) x991 (fun j hj => ((M1049.2 36 j (Or.inl (by decide))).trans ((M1040.2 36 j (Or.inl (by decide))).trans ((M1032.2 36 j (Or.inr hj)).trans rfl)))) (fun j hj => ((M1049.2 37 j (Or.inl (by decide))).trans ((M1040.2 37 j (Or.inr hj)).trans ((M1032.2 37 j (Or.inl (by decide))).trans rfl)))) (((M1049.2 36 i981.toNatClampNeg (Or.inl (by decide))).trans ((M1040.2 36 i981.toNatClampNeg (Or.inl (by decide))).trans rfl)).trans M1032.1) (((M1049.2 37 i981.toNatClampNeg (Or.inl (by decide))).trans rfl).trans M1040.1) (YD_at (k := 17) hYT986 z997 ((((M1032.2 19 i981.toNatClampNeg (Or.inl (by decide))).trans rfl)).symm.trans z1037))) (lv_sub hl [1, 2, 0] rfl) (by omega)
  exact L990 _ t4 _ _ _ v9 X6 I7 F8 (YT_eq hYT (fun j => ((M5.2 18 j (Or.inl (by decide))).trans rfl)) (fun j => ((M5.2 19 j (Or.inl (by decide))).trans rfl))) (R_of r11 rfl) ((M5.2 17 4 (Or.inl (by decide))).trans z2) M5.1 (YW_eq hYW (fun j => ((M5.2 36 j (Or.inl (by decide))).trans rfl)) (fun j => ((M5.2 37 j (Or.inl (by decide))).trans rfl))) (lv_sub hl [1, 2, 0] rfl) (Nat.lt_succ_self _)
def po_sncopy_106_35 (τ : Tau)     (u : Tau) : Prop := Inv u ∧ Fr [(106, 4)] [107, 108, 109] τ u ∧ YA u
set_option maxHeartbeats 4000000 in
set_option maxRecDepth 100000 in
theorem c_sncopy_106_35 (l : Launch) (G : Gx) (τ : Tau) (hI : Inv τ) (hYA : YA τ) (hYW : YW τ) : Cv l G yX5_copyFrom cX5_copyFrom 3 0 0 [.ref (G.2.2.2.1 106), .ref (G.2.2.2.1 35)] τ (po_sncopy_106_35 τ    ) := by
  unfold Cv
  refine C_of (own := RX5) (by decide) rfl (Nat.le_of_ble_eq_true rfl) ?_
  intro p e s m below meth c ls S hr hlk X hl
  have hl : lv_has ls 3 [(0, .ref (G.2.2.2.1 106)), (1, .ref (G.2.2.2.1 35))] := hl
  refine r_aload_n S dX5_copyFrom_0 rfl (lv_at hl 0 rfl) ?_
  refine r_aload_n S dX5_copyFrom_1 rfl (lv_at hl 1 rfl) ?_
  refine r_getn (K := 17) S X (Nat.le_of_ble_eq_true rfl) rfl lk5_27_5 (fun _ => ⟨_, rfl, rfl⟩) dX5_copyFrom_2 (fun v1 z2 => ?_)
  have r3 : R (0) (40) v1 := rd hI rfl z2
  refine r_put (K := 17) (ty := .int) S X (Nat.le_of_ble_eq_true rfl) rfl lk5_27_5 (fun _ => ⟨_, rfl, Nat.le_of_ble_eq_true rfl, rfl⟩) (fun _ _ _ h => by cases h; exact ⟨rfl, rfl⟩) rfl rfl dX5_copyFrom_5 (fun t4 H lc M5 X6 => ?_)
  have I7 := Inv_mu hI M5 (show Rg (kd 106) 4 v1 from (R_of (lo := 0) (hi := 40) r3 rfl))
  have F8 : Fr [(106, 4)] [107, 108, 109] τ t4 := Fr_mu Fr_rfl M5 (by decide)
  refine r_iconst S dX5_copyFrom_8 (by decide) (fun v9 z10 => ?_)
  have r11 := R_eq z10
  refine r_istore_n (lv' := [(2, .int v9), (0, .ref (G.2.2.2.1 106)), (1, .ref (G.2.2.2.1 35))]) S dX5_copyFrom_9 rfl hl (by decide) rfl (fun ls hl => ?_)
  have L990 : ∀ (n : Nat) (t983 : Tau) (H : Heap) (lc : List Loc) (ls : Array Slot) (i981 : Int32), Xd G s H lc t983 → Inv t983 → Fr [(106, 4)] [107, 108, 109] τ t983 → YW t983 → R (0) (40) i981 → t983 35 4 = v1 → t983 106 4 = v1 → YA t983 → lv_has ls 3 [(0, .ref (G.2.2.2.1 106)), (1, .ref (G.2.2.2.1 35)), (2, .int i981)] → (40 - i981.toInt).toNat < n → W p l e (Rm 0 0) s m ([.ref (G.2.2.2.1 106), .ref (G.2.2.2.1 35)] : List Value).toArray below meth c H lc 0 0 (MQ below (va_Qv (po_sncopy_106_35 τ    ) (Bs G) G.2.2.2.2) ([.ref (G.2.2.2.1 106), .ref (G.2.2.2.1 35)] : List Value).toArray s 0 0 G.2.2.2.2) (F0 m 10 ls []) := by
    intro n
    induction n with
    | zero => intros; omega
    | succ n ih992 =>
      intro t983 H lc ls i981 X987 I984 F985 hYW986 r982 z988 z989 x991 hl hm
      refine r_iload_n S dX5_copyFrom_10 rfl (lv_at hl 2 rfl) ?_
      refine r_aload_n S dX5_copyFrom_11 rfl (lv_at hl 0 rfl) ?_
      refine r_geti (K := 17) S X987 (Nat.le_of_ble_eq_true rfl) rfl lk5_27_5 (fun _ => ⟨_, rfl, rfl⟩) z989 dX5_copyFrom_12 ?_
      refine r_icmp_ge (tgt := 60) S dX5_copyFrom_15 (by decide) (fun c993 => ?_) (fun c993 => ?_)
      ·
        exact r_vret S hr hlk X987 ⟨I984, F985, x991⟩ dX5_copyFrom_60
      ·
        have r994 : R (0) (39) i981 := ⟨by omega, by omega⟩
        have r995 : R (1) (40) v1 := ⟨by omega, by omega⟩
        refine r_aload_n S dX5_copyFrom_18 rfl (lv_at hl 0 rfl) ?_
        refine r_get (K := 17) (v := .ref (G.2.2.2.1 107)) S X987 (Nat.le_of_ble_eq_true rfl) rfl lk5_13_5 (fun _ => ⟨_, rfl, rfl⟩) dX5_copyFrom_19 ?_
        refine r_iload_n S dX5_copyFrom_22 rfl (lv_at hl 2 rfl) ?_
        refine r_aload_n S dX5_copyFrom_23 rfl (lv_at hl 1 rfl) ?_
        refine r_get (K := 17) (v := .ref (G.2.2.2.1 36)) S X987 (Nat.le_of_ble_eq_true rfl) rfl lk5_13_5 (fun _ => ⟨_, rfl, rfl⟩) dX5_copyFrom_24 ?_
        refine r_iload_n S dX5_copyFrom_27 rfl (lv_at hl 2 rfl) ?_
        refine r_wald2 (n := 40) (K := 18) S X987 (Nat.le_of_ble_eq_true rfl) rfl (fun _ => rfl) (ix_of r994 rfl) (fun _ z => rd I984 rfl z) dX5_copyFrom_28 (fun y996 z997 h998 => ?_) (fun y996 w999 z997 h_w999 e1000 => ?_)
        ·
          have r1001 : R 0 24 y996 := ⟨by omega, by omega⟩
          refine r_castn (n := 40) (K := 18) S X987 (Nat.le_of_ble_eq_true rfl) rfl (fun _ _ => rfl) (ix_of r994 rfl) h998 r1001 dX5_copyFrom_29 (fun t1002 H lc M1003 X1004 => ?_)
          have I1005 := Inv_mu I984 M1003 (show Rg (kd 107) _ y996 from r1001)
          have F1006 : Fr [(106, 4)] [107, 108, 109] τ t1002 := Fr_cell F985 M1003 (by decide)
          refine r_aload_n S dX5_copyFrom_30 rfl (lv_at hl 0 rfl) ?_
          refine r_get (K := 17) (v := .ref (G.2.2.2.1 108)) S X1004 (Nat.le_of_ble_eq_true rfl) rfl lk5_17_5 (fun _ => ⟨_, rfl, rfl⟩) dX5_copyFrom_31 ?_
          refine r_iload_n S dX5_copyFrom_34 rfl (lv_at hl 2 rfl) ?_
          refine r_aload_n S dX5_copyFrom_35 rfl (lv_at hl 1 rfl) ?_
          refine r_get (K := 17) (v := .ref (G.2.2.2.1 37)) S X1004 (Nat.le_of_ble_eq_true rfl) rfl lk5_17_5 (fun _ => ⟨_, rfl, rfl⟩) dX5_copyFrom_36 ?_
          refine r_iload_n S dX5_copyFrom_39 rfl (lv_at hl 2 rfl) ?_
          refine r_aldn (n := 40) (K := 19) S X1004 (Nat.le_of_ble_eq_true rfl) rfl (fun _ => rfl) (ix_of r994 rfl) dX5_copyFrom_40 (fun v1007 z1008 => ?_)
          have r1009 : R (0) (99) v1007 := rd I1005 rfl z1008
          refine r_ast (n := 40) (K := 19) S X1004 (Nat.le_of_ble_eq_true rfl) rfl (fun _ _ => rfl) (ix_of r994 rfl) dX5_copyFrom_41 (fun t1010 H lc M1011 X1012 => ?_)
          have I1013 := Inv_mu I1005 M1011 (show Rg (kd 108) _ v1007 from (R_of (lo := 0) (hi := 99) r1009 rfl))
          have F1014 : Fr [(106, 4)] [107, 108, 109] τ t1010 := Fr_cell F1006 M1011 (by decide)
          refine r_aload_n S dX5_copyFrom_42 rfl (lv_at hl 0 rfl) ?_
          refine r_get (K := 17) (v := .ref (G.2.2.2.1 109)) S X1012 (Nat.le_of_ble_eq_true rfl) rfl lk5_21_5 (fun _ => ⟨_, rfl, rfl⟩) dX5_copyFrom_43 ?_
          refine r_iload_n S dX5_copyFrom_46 rfl (lv_at hl 2 rfl) ?_
          refine r_aload_n S dX5_copyFrom_47 rfl (lv_at hl 1 rfl) ?_
          refine r_get (K := 17) (v := .ref (G.2.2.2.1 38)) S X1012 (Nat.le_of_ble_eq_true rfl) rfl lk5_21_5 (fun _ => ⟨_, rfl, rfl⟩) dX5_copyFrom_48 ?_
          refine r_iload_n S dX5_copyFrom_51 rfl (lv_at hl 2 rfl) ?_
          refine r_aldn (n := 40) (K := 20) S X1012 (Nat.le_of_ble_eq_true rfl) rfl (fun _ => rfl) (ix_of r994 rfl) dX5_copyFrom_52 (fun v1015 z1016 => ?_)
          have r1018 := R_any v1015
          refine r_ast (n := 40) (K := 20) S X1012 (Nat.le_of_ble_eq_true rfl) rfl (fun _ _ => rfl) (ix_of r994 rfl) dX5_copyFrom_53 (fun t1019 H lc M1020 X1021 => ?_)
          have I1022 := Inv_mu I1013 M1020 (R_any v1015)
          have F1023 : Fr [(106, 4)] [107, 108, 109] τ t1019 := Fr_cell F1014 M1020 (by decide)
          refine r_iinc (k := 2) S dX5_copyFrom_54 hl rfl (by decide) (by decide) (fun v1024 d1025 ls z1026 z1027 hl => ?_)
          obtain ⟨e1028, r1029⟩ := i_add (lo := 1) (hi := 40) z1026 r994 (R_eq z1027) rfl
          have hl : lv_has ls 3 [(2, .int v1024), (0, .ref (G.2.2.2.1 106)), (1, .ref (G.2.2.2.1 35))] := hl
          refine r_goto (tgt := 10) S dX5_copyFrom_57 (by decide) ?_
          exact ih992 t1019 _ _ _ v1024 X1021 I1022 F1023 (YW_eq hYW986 (fun j => ((M1020.2 36 j (Or.inl (by decide))).trans ((M1011.2 36 j (Or.inl (by decide))).trans ((M1003.2 36 j (Or.inl (by decide))).trans rfl)))) (fun j => ((M1020.2 37 j (Or.inl (by decide))).trans ((M1011.2 37 j (Or.inl (by decide))).trans ((M1003.2 37 j (Or.inl (by decide))).trans rfl))))) (R_of r1029 rfl) ((M1020.2 35 4 (Or.inl (by decide))).trans ((M1011.2 35 4 (Or.inl (by decide))).trans ((M1003.2 35 4 (Or.inl (by decide))).trans z988))) ((M1020.2 106 4 (Or.inl (by decide))).trans ((M1011.2 106 4 (Or.inl (by decide))).trans ((M1003.2 106 4 (Or.inl (by decide))).trans z989))) (YD_put (k := 106) x991 (fun j hj => ((M1020.2 107 j (Or.inl (by decide))).trans ((M1011.2 107 j (Or.inl (by decide))).trans ((M1003.2 107 j (Or.inr hj)).trans rfl)))) (fun j hj => ((M1020.2 108 j (Or.inl (by decide))).trans ((M1011.2 108 j (Or.inr hj)).trans ((M1003.2 108 j (Or.inl (by decide))).trans rfl)))) (((M1020.2 107 i981.toNatClampNeg (Or.inl (by decide))).trans ((M1011.2 107 i981.toNatClampNeg (Or.inl (by decide))).trans rfl)).trans M1003.1) (((M1020.2 108 i981.toNatClampNeg (Or.inl (by decide))).trans rfl).trans M1011.1) (YD_at (k := 35) hYW986 z997 ((((M1003.2 37 i981.toNatClampNeg (Or.inl (by decide))).trans rfl)).symm.trans z1008))) (lv_sub hl [1, 2, 0] rfl) (by omega)
        ·
          have r1030 : R 0 24 y996 := ⟨by omega, by omega⟩
          refine r_castc (n := 40) (K := 18) S X987 (Nat.le_of_ble_eq_true rfl) rfl (fun _ _ => rfl) (ix_of r994 rfl) e1000 r1030 dX5_copyFrom_29 (fun t1031 H lc M1032 X1033 => ?_)
          have I1034 := Inv_mu I984 M1032 (show Rg (kd 107) _ y996 from r1030)
          have F1035 : Fr [(106, 4)] [107, 108, 109] τ t1031 := Fr_cell F985 M1032 (by decide)
          refine r_aload_n S dX5_copyFrom_30 rfl (lv_at hl 0 rfl) ?_
          refine r_get (K := 17) (v := .ref (G.2.2.2.1 108)) S X1033 (Nat.le_of_ble_eq_true rfl) rfl lk5_17_5 (fun _ => ⟨_, rfl, rfl⟩) dX5_copyFrom_31 ?_
          refine r_iload_n S dX5_copyFrom_34 rfl (lv_at hl 2 rfl) ?_
          refine r_aload_n S dX5_copyFrom_35 rfl (lv_at hl 1 rfl) ?_
          refine r_get (K := 17) (v := .ref (G.2.2.2.1 37)) S X1033 (Nat.le_of_ble_eq_true rfl) rfl lk5_17_5 (fun _ => ⟨_, rfl, rfl⟩) dX5_copyFrom_36 ?_
          refine r_iload_n S dX5_copyFrom_39 rfl (lv_at hl 2 rfl) ?_
          refine r_aldn (n := 40) (K := 19) S X1033 (Nat.le_of_ble_eq_true rfl) rfl (fun _ => rfl) (ix_of r994 rfl) dX5_copyFrom_40 (fun v1036 z1037 => ?_)
          have r1038 : R (0) (99) v1036 := rd I1034 rfl z1037
          refine r_ast (n := 40) (K := 19) S X1033 (Nat.le_of_ble_eq_true rfl) rfl (fun _ _ => rfl) (ix_of r994 rfl) dX5_copyFrom_41 (fun t1039 H lc M1040 X1041 => ?_)
          have I1042 := Inv_mu I1034 M1040 (show Rg (kd 108) _ v1036 from (R_of (lo := 0) (hi := 99) r1038 rfl))
          have F1043 : Fr [(106, 4)] [107, 108, 109] τ t1039 := Fr_cell F1035 M1040 (by decide)
          refine r_aload_n S dX5_copyFrom_42 rfl (lv_at hl 0 rfl) ?_
          refine r_get (K := 17) (v := .ref (G.2.2.2.1 109)) S X1041 (Nat.le_of_ble_eq_true rfl) rfl lk5_21_5 (fun _ => ⟨_, rfl, rfl⟩) dX5_copyFrom_43 ?_
          refine r_iload_n S dX5_copyFrom_46 rfl (lv_at hl 2 rfl) ?_
          refine r_aload_n S dX5_copyFrom_47 rfl (lv_at hl 1 rfl) ?_
          refine r_get (K := 17) (v := .ref (G.2.2.2.1 38)) S X1041 (Nat.le_of_ble_eq_true rfl) rfl lk5_21_5 (fun _ => ⟨_, rfl, rfl⟩) dX5_copyFrom_48 ?_
          refine r_iload_n S dX5_copyFrom_51 rfl (lv_at hl 2 rfl) ?_
          refine r_aldn (n := 40) (K := 20) S X1041 (Nat.le_of_ble_eq_true rfl) rfl (fun _ => rfl) (ix_of r994 rfl) dX5_copyFrom_52 (fun v1044 z1045 => ?_)
          have r1047 := R_any v1044
          refine r_ast (n := 40) (K := 20) S X1041 (Nat.le_of_ble_eq_true rfl) rfl (fun _ _ => rfl) (ix_of r994 rfl) dX5_copyFrom_53 (fun t1048 H lc M1049 X1050 => ?_)
          have I1051 := Inv_mu I1042 M1049 (R_any v1044)
          have F1052 : Fr [(106, 4)] [107, 108, 109] τ t1048 := Fr_cell F1043 M1049 (by decide)
          refine r_iinc (k := 2) S dX5_copyFrom_54 hl rfl (by decide) (by decide) (fun v1053 d1054 ls z1055 z1056 hl => ?_)
          obtain ⟨e1057, r1058⟩ := i_add (lo := 1) (hi := 40) z1055 r994 (R_eq z1056) rfl
          have hl : lv_has ls 3 [(2, .int v1053), (0, .ref (G.2.2.2.1 106)), (1, .ref (G.2.2.2.1 35))] := hl
          refine r_goto (tgt := 10) S dX5_copyFrom_57 (by decide) ?_
          exact ih992 t1048 _ _ _ v1053 X1050 I1051 F1052 (YW_eq hYW986 (fun j => ((M1049.2 36 j (Or.inl (by decide))).trans ((M1040.2 36 j (Or.inl (by decide))).trans ((M1032.2 36 j (Or.inl (by decide))).trans rfl)))) (fun j => ((M1049.2 37 j (Or.inl (by decide))).trans ((M1040.2 37 j (Or.inl (by decide))).trans ((M1032.2 37 j (Or.inl (by decide))).trans rfl))))) (R_of r1058 rfl) ((M1049.2 35 4 (Or.inl (by decide))).trans ((M1040.2 35 4 (Or.inl (by decide))).trans ((M1032.2 35 4 (Or.inl (by decide))).trans z988))) ((M1049.2 106 4 (Or.inl (by decide))).trans ((M1040.2 106 4 (Or.inl (by decide))).trans ((M1032.2 106 4 (Or.inl (by decide))).trans z989))) (YD_put (k := 106) x991 (fun j hj => ((M1049.2 107 j (Or.inl (by decide))).trans ((M1040.2 107 j (Or.inl (by decide))).trans ((M1032.2 107 j (Or.inr hj)).trans rfl)))) (fun j hj => ((M1049.2 108 j (Or.inl (by decide))).trans ((M1040.2 108 j (Or.inr hj)).trans ((M1032.2 108 j (Or.inl (by decide))).trans rfl)))) (((M1049.2 107 i981.toNatClampNeg (Or.inl (by decide))).trans ((M1040.2 107 i981.toNatClampNeg (Or.inl (by decide))).trans rfl)).trans M1032.1) (((M1049.2 108 i981.toNatClampNeg (Or.inl (by decide))).trans rfl).trans M1040.1) (YD_at (k := 35) hYW986 z997 ((((M1032.2 37 i981.toNatClampNeg (Or.inl (by decide))).trans rfl)).symm.trans z1037))) (lv_sub hl [1, 2, 0] rfl) (by omega)
  exact L990 _ t4 _ _ _ v9 X6 I7 F8 (YW_eq hYW (fun j => ((M5.2 36 j (Or.inl (by decide))).trans rfl)) (fun j => ((M5.2 37 j (Or.inl (by decide))).trans rfl))) (R_of r11 rfl) ((M5.2 35 4 (Or.inl (by decide))).trans z2) M5.1 (YA_eq hYA (fun j => ((M5.2 107 j (Or.inl (by decide))).trans rfl)) (fun j => ((M5.2 108 j (Or.inl (by decide))).trans rfl))) (lv_sub hl [1, 2, 0] rfl) (Nat.lt_succ_self _)
def po_sncopy_124_35 (τ : Tau)     (u : Tau) : Prop := Inv u ∧ Fr [(124, 4)] [125, 126, 127] τ u ∧ YB u
set_option maxHeartbeats 4000000 in
set_option maxRecDepth 100000 in
theorem c_sncopy_124_35 (l : Launch) (G : Gx) (τ : Tau) (hI : Inv τ) (hYB : YB τ) (hYW : YW τ) : Cv l G yX5_copyFrom cX5_copyFrom 3 0 0 [.ref (G.2.2.2.1 124), .ref (G.2.2.2.1 35)] τ (po_sncopy_124_35 τ    ) := by
  unfold Cv
  refine C_of (own := RX5) (by decide) rfl (Nat.le_of_ble_eq_true rfl) ?_
  intro p e s m below meth c ls S hr hlk X hl
  have hl : lv_has ls 3 [(0, .ref (G.2.2.2.1 124)), (1, .ref (G.2.2.2.1 35))] := hl
  refine r_aload_n S dX5_copyFrom_0 rfl (lv_at hl 0 rfl) ?_
  refine r_aload_n S dX5_copyFrom_1 rfl (lv_at hl 1 rfl) ?_
  refine r_getn (K := 17) S X (Nat.le_of_ble_eq_true rfl) rfl lk5_27_5 (fun _ => ⟨_, rfl, rfl⟩) dX5_copyFrom_2 (fun v1 z2 => ?_)
  have r3 : R (0) (40) v1 := rd hI rfl z2
  refine r_put (K := 17) (ty := .int) S X (Nat.le_of_ble_eq_true rfl) rfl lk5_27_5 (fun _ => ⟨_, rfl, Nat.le_of_ble_eq_true rfl, rfl⟩) (fun _ _ _ h => by cases h; exact ⟨rfl, rfl⟩) rfl rfl dX5_copyFrom_5 (fun t4 H lc M5 X6 => ?_)
  have I7 := Inv_mu hI M5 (show Rg (kd 124) 4 v1 from (R_of (lo := 0) (hi := 40) r3 rfl))
  have F8 : Fr [(124, 4)] [125, 126, 127] τ t4 := Fr_mu Fr_rfl M5 (by decide)
  refine r_iconst S dX5_copyFrom_8 (by decide) (fun v9 z10 => ?_)
  have r11 := R_eq z10
  refine r_istore_n (lv' := [(2, .int v9), (0, .ref (G.2.2.2.1 124)), (1, .ref (G.2.2.2.1 35))]) S dX5_copyFrom_9 rfl hl (by decide) rfl (fun ls hl => ?_)
  have L990 : ∀ (n : Nat) (t983 : Tau) (H : Heap) (lc : List Loc) (ls : Array Slot) (i981 : Int32), Xd G s H lc t983 → Inv t983 → Fr [(124, 4)] [125, 126, 127] τ t983 → YW t983 → R (0) (40) i981 → t983 35 4 = v1 → t983 124 4 = v1 → YB t983 → lv_has ls 3 [(0, .ref (G.2.2.2.1 124)), (1, .ref (G.2.2.2.1 35)), (2, .int i981)] → (40 - i981.toInt).toNat < n → W p l e (Rm 0 0) s m ([.ref (G.2.2.2.1 124), .ref (G.2.2.2.1 35)] : List Value).toArray below meth c H lc 0 0 (MQ below (va_Qv (po_sncopy_124_35 τ    ) (Bs G) G.2.2.2.2) ([.ref (G.2.2.2.1 124), .ref (G.2.2.2.1 35)] : List Value).toArray s 0 0 G.2.2.2.2) (F0 m 10 ls []) := by
    intro n
    induction n with
    | zero => intros; omega
    | succ n ih992 =>
      intro t983 H lc ls i981 X987 I984 F985 hYW986 r982 z988 z989 x991 hl hm
      refine r_iload_n S dX5_copyFrom_10 rfl (lv_at hl 2 rfl) ?_
      refine r_aload_n S dX5_copyFrom_11 rfl (lv_at hl 0 rfl) ?_
      refine r_geti (K := 17) S X987 (Nat.le_of_ble_eq_true rfl) rfl lk5_27_5 (fun _ => ⟨_, rfl, rfl⟩) z989 dX5_copyFrom_12 ?_
      refine r_icmp_ge (tgt := 60) S dX5_copyFrom_15 (by decide) (fun c993 => ?_) (fun c993 => ?_)
      ·
        exact r_vret S hr hlk X987 ⟨I984, F985, x991⟩ dX5_copyFrom_60
      ·
        have r994 : R (0) (39) i981 := ⟨by omega, by omega⟩
        have r995 : R (1) (40) v1 := ⟨by omega, by omega⟩
        refine r_aload_n S dX5_copyFrom_18 rfl (lv_at hl 0 rfl) ?_
        refine r_get (K := 17) (v := .ref (G.2.2.2.1 125)) S X987 (Nat.le_of_ble_eq_true rfl) rfl lk5_13_5 (fun _ => ⟨_, rfl, rfl⟩) dX5_copyFrom_19 ?_
        refine r_iload_n S dX5_copyFrom_22 rfl (lv_at hl 2 rfl) ?_
        refine r_aload_n S dX5_copyFrom_23 rfl (lv_at hl 1 rfl) ?_
        refine r_get (K := 17) (v := .ref (G.2.2.2.1 36)) S X987 (Nat.le_of_ble_eq_true rfl) rfl lk5_13_5 (fun _ => ⟨_, rfl, rfl⟩) dX5_copyFrom_24 ?_
        refine r_iload_n S dX5_copyFrom_27 rfl (lv_at hl 2 rfl) ?_
        refine r_wald2 (n := 40) (K := 18) S X987 (Nat.le_of_ble_eq_true rfl) rfl (fun _ => rfl) (ix_of r994 rfl) (fun _ z => rd I984 rfl z) dX5_copyFrom_28 (fun y996 z997 h998 => ?_) (fun y996 w999 z997 h_w999 e1000 => ?_)
        ·
          have r1001 : R 0 24 y996 := ⟨by omega, by omega⟩
          refine r_castn (n := 40) (K := 18) S X987 (Nat.le_of_ble_eq_true rfl) rfl (fun _ _ => rfl) (ix_of r994 rfl) h998 r1001 dX5_copyFrom_29 (fun t1002 H lc M1003 X1004 => ?_)
          have I1005 := Inv_mu I984 M1003 (show Rg (kd 125) _ y996 from r1001)
          have F1006 : Fr [(124, 4)] [125, 126, 127] τ t1002 := Fr_cell F985 M1003 (by decide)
          refine r_aload_n S dX5_copyFrom_30 rfl (lv_at hl 0 rfl) ?_
          refine r_get (K := 17) (v := .ref (G.2.2.2.1 126)) S X1004 (Nat.le_of_ble_eq_true rfl) rfl lk5_17_5 (fun _ => ⟨_, rfl, rfl⟩) dX5_copyFrom_31 ?_
          refine r_iload_n S dX5_copyFrom_34 rfl (lv_at hl 2 rfl) ?_
          refine r_aload_n S dX5_copyFrom_35 rfl (lv_at hl 1 rfl) ?_
          refine r_get (K := 17) (v := .ref (G.2.2.2.1 37)) S X1004 (Nat.le_of_ble_eq_true rfl) rfl lk5_17_5 (fun _ => ⟨_, rfl, rfl⟩) dX5_copyFrom_36 ?_
          refine r_iload_n S dX5_copyFrom_39 rfl (lv_at hl 2 rfl) ?_
          refine r_aldn (n := 40) (K := 19) S X1004 (Nat.le_of_ble_eq_true rfl) rfl (fun _ => rfl) (ix_of r994 rfl) dX5_copyFrom_40 (fun v1007 z1008 => ?_)
          have r1009 : R (0) (99) v1007 := rd I1005 rfl z1008
          refine r_ast (n := 40) (K := 19) S X1004 (Nat.le_of_ble_eq_true rfl) rfl (fun _ _ => rfl) (ix_of r994 rfl) dX5_copyFrom_41 (fun t1010 H lc M1011 X1012 => ?_)
          have I1013 := Inv_mu I1005 M1011 (show Rg (kd 126) _ v1007 from (R_of (lo := 0) (hi := 99) r1009 rfl))
          have F1014 : Fr [(124, 4)] [125, 126, 127] τ t1010 := Fr_cell F1006 M1011 (by decide)
          refine r_aload_n S dX5_copyFrom_42 rfl (lv_at hl 0 rfl) ?_
          refine r_get (K := 17) (v := .ref (G.2.2.2.1 127)) S X1012 (Nat.le_of_ble_eq_true rfl) rfl lk5_21_5 (fun _ => ⟨_, rfl, rfl⟩) dX5_copyFrom_43 ?_
          refine r_iload_n S dX5_copyFrom_46 rfl (lv_at hl 2 rfl) ?_
          refine r_aload_n S dX5_copyFrom_47 rfl (lv_at hl 1 rfl) ?_
          refine r_get (K := 17) (v := .ref (G.2.2.2.1 38)) S X1012 (Nat.le_of_ble_eq_true rfl) rfl lk5_21_5 (fun _ => ⟨_, rfl, rfl⟩) dX5_copyFrom_48 ?_
          refine r_iload_n S dX5_copyFrom_51 rfl (lv_at hl 2 rfl) ?_
          refine r_aldn (n := 40) (K := 20) S X1012 (Nat.le_of_ble_eq_true rfl) rfl (fun _ => rfl) (ix_of r994 rfl) dX5_copyFrom_52 (fun v1015 z1016 => ?_)
          have r1018 := R_any v1015
          refine r_ast (n := 40) (K := 20) S X1012 (Nat.le_of_ble_eq_true rfl) rfl (fun _ _ => rfl) (ix_of r994 rfl) dX5_copyFrom_53 (fun t1019 H lc M1020 X1021 => ?_)
          have I1022 := Inv_mu I1013 M1020 (R_any v1015)
          have F1023 : Fr [(124, 4)] [125, 126, 127] τ t1019 := Fr_cell F1014 M1020 (by decide)
          refine r_iinc (k := 2) S dX5_copyFrom_54 hl rfl (by decide) (by decide) (fun v1024 d1025 ls z1026 z1027 hl => ?_)
          obtain ⟨e1028, r1029⟩ := i_add (lo := 1) (hi := 40) z1026 r994 (R_eq z1027) rfl
          have hl : lv_has ls 3 [(2, .int v1024), (0, .ref (G.2.2.2.1 124)), (1, .ref (G.2.2.2.1 35))] := hl
          refine r_goto (tgt := 10) S dX5_copyFrom_57 (by decide) ?_
          exact ih992 t1019 _ _ _ v1024 X1021 I1022 F1023 (YW_eq hYW986 (fun j => ((M1020.2 36 j (Or.inl (by decide))).trans ((M1011.2 36 j (Or.inl (by decide))).trans ((M1003.2 36 j (Or.inl (by decide))).trans rfl)))) (fun j => ((M1020.2 37 j (Or.inl (by decide))).trans ((M1011.2 37 j (Or.inl (by decide))).trans ((M1003.2 37 j (Or.inl (by decide))).trans rfl))))) (R_of r1029 rfl) ((M1020.2 35 4 (Or.inl (by decide))).trans ((M1011.2 35 4 (Or.inl (by decide))).trans ((M1003.2 35 4 (Or.inl (by decide))).trans z988))) ((M1020.2 124 4 (Or.inl (by decide))).trans ((M1011.2 124 4 (Or.inl (by decide))).trans ((M1003.2 124 4 (Or.inl (by decide))).trans z989))) (YD_put (k := 124) x991 (fun j hj => ((M1020.2 125 j (Or.inl (by decide))).trans ((M1011.2 125 j (Or.inl (by decide))).trans ((M1003.2 125 j (Or.inr hj)).trans rfl)))) (fun j hj => ((M1020.2 126 j (Or.inl (by decide))).trans ((M1011.2 126 j (Or.inr hj)).trans ((M1003.2 126 j (Or.inl (by decide))).trans rfl)))) (((M1020.2 125 i981.toNatClampNeg (Or.inl (by decide))).trans ((M1011.2 125 i981.toNatClampNeg (Or.inl (by decide))).trans rfl)).trans M1003.1) (((M1020.2 126 i981.toNatClampNeg (Or.inl (by decide))).trans rfl).trans M1011.1) (YD_at (k := 35) hYW986 z997 ((((M1003.2 37 i981.toNatClampNeg (Or.inl (by decide))).trans rfl)).symm.trans z1008))) (lv_sub hl [1, 2, 0] rfl) (by omega)
        ·
          have r1030 : R 0 24 y996 := ⟨by omega, by omega⟩
          refine r_castc (n := 40) (K := 18) S X987 (Nat.le_of_ble_eq_true rfl) rfl (fun _ _ => rfl) (ix_of r994 rfl) e1000 r1030 dX5_copyFrom_29 (fun t1031 H lc M1032 X1033 => ?_)
          have I1034 := Inv_mu I984 M1032 (show Rg (kd 125) _ y996 from r1030)
          have F1035 : Fr [(124, 4)] [125, 126, 127] τ t1031 := Fr_cell F985 M1032 (by decide)
          refine r_aload_n S dX5_copyFrom_30 rfl (lv_at hl 0 rfl) ?_
          refine r_get (K := 17) (v := .ref (G.2.2.2.1 126)) S X1033 (Nat.le_of_ble_eq_true rfl) rfl lk5_17_5 (fun _ => ⟨_, rfl, rfl⟩) dX5_copyFrom_31 ?_
          refine r_iload_n S dX5_copyFrom_34 rfl (lv_at hl 2 rfl) ?_
          refine r_aload_n S dX5_copyFrom_35 rfl (lv_at hl 1 rfl) ?_
          refine r_get (K := 17) (v := .ref (G.2.2.2.1 37)) S X1033 (Nat.le_of_ble_eq_true rfl) rfl lk5_17_5 (fun _ => ⟨_, rfl, rfl⟩) dX5_copyFrom_36 ?_
          refine r_iload_n S dX5_copyFrom_39 rfl (lv_at hl 2 rfl) ?_
          refine r_aldn (n := 40) (K := 19) S X1033 (Nat.le_of_ble_eq_true rfl) rfl (fun _ => rfl) (ix_of r994 rfl) dX5_copyFrom_40 (fun v1036 z1037 => ?_)
          have r1038 : R (0) (99) v1036 := rd I1034 rfl z1037
          refine r_ast (n := 40) (K := 19) S X1033 (Nat.le_of_ble_eq_true rfl) rfl (fun _ _ => rfl) (ix_of r994 rfl) dX5_copyFrom_41 (fun t1039 H lc M1040 X1041 => ?_)
          have I1042 := Inv_mu I1034 M1040 (show Rg (kd 126) _ v1036 from (R_of (lo := 0) (hi := 99) r1038 rfl))
          have F1043 : Fr [(124, 4)] [125, 126, 127] τ t1039 := Fr_cell F1035 M1040 (by decide)
          refine r_aload_n S dX5_copyFrom_42 rfl (lv_at hl 0 rfl) ?_
          refine r_get (K := 17) (v := .ref (G.2.2.2.1 127)) S X1041 (Nat.le_of_ble_eq_true rfl) rfl lk5_21_5 (fun _ => ⟨_, rfl, rfl⟩) dX5_copyFrom_43 ?_
          refine r_iload_n S dX5_copyFrom_46 rfl (lv_at hl 2 rfl) ?_
          refine r_aload_n S dX5_copyFrom_47 rfl (lv_at hl 1 rfl) ?_
          refine r_get (K := 17) (v := .ref (G.2.2.2.1 38)) S X1041 (Nat.le_of_ble_eq_true rfl) rfl lk5_21_5 (fun _ => ⟨_, rfl, rfl⟩) dX5_copyFrom_48 ?_
          refine r_iload_n S dX5_copyFrom_51 rfl (lv_at hl 2 rfl) ?_
          refine r_aldn (n := 40) (K := 20) S X1041 (Nat.le_of_ble_eq_true rfl) rfl (fun _ => rfl) (ix_of r994 rfl) dX5_copyFrom_52 (fun v1044 z1045 => ?_)
          have r1047 := R_any v1044
          refine r_ast (n := 40) (K := 20) S X1041 (Nat.le_of_ble_eq_true rfl) rfl (fun _ _ => rfl) (ix_of r994 rfl) dX5_copyFrom_53 (fun t1048 H lc M1049 X1050 => ?_)
          have I1051 := Inv_mu I1042 M1049 (R_any v1044)
          have F1052 : Fr [(124, 4)] [125, 126, 127] τ t1048 := Fr_cell F1043 M1049 (by decide)
          refine r_iinc (k := 2) S dX5_copyFrom_54 hl rfl (by decide) (by decide) (fun v1053 d1054 ls z1055 z1056 hl => ?_)
          obtain ⟨e1057, r1058⟩ := i_add (lo := 1) (hi := 40) z1055 r994 (R_eq z1056) rfl
          have hl : lv_has ls 3 [(2, .int v1053), (0, .ref (G.2.2.2.1 124)), (1, .ref (G.2.2.2.1 35))] := hl
          refine r_goto (tgt := 10) S dX5_copyFrom_57 (by decide) ?_
          exact ih992 t1048 _ _ _ v1053 X1050 I1051 F1052 (YW_eq hYW986 (fun j => ((M1049.2 36 j (Or.inl (by decide))).trans ((M1040.2 36 j (Or.inl (by decide))).trans ((M1032.2 36 j (Or.inl (by decide))).trans rfl)))) (fun j => ((M1049.2 37 j (Or.inl (by decide))).trans ((M1040.2 37 j (Or.inl (by decide))).trans ((M1032.2 37 j (Or.inl (by decide))).trans rfl))))) (R_of r1058 rfl) ((M1049.2 35 4 (Or.inl (by decide))).trans ((M1040.2 35 4 (Or.inl (by decide))).trans ((M1032.2 35 4 (Or.inl (by decide))).trans z988))) ((M1049.2 124 4 (Or.inl (by decide))).trans ((M1040.2 124 4 (Or.inl (by decide))).trans ((M1032.2 124 4 (Or.inl (by decide))).trans z989))) (YD_put (k := 124) x991 (fun j hj => ((M1049.2 125 j (Or.inl (by decide))).trans ((M1040.2 125 j (Or.inl (by decide))).trans ((M1032.2 125 j (Or.inr hj)).trans rfl)))) (fun j hj => ((M1049.2 126 j (Or.inl (by decide))).trans ((M1040.2 126 j (Or.inr hj)).trans ((M1032.2 126 j (Or.inl (by decide))).trans rfl)))) (((M1049.2 125 i981.toNatClampNeg (Or.inl (by decide))).trans ((M1040.2 125 i981.toNatClampNeg (Or.inl (by decide))).trans rfl)).trans M1032.1) (((M1049.2 126 i981.toNatClampNeg (Or.inl (by decide))).trans rfl).trans M1040.1) (YD_at (k := 35) hYW986 z997 ((((M1032.2 37 i981.toNatClampNeg (Or.inl (by decide))).trans rfl)).symm.trans z1037))) (lv_sub hl [1, 2, 0] rfl) (by omega)
  exact L990 _ t4 _ _ _ v9 X6 I7 F8 (YW_eq hYW (fun j => ((M5.2 36 j (Or.inl (by decide))).trans rfl)) (fun j => ((M5.2 37 j (Or.inl (by decide))).trans rfl))) (R_of r11 rfl) ((M5.2 35 4 (Or.inl (by decide))).trans z2) M5.1 (YB_eq hYB (fun j => ((M5.2 125 j (Or.inl (by decide))).trans rfl)) (fun j => ((M5.2 126 j (Or.inl (by decide))).trans rfl))) (lv_sub hl [1, 2, 0] rfl) (Nat.lt_succ_self _)
def po_sncopy_35_106 (τ : Tau)     (u : Tau) : Prop := Inv u ∧ Fr [(35, 4)] [36, 37, 38] τ u ∧ YW u
set_option maxHeartbeats 4000000 in
set_option maxRecDepth 100000 in
theorem c_sncopy_35_106 (l : Launch) (G : Gx) (τ : Tau) (hI : Inv τ) (hYW : YW τ) (hYA : YA τ) : Cv l G yX5_copyFrom cX5_copyFrom 3 0 0 [.ref (G.2.2.2.1 35), .ref (G.2.2.2.1 106)] τ (po_sncopy_35_106 τ    ) := by
  unfold Cv
  refine C_of (own := RX5) (by decide) rfl (Nat.le_of_ble_eq_true rfl) ?_
  intro p e s m below meth c ls S hr hlk X hl
  have hl : lv_has ls 3 [(0, .ref (G.2.2.2.1 35)), (1, .ref (G.2.2.2.1 106))] := hl
  refine r_aload_n S dX5_copyFrom_0 rfl (lv_at hl 0 rfl) ?_
  refine r_aload_n S dX5_copyFrom_1 rfl (lv_at hl 1 rfl) ?_
  refine r_getn (K := 17) S X (Nat.le_of_ble_eq_true rfl) rfl lk5_27_5 (fun _ => ⟨_, rfl, rfl⟩) dX5_copyFrom_2 (fun v1 z2 => ?_)
  have r3 : R (0) (40) v1 := rd hI rfl z2
  refine r_put (K := 17) (ty := .int) S X (Nat.le_of_ble_eq_true rfl) rfl lk5_27_5 (fun _ => ⟨_, rfl, Nat.le_of_ble_eq_true rfl, rfl⟩) (fun _ _ _ h => by cases h; exact ⟨rfl, rfl⟩) rfl rfl dX5_copyFrom_5 (fun t4 H lc M5 X6 => ?_)
  have I7 := Inv_mu hI M5 (show Rg (kd 35) 4 v1 from (R_of (lo := 0) (hi := 40) r3 rfl))
  have F8 : Fr [(35, 4)] [36, 37, 38] τ t4 := Fr_mu Fr_rfl M5 (by decide)
  refine r_iconst S dX5_copyFrom_8 (by decide) (fun v9 z10 => ?_)
  have r11 := R_eq z10
  refine r_istore_n (lv' := [(2, .int v9), (0, .ref (G.2.2.2.1 35)), (1, .ref (G.2.2.2.1 106))]) S dX5_copyFrom_9 rfl hl (by decide) rfl (fun ls hl => ?_)
  have L990 : ∀ (n : Nat) (t983 : Tau) (H : Heap) (lc : List Loc) (ls : Array Slot) (i981 : Int32), Xd G s H lc t983 → Inv t983 → Fr [(35, 4)] [36, 37, 38] τ t983 → YA t983 → R (0) (40) i981 → t983 106 4 = v1 → t983 35 4 = v1 → YW t983 → lv_has ls 3 [(0, .ref (G.2.2.2.1 35)), (1, .ref (G.2.2.2.1 106)), (2, .int i981)] → (40 - i981.toInt).toNat < n → W p l e (Rm 0 0) s m ([.ref (G.2.2.2.1 35), .ref (G.2.2.2.1 106)] : List Value).toArray below meth c H lc 0 0 (MQ below (va_Qv (po_sncopy_35_106 τ    ) (Bs G) G.2.2.2.2) ([.ref (G.2.2.2.1 35), .ref (G.2.2.2.1 106)] : List Value).toArray s 0 0 G.2.2.2.2) (F0 m 10 ls []) := by
    intro n
    induction n with
    | zero => intros; omega
    | succ n ih992 =>
      intro t983 H lc ls i981 X987 I984 F985 hYA986 r982 z988 z989 x991 hl hm
      refine r_iload_n S dX5_copyFrom_10 rfl (lv_at hl 2 rfl) ?_
      refine r_aload_n S dX5_copyFrom_11 rfl (lv_at hl 0 rfl) ?_
      refine r_geti (K := 17) S X987 (Nat.le_of_ble_eq_true rfl) rfl lk5_27_5 (fun _ => ⟨_, rfl, rfl⟩) z989 dX5_copyFrom_12 ?_
      refine r_icmp_ge (tgt := 60) S dX5_copyFrom_15 (by decide) (fun c993 => ?_) (fun c993 => ?_)
      ·
        exact r_vret S hr hlk X987 ⟨I984, F985, x991⟩ dX5_copyFrom_60
      ·
        have r994 : R (0) (39) i981 := ⟨by omega, by omega⟩
        have r995 : R (1) (40) v1 := ⟨by omega, by omega⟩
        refine r_aload_n S dX5_copyFrom_18 rfl (lv_at hl 0 rfl) ?_
        refine r_get (K := 17) (v := .ref (G.2.2.2.1 36)) S X987 (Nat.le_of_ble_eq_true rfl) rfl lk5_13_5 (fun _ => ⟨_, rfl, rfl⟩) dX5_copyFrom_19 ?_
        refine r_iload_n S dX5_copyFrom_22 rfl (lv_at hl 2 rfl) ?_
        refine r_aload_n S dX5_copyFrom_23 rfl (lv_at hl 1 rfl) ?_
        refine r_get (K := 17) (v := .ref (G.2.2.2.1 107)) S X987 (Nat.le_of_ble_eq_true rfl) rfl lk5_13_5 (fun _ => ⟨_, rfl, rfl⟩) dX5_copyFrom_24 ?_
        refine r_iload_n S dX5_copyFrom_27 rfl (lv_at hl 2 rfl) ?_
        refine r_wald2 (n := 40) (K := 18) S X987 (Nat.le_of_ble_eq_true rfl) rfl (fun _ => rfl) (ix_of r994 rfl) (fun _ z => rd I984 rfl z) dX5_copyFrom_28 (fun y996 z997 h998 => ?_) (fun y996 w999 z997 h_w999 e1000 => ?_)
        ·
          have r1001 : R 0 24 y996 := ⟨by omega, by omega⟩
          refine r_castn (n := 40) (K := 18) S X987 (Nat.le_of_ble_eq_true rfl) rfl (fun _ _ => rfl) (ix_of r994 rfl) h998 r1001 dX5_copyFrom_29 (fun t1002 H lc M1003 X1004 => ?_)
          have I1005 := Inv_mu I984 M1003 (show Rg (kd 36) _ y996 from r1001)
          have F1006 : Fr [(35, 4)] [36, 37, 38] τ t1002 := Fr_cell F985 M1003 (by decide)
          refine r_aload_n S dX5_copyFrom_30 rfl (lv_at hl 0 rfl) ?_
          refine r_get (K := 17) (v := .ref (G.2.2.2.1 37)) S X1004 (Nat.le_of_ble_eq_true rfl) rfl lk5_17_5 (fun _ => ⟨_, rfl, rfl⟩) dX5_copyFrom_31 ?_
          refine r_iload_n S dX5_copyFrom_34 rfl (lv_at hl 2 rfl) ?_
          refine r_aload_n S dX5_copyFrom_35 rfl (lv_at hl 1 rfl) ?_
          refine r_get (K := 17) (v := .ref (G.2.2.2.1 108)) S X1004 (Nat.le_of_ble_eq_true rfl) rfl lk5_17_5 (fun _ => ⟨_, rfl, rfl⟩) dX5_copyFrom_36 ?_
          refine r_iload_n S dX5_copyFrom_39 rfl (lv_at hl 2 rfl) ?_
          refine r_aldn (n := 40) (K := 19) S X1004 (Nat.le_of_ble_eq_true rfl) rfl (fun _ => rfl) (ix_of r994 rfl) dX5_copyFrom_40 (fun v1007 z1008 => ?_)
          have r1009 : R (0) (99) v1007 := rd I1005 rfl z1008
          refine r_ast (n := 40) (K := 19) S X1004 (Nat.le_of_ble_eq_true rfl) rfl (fun _ _ => rfl) (ix_of r994 rfl) dX5_copyFrom_41 (fun t1010 H lc M1011 X1012 => ?_)
          have I1013 := Inv_mu I1005 M1011 (show Rg (kd 37) _ v1007 from (R_of (lo := 0) (hi := 99) r1009 rfl))
          have F1014 : Fr [(35, 4)] [36, 37, 38] τ t1010 := Fr_cell F1006 M1011 (by decide)
          refine r_aload_n S dX5_copyFrom_42 rfl (lv_at hl 0 rfl) ?_
          refine r_get (K := 17) (v := .ref (G.2.2.2.1 38)) S X1012 (Nat.le_of_ble_eq_true rfl) rfl lk5_21_5 (fun _ => ⟨_, rfl, rfl⟩) dX5_copyFrom_43 ?_
          refine r_iload_n S dX5_copyFrom_46 rfl (lv_at hl 2 rfl) ?_
          refine r_aload_n S dX5_copyFrom_47 rfl (lv_at hl 1 rfl) ?_
          refine r_get (K := 17) (v := .ref (G.2.2.2.1 109)) S X1012 (Nat.le_of_ble_eq_true rfl) rfl lk5_21_5 (fun _ => ⟨_, rfl, rfl⟩) dX5_copyFrom_48 ?_
          refine r_iload_n S dX5_copyFrom_51 rfl (lv_at hl 2 rfl) ?_
          refine r_aldn (n := 40) (K := 20) S X1012 (Nat.le_of_ble_eq_true rfl) rfl (fun _ => rfl) (ix_of r994 rfl) dX5_copyFrom_52 (fun v1015 z1016 => ?_)
          have r1018 := R_any v1015
          refine r_ast (n := 40) (K := 20) S X1012 (Nat.le_of_ble_eq_true rfl) rfl (fun _ _ => rfl) (ix_of r994 rfl) dX5_copyFrom_53 (fun t1019 H lc M1020 X1021 => ?_)
          have I1022 := Inv_mu I1013 M1020 (R_any v1015)
          have F1023 : Fr [(35, 4)] [36, 37, 38] τ t1019 := Fr_cell F1014 M1020 (by decide)
          refine r_iinc (k := 2) S dX5_copyFrom_54 hl rfl (by decide) (by decide) (fun v1024 d1025 ls z1026 z1027 hl => ?_)
          obtain ⟨e1028, r1029⟩ := i_add (lo := 1) (hi := 40) z1026 r994 (R_eq z1027) rfl
          have hl : lv_has ls 3 [(2, .int v1024), (0, .ref (G.2.2.2.1 35)), (1, .ref (G.2.2.2.1 106))] := hl
          refine r_goto (tgt := 10) S dX5_copyFrom_57 (by decide) ?_
          exact ih992 t1019 _ _ _ v1024 X1021 I1022 F1023 (YA_eq hYA986 (fun j => ((M1020.2 107 j (Or.inl (by decide))).trans ((M1011.2 107 j (Or.inl (by decide))).trans ((M1003.2 107 j (Or.inl (by decide))).trans rfl)))) (fun j => ((M1020.2 108 j (Or.inl (by decide))).trans ((M1011.2 108 j (Or.inl (by decide))).trans ((M1003.2 108 j (Or.inl (by decide))).trans rfl))))) (R_of r1029 rfl) ((M1020.2 106 4 (Or.inl (by decide))).trans ((M1011.2 106 4 (Or.inl (by decide))).trans ((M1003.2 106 4 (Or.inl (by decide))).trans z988))) ((M1020.2 35 4 (Or.inl (by decide))).trans ((M1011.2 35 4 (Or.inl (by decide))).trans ((M1003.2 35 4 (Or.inl (by decide))).trans z989))) (YD_put (k := 35) x991 (fun j hj => ((M1020.2 36 j (Or.inl (by decide))).trans ((M1011.2 36 j (Or.inl (by decide))).trans ((M1003.2 36 j (Or.inr hj)).trans rfl)))) (fun j hj => ((M1020.2 37 j (Or.inl (by decide))).trans ((M1011.2 37 j (Or.inr hj)).trans ((M1003.2 37 j (Or.inl (by decide))).trans rfl)))) (((M1020.2 36 i981.toNatClampNeg (Or.inl (by decide))).trans ((M1011.2 36 i981.toNatClampNeg (Or.inl (by decide))).trans rfl)).trans M1003.1) (((M1020.2 37 i981.toNatClampNeg (Or.inl (by decide))).trans rfl).trans M1011.1) (YD_at (k := 106) hYA986 z997 ((((M1003.2 108 i981.toNatClampNeg (Or.inl (by decide))).trans rfl)).symm.trans z1008))) (lv_sub hl [1, 2, 0] rfl) (by omega)
        ·
          have r1030 : R 0 24 y996 := ⟨by omega, by omega⟩
          refine r_castc (n := 40) (K := 18) S X987 (Nat.le_of_ble_eq_true rfl) rfl (fun _ _ => rfl) (ix_of r994 rfl) e1000 r1030 dX5_copyFrom_29 (fun t1031 H lc M1032 X1033 => ?_)
          have I1034 := Inv_mu I984 M1032 (show Rg (kd 36) _ y996 from r1030)
          have F1035 : Fr [(35, 4)] [36, 37, 38] τ t1031 := Fr_cell F985 M1032 (by decide)
          refine r_aload_n S dX5_copyFrom_30 rfl (lv_at hl 0 rfl) ?_
          refine r_get (K := 17) (v := .ref (G.2.2.2.1 37)) S X1033 (Nat.le_of_ble_eq_true rfl) rfl lk5_17_5 (fun _ => ⟨_, rfl, rfl⟩) dX5_copyFrom_31 ?_
          refine r_iload_n S dX5_copyFrom_34 rfl (lv_at hl 2 rfl) ?_
          refine r_aload_n S dX5_copyFrom_35 rfl (lv_at hl 1 rfl) ?_
          refine r_get (K := 17) (v := .ref (G.2.2.2.1 108)) S X1033 (Nat.le_of_ble_eq_true rfl) rfl lk5_17_5 (fun _ => ⟨_, rfl, rfl⟩) dX5_copyFrom_36 ?_
          refine r_iload_n S dX5_copyFrom_39 rfl (lv_at hl 2 rfl) ?_
          refine r_aldn (n := 40) (K := 19) S X1033 (Nat.le_of_ble_eq_true rfl) rfl (fun _ => rfl) (ix_of r994 rfl) dX5_copyFrom_40 (fun v1036 z1037 => ?_)
          have r1038 : R (0) (99) v1036 := rd I1034 rfl z1037
          refine r_ast (n := 40) (K := 19) S X1033 (Nat.le_of_ble_eq_true rfl) rfl (fun _ _ => rfl) (ix_of r994 rfl) dX5_copyFrom_41 (fun t1039 H lc M1040 X1041 => ?_)
          have I1042 := Inv_mu I1034 M1040 (show Rg (kd 37) _ v1036 from (R_of (lo := 0) (hi := 99) r1038 rfl))
          have F1043 : Fr [(35, 4)] [36, 37, 38] τ t1039 := Fr_cell F1035 M1040 (by decide)
          refine r_aload_n S dX5_copyFrom_42 rfl (lv_at hl 0 rfl) ?_
          refine r_get (K := 17) (v := .ref (G.2.2.2.1 38)) S X1041 (Nat.le_of_ble_eq_true rfl) rfl lk5_21_5 (fun _ => ⟨_, rfl, rfl⟩) dX5_copyFrom_43 ?_
          refine r_iload_n S dX5_copyFrom_46 rfl (lv_at hl 2 rfl) ?_
          refine r_aload_n S dX5_copyFrom_47 rfl (lv_at hl 1 rfl) ?_
          refine r_get (K := 17) (v := .ref (G.2.2.2.1 109)) S X1041 (Nat.le_of_ble_eq_true rfl) rfl lk5_21_5 (fun _ => ⟨_, rfl, rfl⟩) dX5_copyFrom_48 ?_
          refine r_iload_n S dX5_copyFrom_51 rfl (lv_at hl 2 rfl) ?_
          refine r_aldn (n := 40) (K := 20) S X1041 (Nat.le_of_ble_eq_true rfl) rfl (fun _ => rfl) (ix_of r994 rfl) dX5_copyFrom_52 (fun v1044 z1045 => ?_)
          have r1047 := R_any v1044
          refine r_ast (n := 40) (K := 20) S X1041 (Nat.le_of_ble_eq_true rfl) rfl (fun _ _ => rfl) (ix_of r994 rfl) dX5_copyFrom_53 (fun t1048 H lc M1049 X1050 => ?_)
          have I1051 := Inv_mu I1042 M1049 (R_any v1044)
          have F1052 : Fr [(35, 4)] [36, 37, 38] τ t1048 := Fr_cell F1043 M1049 (by decide)
          refine r_iinc (k := 2) S dX5_copyFrom_54 hl rfl (by decide) (by decide) (fun v1053 d1054 ls z1055 z1056 hl => ?_)
          obtain ⟨e1057, r1058⟩ := i_add (lo := 1) (hi := 40) z1055 r994 (R_eq z1056) rfl
          have hl : lv_has ls 3 [(2, .int v1053), (0, .ref (G.2.2.2.1 35)), (1, .ref (G.2.2.2.1 106))] := hl
          refine r_goto (tgt := 10) S dX5_copyFrom_57 (by decide) ?_
          exact ih992 t1048 _ _ _ v1053 X1050 I1051 F1052 (YA_eq hYA986 (fun j => ((M1049.2 107 j (Or.inl (by decide))).trans ((M1040.2 107 j (Or.inl (by decide))).trans ((M1032.2 107 j (Or.inl (by decide))).trans rfl)))) (fun j => ((M1049.2 108 j (Or.inl (by decide))).trans ((M1040.2 108 j (Or.inl (by decide))).trans ((M1032.2 108 j (Or.inl (by decide))).trans rfl))))) (R_of r1058 rfl) ((M1049.2 106 4 (Or.inl (by decide))).trans ((M1040.2 106 4 (Or.inl (by decide))).trans ((M1032.2 106 4 (Or.inl (by decide))).trans z988))) ((M1049.2 35 4 (Or.inl (by decide))).trans ((M1040.2 35 4 (Or.inl (by decide))).trans ((M1032.2 35 4 (Or.inl (by decide))).trans z989))) (YD_put (k := 35) x991 (fun j hj => ((M1049.2 36 j (Or.inl (by decide))).trans ((M1040.2 36 j (Or.inl (by decide))).trans ((M1032.2 36 j (Or.inr hj)).trans rfl)))) (fun j hj => ((M1049.2 37 j (Or.inl (by decide))).trans ((M1040.2 37 j (Or.inr hj)).trans ((M1032.2 37 j (Or.inl (by decide))).trans rfl)))) (((M1049.2 36 i981.toNatClampNeg (Or.inl (by decide))).trans ((M1040.2 36 i981.toNatClampNeg (Or.inl (by decide))).trans rfl)).trans M1032.1) (((M1049.2 37 i981.toNatClampNeg (Or.inl (by decide))).trans rfl).trans M1040.1) (YD_at (k := 106) hYA986 z997 ((((M1032.2 108 i981.toNatClampNeg (Or.inl (by decide))).trans rfl)).symm.trans z1037))) (lv_sub hl [1, 2, 0] rfl) (by omega)
  exact L990 _ t4 _ _ _ v9 X6 I7 F8 (YA_eq hYA (fun j => ((M5.2 107 j (Or.inl (by decide))).trans rfl)) (fun j => ((M5.2 108 j (Or.inl (by decide))).trans rfl))) (R_of r11 rfl) ((M5.2 106 4 (Or.inl (by decide))).trans z2) M5.1 (YW_eq hYW (fun j => ((M5.2 36 j (Or.inl (by decide))).trans rfl)) (fun j => ((M5.2 37 j (Or.inl (by decide))).trans rfl))) (lv_sub hl [1, 2, 0] rfl) (Nat.lt_succ_self _)
def po_sncopy_35_124 (τ : Tau)     (u : Tau) : Prop := Inv u ∧ Fr [(35, 4)] [36, 37, 38] τ u ∧ YW u
set_option maxHeartbeats 4000000 in
set_option maxRecDepth 100000 in
theorem c_sncopy_35_124 (l : Launch) (G : Gx) (τ : Tau) (hI : Inv τ) (hYW : YW τ) (hYB : YB τ) : Cv l G yX5_copyFrom cX5_copyFrom 3 0 0 [.ref (G.2.2.2.1 35), .ref (G.2.2.2.1 124)] τ (po_sncopy_35_124 τ    ) := by
  unfold Cv
  refine C_of (own := RX5) (by decide) rfl (Nat.le_of_ble_eq_true rfl) ?_
  intro p e s m below meth c ls S hr hlk X hl
  have hl : lv_has ls 3 [(0, .ref (G.2.2.2.1 35)), (1, .ref (G.2.2.2.1 124))] := hl
  refine r_aload_n S dX5_copyFrom_0 rfl (lv_at hl 0 rfl) ?_
  refine r_aload_n S dX5_copyFrom_1 rfl (lv_at hl 1 rfl) ?_
  refine r_getn (K := 17) S X (Nat.le_of_ble_eq_true rfl) rfl lk5_27_5 (fun _ => ⟨_, rfl, rfl⟩) dX5_copyFrom_2 (fun v1 z2 => ?_)
  have r3 : R (0) (40) v1 := rd hI rfl z2
  refine r_put (K := 17) (ty := .int) S X (Nat.le_of_ble_eq_true rfl) rfl lk5_27_5 (fun _ => ⟨_, rfl, Nat.le_of_ble_eq_true rfl, rfl⟩) (fun _ _ _ h => by cases h; exact ⟨rfl, rfl⟩) rfl rfl dX5_copyFrom_5 (fun t4 H lc M5 X6 => ?_)
  have I7 := Inv_mu hI M5 (show Rg (kd 35) 4 v1 from (R_of (lo := 0) (hi := 40) r3 rfl))
  have F8 : Fr [(35, 4)] [36, 37, 38] τ t4 := Fr_mu Fr_rfl M5 (by decide)
  refine r_iconst S dX5_copyFrom_8 (by decide) (fun v9 z10 => ?_)
  have r11 := R_eq z10
  refine r_istore_n (lv' := [(2, .int v9), (0, .ref (G.2.2.2.1 35)), (1, .ref (G.2.2.2.1 124))]) S dX5_copyFrom_9 rfl hl (by decide) rfl (fun ls hl => ?_)
  have L990 : ∀ (n : Nat) (t983 : Tau) (H : Heap) (lc : List Loc) (ls : Array Slot) (i981 : Int32), Xd G s H lc t983 → Inv t983 → Fr [(35, 4)] [36, 37, 38] τ t983 → YB t983 → R (0) (40) i981 → t983 124 4 = v1 → t983 35 4 = v1 → YW t983 → lv_has ls 3 [(0, .ref (G.2.2.2.1 35)), (1, .ref (G.2.2.2.1 124)), (2, .int i981)] → (40 - i981.toInt).toNat < n → W p l e (Rm 0 0) s m ([.ref (G.2.2.2.1 35), .ref (G.2.2.2.1 124)] : List Value).toArray below meth c H lc 0 0 (MQ below (va_Qv (po_sncopy_35_124 τ    ) (Bs G) G.2.2.2.2) ([.ref (G.2.2.2.1 35), .ref (G.2.2.2.1 124)] : List Value).toArray s 0 0 G.2.2.2.2) (F0 m 10 ls []) := by
    intro n
    induction n with
    | zero => intros; omega
    | succ n ih992 =>
      intro t983 H lc ls i981 X987 I984 F985 hYB986 r982 z988 z989 x991 hl hm
      refine r_iload_n S dX5_copyFrom_10 rfl (lv_at hl 2 rfl) ?_
      refine r_aload_n S dX5_copyFrom_11 rfl (lv_at hl 0 rfl) ?_
      refine r_geti (K := 17) S X987 (Nat.le_of_ble_eq_true rfl) rfl lk5_27_5 (fun _ => ⟨_, rfl, rfl⟩) z989 dX5_copyFrom_12 ?_
      refine r_icmp_ge (tgt := 60) S dX5_copyFrom_15 (by decide) (fun c993 => ?_) (fun c993 => ?_)
      ·
        exact r_vret S hr hlk X987 ⟨I984, F985, x991⟩ dX5_copyFrom_60
      ·
        have r994 : R (0) (39) i981 := ⟨by omega, by omega⟩
        have r995 : R (1) (40) v1 := ⟨by omega, by omega⟩
        refine r_aload_n S dX5_copyFrom_18 rfl (lv_at hl 0 rfl) ?_
        refine r_get (K := 17) (v := .ref (G.2.2.2.1 36)) S X987 (Nat.le_of_ble_eq_true rfl) rfl lk5_13_5 (fun _ => ⟨_, rfl, rfl⟩) dX5_copyFrom_19 ?_
        refine r_iload_n S dX5_copyFrom_22 rfl (lv_at hl 2 rfl) ?_
        refine r_aload_n S dX5_copyFrom_23 rfl (lv_at hl 1 rfl) ?_
        refine r_get (K := 17) (v := .ref (G.2.2.2.1 125)) S X987 (Nat.le_of_ble_eq_true rfl) rfl lk5_13_5 (fun _ => ⟨_, rfl, rfl⟩) dX5_copyFrom_24 ?_
        refine r_iload_n S dX5_copyFrom_27 rfl (lv_at hl 2 rfl) ?_
        refine r_wald2 (n := 40) (K := 18) S X987 (Nat.le_of_ble_eq_true rfl) rfl (fun _ => rfl) (ix_of r994 rfl) (fun _ z => rd I984 rfl z) dX5_copyFrom_28 (fun y996 z997 h998 => ?_) (fun y996 w999 z997 h_w999 e1000 => ?_)
        ·
          have r1001 : R 0 24 y996 := ⟨by omega, by omega⟩
          refine r_castn (n := 40) (K := 18) S X987 (Nat.le_of_ble_eq_true rfl) rfl (fun _ _ => rfl) (ix_of r994 rfl) h998 r1001 dX5_copyFrom_29 (fun t1002 H lc M1003 X1004 => ?_)
          have I1005 := Inv_mu I984 M1003 (show Rg (kd 36) _ y996 from r1001)
          have F1006 : Fr [(35, 4)] [36, 37, 38] τ t1002 := Fr_cell F985 M1003 (by decide)
          refine r_aload_n S dX5_copyFrom_30 rfl (lv_at hl 0 rfl) ?_
          refine r_get (K := 17) (v := .ref (G.2.2.2.1 37)) S X1004 (Nat.le_of_ble_eq_true rfl) rfl lk5_17_5 (fun _ => ⟨_, rfl, rfl⟩) dX5_copyFrom_31 ?_
          refine r_iload_n S dX5_copyFrom_34 rfl (lv_at hl 2 rfl) ?_
          refine r_aload_n S dX5_copyFrom_35 rfl (lv_at hl 1 rfl) ?_
          refine r_get (K := 17) (v := .ref (G.2.2.2.1 126)) S X1004 (Nat.le_of_ble_eq_true rfl) rfl lk5_17_5 (fun _ => ⟨_, rfl, rfl⟩) dX5_copyFrom_36 ?_
          refine r_iload_n S dX5_copyFrom_39 rfl (lv_at hl 2 rfl) ?_
          refine r_aldn (n := 40) (K := 19) S X1004 (Nat.le_of_ble_eq_true rfl) rfl (fun _ => rfl) (ix_of r994 rfl) dX5_copyFrom_40 (fun v1007 z1008 => ?_)
          have r1009 : R (0) (99) v1007 := rd I1005 rfl z1008
          refine r_ast (n := 40) (K := 19) S X1004 (Nat.le_of_ble_eq_true rfl) rfl (fun _ _ => rfl) (ix_of r994 rfl) dX5_copyFrom_41 (fun t1010 H lc M1011 X1012 => ?_)
          have I1013 := Inv_mu I1005 M1011 (show Rg (kd 37) _ v1007 from (R_of (lo := 0) (hi := 99) r1009 rfl))
          have F1014 : Fr [(35, 4)] [36, 37, 38] τ t1010 := Fr_cell F1006 M1011 (by decide)
          refine r_aload_n S dX5_copyFrom_42 rfl (lv_at hl 0 rfl) ?_
          refine r_get (K := 17) (v := .ref (G.2.2.2.1 38)) S X1012 (Nat.le_of_ble_eq_true rfl) rfl lk5_21_5 (fun _ => ⟨_, rfl, rfl⟩) dX5_copyFrom_43 ?_
          refine r_iload_n S dX5_copyFrom_46 rfl (lv_at hl 2 rfl) ?_
          refine r_aload_n S dX5_copyFrom_47 rfl (lv_at hl 1 rfl) ?_
          refine r_get (K := 17) (v := .ref (G.2.2.2.1 127)) S X1012 (Nat.le_of_ble_eq_true rfl) rfl lk5_21_5 (fun _ => ⟨_, rfl, rfl⟩) dX5_copyFrom_48 ?_
          refine r_iload_n S dX5_copyFrom_51 rfl (lv_at hl 2 rfl) ?_
          refine r_aldn (n := 40) (K := 20) S X1012 (Nat.le_of_ble_eq_true rfl) rfl (fun _ => rfl) (ix_of r994 rfl) dX5_copyFrom_52 (fun v1015 z1016 => ?_)
          have r1018 := R_any v1015
          refine r_ast (n := 40) (K := 20) S X1012 (Nat.le_of_ble_eq_true rfl) rfl (fun _ _ => rfl) (ix_of r994 rfl) dX5_copyFrom_53 (fun t1019 H lc M1020 X1021 => ?_)
          have I1022 := Inv_mu I1013 M1020 (R_any v1015)
          have F1023 : Fr [(35, 4)] [36, 37, 38] τ t1019 := Fr_cell F1014 M1020 (by decide)
          refine r_iinc (k := 2) S dX5_copyFrom_54 hl rfl (by decide) (by decide) (fun v1024 d1025 ls z1026 z1027 hl => ?_)
          obtain ⟨e1028, r1029⟩ := i_add (lo := 1) (hi := 40) z1026 r994 (R_eq z1027) rfl
          have hl : lv_has ls 3 [(2, .int v1024), (0, .ref (G.2.2.2.1 35)), (1, .ref (G.2.2.2.1 124))] := hl
          refine r_goto (tgt := 10) S dX5_copyFrom_57 (by decide) ?_
          exact ih992 t1019 _ _ _ v1024 X1021 I1022 F1023 (YB_eq hYB986 (fun j => ((M1020.2 125 j (Or.inl (by decide))).trans ((M1011.2 125 j (Or.inl (by decide))).trans ((M1003.2 125 j (Or.inl (by decide))).trans rfl)))) (fun j => ((M1020.2 126 j (Or.inl (by decide))).trans ((M1011.2 126 j (Or.inl (by decide))).trans ((M1003.2 126 j (Or.inl (by decide))).trans rfl))))) (R_of r1029 rfl) ((M1020.2 124 4 (Or.inl (by decide))).trans ((M1011.2 124 4 (Or.inl (by decide))).trans ((M1003.2 124 4 (Or.inl (by decide))).trans z988))) ((M1020.2 35 4 (Or.inl (by decide))).trans ((M1011.2 35 4 (Or.inl (by decide))).trans ((M1003.2 35 4 (Or.inl (by decide))).trans z989))) (YD_put (k := 35) x991 (fun j hj => ((M1020.2 36 j (Or.inl (by decide))).trans ((M1011.2 36 j (Or.inl (by decide))).trans ((M1003.2 36 j (Or.inr hj)).trans rfl)))) (fun j hj => ((M1020.2 37 j (Or.inl (by decide))).trans ((M1011.2 37 j (Or.inr hj)).trans ((M1003.2 37 j (Or.inl (by decide))).trans rfl)))) (((M1020.2 36 i981.toNatClampNeg (Or.inl (by decide))).trans ((M1011.2 36 i981.toNatClampNeg (Or.inl (by decide))).trans rfl)).trans M1003.1) (((M1020.2 37 i981.toNatClampNeg (Or.inl (by decide))).trans rfl).trans M1011.1) (YD_at (k := 124) hYB986 z997 ((((M1003.2 126 i981.toNatClampNeg (Or.inl (by decide))).trans rfl)).symm.trans z1008))) (lv_sub hl [1, 2, 0] rfl) (by omega)
        ·
          have r1030 : R 0 24 y996 := ⟨by omega, by omega⟩
          refine r_castc (n := 40) (K := 18) S X987 (Nat.le_of_ble_eq_true rfl) rfl (fun _ _ => rfl) (ix_of r994 rfl) e1000 r1030 dX5_copyFrom_29 (fun t1031 H lc M1032 X1033 => ?_)
          have I1034 := Inv_mu I984 M1032 (show Rg (kd 36) _ y996 from r1030)
          have F1035 : Fr [(35, 4)] [36, 37, 38] τ t1031 := Fr_cell F985 M1032 (by decide)
          refine r_aload_n S dX5_copyFrom_30 rfl (lv_at hl 0 rfl) ?_
          refine r_get (K := 17) (v := .ref (G.2.2.2.1 37)) S X1033 (Nat.le_of_ble_eq_true rfl) rfl lk5_17_5 (fun _ => ⟨_, rfl, rfl⟩) dX5_copyFrom_31 ?_
          refine r_iload_n S dX5_copyFrom_34 rfl (lv_at hl 2 rfl) ?_
          refine r_aload_n S dX5_copyFrom_35 rfl (lv_at hl 1 rfl) ?_
          refine r_get (K := 17) (v := .ref (G.2.2.2.1 126)) S X1033 (Nat.le_of_ble_eq_true rfl) rfl lk5_17_5 (fun _ => ⟨_, rfl, rfl⟩) dX5_copyFrom_36 ?_
          refine r_iload_n S dX5_copyFrom_39 rfl (lv_at hl 2 rfl) ?_
          refine r_aldn (n := 40) (K := 19) S X1033 (Nat.le_of_ble_eq_true rfl) rfl (fun _ => rfl) (ix_of r994 rfl) dX5_copyFrom_40 (fun v1036 z1037 => ?_)
          have r1038 : R (0) (99) v1036 := rd I1034 rfl z1037
          refine r_ast (n := 40) (K := 19) S X1033 (Nat.le_of_ble_eq_true rfl) rfl (fun _ _ => rfl) (ix_of r994 rfl) dX5_copyFrom_41 (fun t1039 H lc M1040 X1041 => ?_)
          have I1042 := Inv_mu I1034 M1040 (show Rg (kd 37) _ v1036 from (R_of (lo := 0) (hi := 99) r1038 rfl))
          have F1043 : Fr [(35, 4)] [36, 37, 38] τ t1039 := Fr_cell F1035 M1040 (by decide)
          refine r_aload_n S dX5_copyFrom_42 rfl (lv_at hl 0 rfl) ?_
          refine r_get (K := 17) (v := .ref (G.2.2.2.1 38)) S X1041 (Nat.le_of_ble_eq_true rfl) rfl lk5_21_5 (fun _ => ⟨_, rfl, rfl⟩) dX5_copyFrom_43 ?_
          refine r_iload_n S dX5_copyFrom_46 rfl (lv_at hl 2 rfl) ?_
          refine r_aload_n S dX5_copyFrom_47 rfl (lv_at hl 1 rfl) ?_
          refine r_get (K := 17) (v := .ref (G.2.2.2.1 127)) S X1041 (Nat.le_of_ble_eq_true rfl) rfl lk5_21_5 (fun _ => ⟨_, rfl, rfl⟩) dX5_copyFrom_48 ?_
          refine r_iload_n S dX5_copyFrom_51 rfl (lv_at hl 2 rfl) ?_
          refine r_aldn (n := 40) (K := 20) S X1041 (Nat.le_of_ble_eq_true rfl) rfl (fun _ => rfl) (ix_of r994 rfl) dX5_copyFrom_52 (fun v1044 z1045 => ?_)
          have r1047 := R_any v1044
          refine r_ast (n := 40) (K := 20) S X1041 (Nat.le_of_ble_eq_true rfl) rfl (fun _ _ => rfl) (ix_of r994 rfl) dX5_copyFrom_53 (fun t1048 H lc M1049 X1050 => ?_)
          have I1051 := Inv_mu I1042 M1049 (R_any v1044)
          have F1052 : Fr [(35, 4)] [36, 37, 38] τ t1048 := Fr_cell F1043 M1049 (by decide)
          refine r_iinc (k := 2) S dX5_copyFrom_54 hl rfl (by decide) (by decide) (fun v1053 d1054 ls z1055 z1056 hl => ?_)
          obtain ⟨e1057, r1058⟩ := i_add (lo := 1) (hi := 40) z1055 r994 (R_eq z1056) rfl
          have hl : lv_has ls 3 [(2, .int v1053), (0, .ref (G.2.2.2.1 35)), (1, .ref (G.2.2.2.1 124))] := hl
          refine r_goto (tgt := 10) S dX5_copyFrom_57 (by decide) ?_
          exact ih992 t1048 _ _ _ v1053 X1050 I1051 F1052 (YB_eq hYB986 (fun j => ((M1049.2 125 j (Or.inl (by decide))).trans ((M1040.2 125 j (Or.inl (by decide))).trans ((M1032.2 125 j (Or.inl (by decide))).trans rfl)))) (fun j => ((M1049.2 126 j (Or.inl (by decide))).trans ((M1040.2 126 j (Or.inl (by decide))).trans ((M1032.2 126 j (Or.inl (by decide))).trans rfl))))) (R_of r1058 rfl) ((M1049.2 124 4 (Or.inl (by decide))).trans ((M1040.2 124 4 (Or.inl (by decide))).trans ((M1032.2 124 4 (Or.inl (by decide))).trans z988))) ((M1049.2 35 4 (Or.inl (by decide))).trans ((M1040.2 35 4 (Or.inl (by decide))).trans ((M1032.2 35 4 (Or.inl (by decide))).trans z989))) (YD_put (k := 35) x991 (fun j hj => ((M1049.2 36 j (Or.inl (by decide))).trans ((M1040.2 36 j (Or.inl (by decide))).trans ((M1032.2 36 j (Or.inr hj)).trans rfl)))) (fun j hj => ((M1049.2 37 j (Or.inl (by decide))).trans ((M1040.2 37 j (Or.inr hj)).trans ((M1032.2 37 j (Or.inl (by decide))).trans rfl)))) (((M1049.2 36 i981.toNatClampNeg (Or.inl (by decide))).trans ((M1040.2 36 i981.toNatClampNeg (Or.inl (by decide))).trans rfl)).trans M1032.1) (((M1049.2 37 i981.toNatClampNeg (Or.inl (by decide))).trans rfl).trans M1040.1) (YD_at (k := 124) hYB986 z997 ((((M1032.2 126 i981.toNatClampNeg (Or.inl (by decide))).trans rfl)).symm.trans z1037))) (lv_sub hl [1, 2, 0] rfl) (by omega)
  exact L990 _ t4 _ _ _ v9 X6 I7 F8 (YB_eq hYB (fun j => ((M5.2 125 j (Or.inl (by decide))).trans rfl)) (fun j => ((M5.2 126 j (Or.inl (by decide))).trans rfl))) (R_of r11 rfl) ((M5.2 124 4 (Or.inl (by decide))).trans z2) M5.1 (YW_eq hYW (fun j => ((M5.2 36 j (Or.inl (by decide))).trans rfl)) (fun j => ((M5.2 37 j (Or.inl (by decide))).trans rfl))) (lv_sub hl [1, 2, 0] rfl) (Nat.lt_succ_self _)
def po_X5_measure_c (τ : Tau)  (a2 : Int32)   (r : Int32) (u : Tau) : Prop := u = τ
set_option maxHeartbeats 4000000 in
set_option maxRecDepth 100000 in
theorem c_X5_measure_c (l : Launch) (G : Gx) (τ : Tau) (hI : Inv τ) (a1 : Nat) (h_a1 : a1 < 24) (a2 : Int32) (h_a2 : R (0) (9) a2) : Ci l G yX5_measure cX5_measure 4 (some .int) 2 47 [.ref (G.2.2.2.1 22), .ref (G.2.2.1 a1), .int a2] τ (po_X5_measure_c τ  a2  ) := by
  unfold Ci
  refine C_of (own := RX5) (by decide) rfl (Nat.le_of_ble_eq_true rfl) ?_
  intro p e s m below meth c ls S hr hlk X hl
  have hl : lv_has ls 4 [(0, .ref (G.2.2.2.1 22)), (1, .ref (G.2.2.1 a1)), (2, .int a2)] := hl
  refine r_aload_n S dX5_measure_0 rfl (lv_at hl 1 rfl) ?_
  refine r_wst (i := 21) S X (by decide) kw57 dX5_measure_1 ?_
  refine r_cacmp_ne (tgt := 17) S h_a1 (by decide) dX5_measure_4 (by decide) (fun c1 => ?_) (fun c1 => ?_)
  ·
    refine r_aload_n S dX5_measure_17 rfl (lv_at hl 1 rfl) ?_
    refine r_wst (i := 22) S X (by decide) kw58 dX5_measure_18 ?_
    refine r_cacmp_ne (tgt := 34) S h_a1 (by decide) dX5_measure_21 (by decide) (fun c2 => ?_) (fun c2 => ?_)
    ·
      refine r_aload_n S dX5_measure_34 rfl (lv_at hl 1 rfl) ?_
      refine r_wst (i := 23) S X (by decide) kw59 dX5_measure_35 ?_
      refine r_cacmp_ne (tgt := 43) S h_a1 (by decide) dX5_measure_38 (by decide) (fun c3 => ?_) (fun c3 => ?_)
      ·
        refine r_aload_n S dX5_measure_43 rfl (lv_at hl 0 rfl) ?_
        refine r_get (K := 22) (v := .ref (G.2.2.2.1 30)) S X (Nat.le_of_ble_eq_true rfl) rfl lk5_60_8 (fun _ => ⟨_, rfl, rfl⟩) dX5_measure_44 ?_
        refine r_getn (K := 23) S X (Nat.le_of_ble_eq_true rfl) rfl lk5_124_3 (fun _ => ⟨_, rfl, rfl⟩) dX5_measure_47 (fun v4 z5 => ?_)
        have r6 : R (-1) (8) v4 := rd hI rfl z5
        refine r_istore_n (lv' := [(3, .int v4), (0, .ref (G.2.2.2.1 22)), (1, .ref (G.2.2.1 a1)), (2, .int a2)]) S dX5_measure_50 rfl hl (by decide) rfl (fun ls hl => ?_)
        refine r_iload_n S dX5_measure_51 rfl (lv_at hl 0 rfl) ?_
        refine r_iconst S dX5_measure_52 (by decide) (fun v7 z8 => ?_)
        have r9 := R_eq z8
        refine r_icmp_ne (tgt := 60) S dX5_measure_53 (by decide) (fun c10 => ?_) (fun c10 => ?_)
        ·
          have r11 : R (0) (8) v4 := ⟨by omega, by omega⟩
          refine r_aload_n S dX5_measure_60 rfl (lv_at hl 1 rfl) ?_
          refine r_iload_n S dX5_measure_61 rfl (lv_at hl 3 rfl) ?_
          refine r_iload_n S dX5_measure_62 rfl (lv_at hl 0 rfl) ?_
          refine r_ki (q_V (As := [.int a2, .int v4]) (rest := []) (K := 22) (ci := 8) S X (c_X10_spoken l G τ hI a2 v4 h_a2 r11) ck5_98 (Nat.le_of_ble_eq_true rfl) rfl (fun _ => ⟨_, rfl⟩) ⟨_, _, rfl⟩ ⟨Nat.le_of_ble_eq_true rfl, Nat.le_of_ble_eq_true rfl⟩ rfl hl.1 rfl (Nat.le_of_ble_eq_true rfl) dX5_measure_63 ⟨Nat.le_refl 0, Nat.le_refl 0⟩) X (fun v15 t14 H lc q12 X13 => ?_)
          unfold po_X10_spoken at q12
          obtain ⟨q16, q17⟩ := q12
          rw [q16] at X13
          refine r_abs S hl.1 kw60 kw4 kw5 cd_J9_abs_0f7a4 ⟨Nat.le_of_ble_eq_true rfl, Nat.le_of_ble_eq_true rfl⟩ ⟨Nat.le_refl 0, Nat.le_refl 0⟩ (by omega) dX5_measure_66 (fun v18 h19 => ?_)
          have r20 : R 0 (9) v18 := ⟨by omega, by omega⟩
          exact r_ret S hr hlk X13 rfl rfl dX5_measure_69
        ·
          have r21 : R (-1) (-1) v4 := ⟨by omega, by omega⟩
          refine r_iconst S dX5_measure_56 (by decide) (fun v22 z23 => ?_)
          have r24 := R_eq z23
          refine r_goto (tgt := 69) S dX5_measure_57 (by decide) ?_
          exact r_ret S hr hlk X rfl rfl dX5_measure_69
      ·
        refine r_iload_n S dX5_measure_41 rfl (lv_at hl 2 rfl) ?_
        exact r_ret S hr hlk X rfl rfl dX5_measure_42
    ·
      refine r_aload_n S dX5_measure_24 rfl (lv_at hl 0 rfl) ?_
      refine r_get (K := 22) (v := .ref (G.2.2.2.1 30)) S X (Nat.le_of_ble_eq_true rfl) rfl lk5_60_8 (fun _ => ⟨_, rfl, rfl⟩) dX5_measure_25 ?_
      refine r_get (K := 23) (v := .ref (G.2.2.2.1 34)) S X (Nat.le_of_ble_eq_true rfl) rfl lk5_118_3 (fun _ => ⟨_, rfl, rfl⟩) dX5_measure_28 ?_
      refine r_iload_n S dX5_measure_31 rfl (lv_at hl 2 rfl) ?_
      refine r_aldn (n := 10) (K := 27) S X (Nat.le_of_ble_eq_true rfl) rfl (fun _ => rfl) (ix_of h_a2 rfl) dX5_measure_32 (fun v25 z26 => ?_)
      have r28 := R_any v25
      exact r_ret S hr hlk X rfl rfl dX5_measure_33
  ·
    refine r_aload_n S dX5_measure_7 rfl (lv_at hl 0 rfl) ?_
    refine r_get (K := 22) (v := .ref (G.2.2.2.1 23)) S X (Nat.le_of_ble_eq_true rfl) rfl lk5_31_8 (fun _ => ⟨_, rfl, rfl⟩) dX5_measure_8 ?_
    refine r_get (K := 4) (v := .ref (G.2.2.2.1 24)) S X (Nat.le_of_ble_eq_true rfl) rfl lk5_112_2 (fun _ => ⟨_, rfl, rfl⟩) dX5_measure_11 ?_
    refine r_iload_n S dX5_measure_14 rfl (lv_at hl 2 rfl) ?_
    refine r_aldn (n := 10) (K := 5) S X (Nat.le_of_ble_eq_true rfl) rfl (fun _ => rfl) (ix_of h_a2 rfl) dX5_measure_15 (fun v29 z30 => ?_)
    have r31 : R (0) (20) v29 := rd hI rfl z30
    exact r_ret S hr hlk X rfl rfl dX5_measure_16
def po_X5_measure_n (τ : Tau)  (a2 : Int32)   (r : Int32) (u : Tau) : Prop := u = τ
set_option maxHeartbeats 4000000 in
set_option maxRecDepth 100000 in
theorem c_X5_measure_n (l : Launch) (G : Gx) (τ : Tau) (hI : Inv τ) (a2 : Int32) (h_a2 : R (0) (9) a2) : Ci l G yX5_measure cX5_measure 4 (some .int) 2 47 [.ref (G.2.2.2.1 22), .null, .int a2] τ (po_X5_measure_n τ  a2  ) := by
  unfold Ci
  refine C_of (own := RX5) (by decide) rfl (Nat.le_of_ble_eq_true rfl) ?_
  intro p e s m below meth c ls S hr hlk X hl
  have hl : lv_has ls 4 [(0, .ref (G.2.2.2.1 22)), (1, .null), (2, .int a2)] := hl
  refine lv_aload_nN S.1.1 S.1.2.1 dX5_measure_0 rfl (lv_at hl 1 rfl) ?_
  refine r_wst (i := 21) S X (by decide) kw57 dX5_measure_1 ?_
  refine r_nacmp_ne (tgt := 17) S dX5_measure_4 (by decide) ?_
  refine lv_aload_nN S.1.1 S.1.2.1 dX5_measure_17 rfl (lv_at hl 1 rfl) ?_
  refine r_wst (i := 22) S X (by decide) kw58 dX5_measure_18 ?_
  refine r_nacmp_ne (tgt := 34) S dX5_measure_21 (by decide) ?_
  refine lv_aload_nN S.1.1 S.1.2.1 dX5_measure_34 rfl (lv_at hl 1 rfl) ?_
  refine r_wst (i := 23) S X (by decide) kw59 dX5_measure_35 ?_
  refine r_nacmp_ne (tgt := 43) S dX5_measure_38 (by decide) ?_
  refine r_aload_n S dX5_measure_43 rfl (lv_at hl 0 rfl) ?_
  refine r_get (K := 22) (v := .ref (G.2.2.2.1 30)) S X (Nat.le_of_ble_eq_true rfl) rfl lk5_60_8 (fun _ => ⟨_, rfl, rfl⟩) dX5_measure_44 ?_
  refine r_getn (K := 23) S X (Nat.le_of_ble_eq_true rfl) rfl lk5_124_3 (fun _ => ⟨_, rfl, rfl⟩) dX5_measure_47 (fun v4 z5 => ?_)
  have r6 : R (-1) (8) v4 := rd hI rfl z5
  refine r_istore_n (lv' := [(3, .int v4), (0, .ref (G.2.2.2.1 22)), (1, .null), (2, .int a2)]) S dX5_measure_50 rfl hl (by decide) rfl (fun ls hl => ?_)
  refine r_iload_n S dX5_measure_51 rfl (lv_at hl 0 rfl) ?_
  refine r_iconst S dX5_measure_52 (by decide) (fun v7 z8 => ?_)
  have r9 := R_eq z8
  refine r_icmp_ne (tgt := 60) S dX5_measure_53 (by decide) (fun c10 => ?_) (fun c10 => ?_)
  ·
    have r11 : R (0) (8) v4 := ⟨by omega, by omega⟩
    refine r_aload_n S dX5_measure_60 rfl (lv_at hl 1 rfl) ?_
    refine r_iload_n S dX5_measure_61 rfl (lv_at hl 3 rfl) ?_
    refine r_iload_n S dX5_measure_62 rfl (lv_at hl 0 rfl) ?_
    refine r_ki (q_V (As := [.int a2, .int v4]) (rest := []) (K := 22) (ci := 8) S X (c_X10_spoken l G τ hI a2 v4 h_a2 r11) ck5_98 (Nat.le_of_ble_eq_true rfl) rfl (fun _ => ⟨_, rfl⟩) ⟨_, _, rfl⟩ ⟨Nat.le_of_ble_eq_true rfl, Nat.le_of_ble_eq_true rfl⟩ rfl hl.1 rfl (Nat.le_of_ble_eq_true rfl) dX5_measure_63 ⟨Nat.le_refl 0, Nat.le_refl 0⟩) X (fun v15 t14 H lc q12 X13 => ?_)
    unfold po_X10_spoken at q12
    obtain ⟨q16, q17⟩ := q12
    rw [q16] at X13
    refine r_abs S hl.1 kw60 kw4 kw5 cd_J9_abs_0f7a4 ⟨Nat.le_of_ble_eq_true rfl, Nat.le_of_ble_eq_true rfl⟩ ⟨Nat.le_refl 0, Nat.le_refl 0⟩ (by omega) dX5_measure_66 (fun v18 h19 => ?_)
    have r20 : R 0 (9) v18 := ⟨by omega, by omega⟩
    exact r_ret S hr hlk X13 rfl rfl dX5_measure_69
  ·
    have r21 : R (-1) (-1) v4 := ⟨by omega, by omega⟩
    refine r_iconst S dX5_measure_56 (by decide) (fun v22 z23 => ?_)
    have r24 := R_eq z23
    refine r_goto (tgt := 69) S dX5_measure_57 (by decide) ?_
    exact r_ret S hr hlk X rfl rfl dX5_measure_69
def po_X5_isTrueOf (τ : Tau)  (a1 a2 : Int32)   (r : Int32) (u : Tau) : Prop := u = τ ∧ R (0) (1) r
set_option maxHeartbeats 4000000 in
set_option maxRecDepth 100000 in
theorem c_X5_isTrueOf (l : Launch) (G : Gx) (τ : Tau) (hI : Inv τ) (a1 : Int32) (a2 : Int32) (h_a1 : R (0) (39) a1) (h_a2 : R (0) (9) a2) (hYW : YW τ) : Ci l G yX5_isTrueOf cX5_isTrueOf 7 (some .boolean) 3 70 [.ref (G.2.2.2.1 35), .ref (G.2.2.2.1 22), .int a1, .int a2] τ (po_X5_isTrueOf τ  a1 a2  ) := by
  unfold Ci
  refine C_of (own := RX5) (by decide) rfl (Nat.le_of_ble_eq_true rfl) ?_
  intro p e s m below meth c ls S hr hlk X hl
  have hl : lv_has ls 7 [(0, .ref (G.2.2.2.1 35)), (1, .ref (G.2.2.2.1 22)), (2, .int a1), (3, .int a2)] := hl
  refine r_aload_n S dX5_isTrueOf_0 rfl (lv_at hl 0 rfl) ?_
  refine r_get (K := 17) (v := .ref (G.2.2.2.1 36)) S X (Nat.le_of_ble_eq_true rfl) rfl lk5_13_5 (fun _ => ⟨_, rfl, rfl⟩) dX5_isTrueOf_1 ?_
  refine r_iload_n S dX5_isTrueOf_4 rfl (lv_at hl 2 rfl) ?_
  refine r_wald2 (n := 40) (K := 18) S X (Nat.le_of_ble_eq_true rfl) rfl (fun _ => rfl) (ix_of h_a1 rfl) (fun _ z => rd hI rfl z) dX5_isTrueOf_5 (fun y1 z2 h3 => ?_) (fun y1 w4 z2 h_w4 e5 => ?_)
  ·
    refine lv_astoreN (lv' := [(4, .null), (0, .ref (G.2.2.2.1 35)), (1, .ref (G.2.2.2.1 22)), (2, .int a1), (3, .int a2)]) S.1.1 S.1.2.1 dX5_isTrueOf_6 hl (by decide) rfl (fun ls hl => ?_)
    refine r_aload_n S dX5_isTrueOf_8 rfl (lv_at hl 1 rfl) ?_
    refine r_get (K := 17) (v := .ref (G.2.2.2.1 37)) S X (Nat.le_of_ble_eq_true rfl) rfl lk5_17_5 (fun _ => ⟨_, rfl, rfl⟩) dX5_isTrueOf_9 ?_
    refine r_iload_n S dX5_isTrueOf_12 rfl (lv_at hl 3 rfl) ?_
    refine r_aldn (n := 40) (K := 19) S X (Nat.le_of_ble_eq_true rfl) rfl (fun _ => rfl) (ix_of h_a1 rfl) dX5_isTrueOf_13 (fun v6 z7 => ?_)
    have r8 : R (0) (99) v6 := rd hI rfl z7
    refine r_istore (lv' := [(5, .int v6), (4, .null), (0, .ref (G.2.2.2.1 35)), (1, .ref (G.2.2.2.1 22)), (2, .int a1), (3, .int a2)]) S dX5_isTrueOf_14 hl (by decide) rfl (fun ls hl => ?_)
    refine lv_aloadN S.1.1 S.1.2.1 dX5_isTrueOf_16 (lv_at hl 1 rfl) ?_
    refine r_wst (i := 4) S X (by decide) kw61 dX5_isTrueOf_18 ?_
    refine r_nacmp_ne (tgt := 40) S dX5_isTrueOf_21 (by decide) ?_
    refine lv_aloadN S.1.1 S.1.2.1 dX5_isTrueOf_40 (lv_at hl 1 rfl) ?_
    refine r_wst (i := 5) S X (by decide) kw62 dX5_isTrueOf_42 ?_
    refine r_nacmp_ne (tgt := 64) S dX5_isTrueOf_45 (by decide) ?_
    refine r_aload_n S dX5_isTrueOf_64 rfl (lv_at hl 3 rfl) ?_
    refine lv_aloadN S.1.1 S.1.2.1 dX5_isTrueOf_65 (lv_at hl 1 rfl) ?_
    refine r_iload_n S dX5_isTrueOf_67 rfl (lv_at hl 5 rfl) ?_
    refine r_ki (q_S (As := [.ref (G.2.2.2.1 22), .null, .int a2]) (rest := []) S X (c_X5_measure_n l G τ hI a2 h_a2) ck5_105 ⟨Nat.le_of_ble_eq_true rfl, Nat.le_of_ble_eq_true rfl⟩ rfl hl.1 rfl (Nat.le_of_ble_eq_true rfl) dX5_isTrueOf_68 ⟨Nat.le_refl 0, Nat.le_refl 0⟩) X (fun v14 t13 H lc q11 X12 => ?_)
    unfold po_X5_measure_n at q11
    have q15 := q11
    rw [q15] at X12
    have r16 := R_any v14
    refine r_istore (lv' := [(6, .int v14), (5, .int v6), (4, .null), (0, .ref (G.2.2.2.1 35)), (1, .ref (G.2.2.2.1 22)), (2, .int a1), (3, .int a2)]) S dX5_isTrueOf_71 hl (by decide) rfl (fun ls hl => ?_)
    refine r_aload_n S dX5_isTrueOf_73 rfl (lv_at hl 3 rfl) ?_
    refine r_get (K := 17) (v := .ref (G.2.2.2.1 38)) S X12 (Nat.le_of_ble_eq_true rfl) rfl lk5_21_5 (fun _ => ⟨_, rfl, rfl⟩) dX5_isTrueOf_74 ?_
    refine r_iload_n S dX5_isTrueOf_77 rfl (lv_at hl 5 rfl) ?_
    refine r_aldn (n := 40) (K := 20) S X12 (Nat.le_of_ble_eq_true rfl) rfl (fun _ => rfl) (ix_of h_a1 rfl) dX5_isTrueOf_78 (fun v17 z18 => ?_)
    have r20 := R_any v17
    rcases (show v17.toInt = 60 ∨ v17.toInt = 61 ∨ (v17.toInt ≠ 60 ∧ v17.toInt ≠ 61) by omega) with c21 | c21 | c21
    ·
      refine lv_lookup (tgt := 104) (off := 25) S.1.1 S.1.2.1 dX5_isTrueOf_79 (by decide) (by rw [c21]; rfl) (by decide) ?_
      have r22 : R (60) (60) v17 := ⟨by omega, by omega⟩
      refine r_iload S dX5_isTrueOf_104 (lv_at hl 0 rfl) ?_
      refine r_iload S dX5_isTrueOf_106 (lv_at hl 1 rfl) ?_
      refine r_icmp_ge (tgt := 115) S dX5_isTrueOf_108 (by decide) (fun c23 => ?_) (fun c23 => ?_)
      ·
        have r24 : R (0) (2147483647) v14 := ⟨by omega, by omega⟩
        refine r_iconst S dX5_isTrueOf_115 (by decide) (fun v25 z26 => ?_)
        have r27 := R_eq z26
        exact r_ret S hr hlk X12 ⟨rfl, (R_of r27 rfl)⟩ (nr_bool (R_of (lo := 0) (hi := 1) r27 rfl)) dX5_isTrueOf_116
      ·
        have r28 : R (-2147483648) (98) v14 := ⟨by omega, by omega⟩
        refine r_iconst S dX5_isTrueOf_111 (by decide) (fun v29 z30 => ?_)
        have r31 := R_eq z30
        refine r_goto (tgt := 116) S dX5_isTrueOf_112 (by decide) ?_
        exact r_ret S hr hlk X12 ⟨rfl, (R_of r31 rfl)⟩ (nr_bool (R_of (lo := 0) (hi := 1) r31 rfl)) dX5_isTrueOf_116
    ·
      refine lv_lookup (tgt := 117) (off := 38) S.1.1 S.1.2.1 dX5_isTrueOf_79 (by decide) (by rw [c21]; rfl) (by decide) ?_
      have r32 : R (61) (61) v17 := ⟨by omega, by omega⟩
      refine r_iload S dX5_isTrueOf_117 (lv_at hl 0 rfl) ?_
      refine r_iload S dX5_isTrueOf_119 (lv_at hl 1 rfl) ?_
      refine r_icmp_ne (tgt := 128) S dX5_isTrueOf_121 (by decide) (fun c33 => ?_) (fun c33 => ?_)
      ·
        refine r_iconst S dX5_isTrueOf_128 (by decide) (fun v34 z35 => ?_)
        have r36 := R_eq z35
        exact r_ret S hr hlk X12 ⟨rfl, (R_of r36 rfl)⟩ (nr_bool (R_of (lo := 0) (hi := 1) r36 rfl)) dX5_isTrueOf_129
      ·
        have r37 : R (0) (99) v14 := ⟨by omega, by omega⟩
        refine r_iconst S dX5_isTrueOf_124 (by decide) (fun v38 z39 => ?_)
        have r40 := R_eq z39
        refine r_goto (tgt := 129) S dX5_isTrueOf_125 (by decide) ?_
        exact r_ret S hr hlk X12 ⟨rfl, (R_of r40 rfl)⟩ (nr_bool (R_of (lo := 0) (hi := 1) r40 rfl)) dX5_isTrueOf_129
    ·
      refine lv_lookup (tgt := 130) (off := 51) S.1.1 S.1.2.1 dX5_isTrueOf_79 (by decide) (by have k0 := c21.1.symm; have k1 := c21.2.symm; simp [Op.lookupswitch.offset, k0, k1]) (by decide) ?_
      refine r_iload S dX5_isTrueOf_130 (lv_at hl 0 rfl) ?_
      refine r_iload S dX5_isTrueOf_132 (lv_at hl 1 rfl) ?_
      refine r_icmp_le (tgt := 141) S dX5_isTrueOf_134 (by decide) (fun c41 => ?_) (fun c41 => ?_)
      ·
        have r42 : R (-2147483648) (99) v14 := ⟨by omega, by omega⟩
        refine r_iconst S dX5_isTrueOf_141 (by decide) (fun v43 z44 => ?_)
        have r45 := R_eq z44
        exact r_ret S hr hlk X12 ⟨rfl, (R_of r45 rfl)⟩ (nr_bool (R_of (lo := 0) (hi := 1) r45 rfl)) dX5_isTrueOf_142
      ·
        have r46 : R (1) (2147483647) v14 := ⟨by omega, by omega⟩
        refine r_iconst S dX5_isTrueOf_137 (by decide) (fun v47 z48 => ?_)
        have r49 := R_eq z48
        refine r_goto (tgt := 142) S dX5_isTrueOf_138 (by decide) ?_
        exact r_ret S hr hlk X12 ⟨rfl, (R_of r49 rfl)⟩ (nr_bool (R_of (lo := 0) (hi := 1) r49 rfl)) dX5_isTrueOf_142
  ·
    refine r_astore (lv' := [(4, .ref (G.2.2.1 w4)), (0, .ref (G.2.2.2.1 35)), (1, .ref (G.2.2.2.1 22)), (2, .int a1), (3, .int a2)]) S dX5_isTrueOf_6 hl (by decide) rfl (fun ls hl => ?_)
    refine r_aload_n S dX5_isTrueOf_8 rfl (lv_at hl 1 rfl) ?_
    refine r_get (K := 17) (v := .ref (G.2.2.2.1 37)) S X (Nat.le_of_ble_eq_true rfl) rfl lk5_17_5 (fun _ => ⟨_, rfl, rfl⟩) dX5_isTrueOf_9 ?_
    refine r_iload_n S dX5_isTrueOf_12 rfl (lv_at hl 3 rfl) ?_
    refine r_aldn (n := 40) (K := 19) S X (Nat.le_of_ble_eq_true rfl) rfl (fun _ => rfl) (ix_of h_a1 rfl) dX5_isTrueOf_13 (fun v50 z51 => ?_)
    have r52 : R (0) (99) v50 := rd hI rfl z51
    refine r_istore (lv' := [(5, .int v50), (4, .ref (G.2.2.1 w4)), (0, .ref (G.2.2.2.1 35)), (1, .ref (G.2.2.2.1 22)), (2, .int a1), (3, .int a2)]) S dX5_isTrueOf_14 hl (by decide) rfl (fun ls hl => ?_)
    refine r_aload S dX5_isTrueOf_16 (lv_at hl 1 rfl) ?_
    refine r_wst (i := 4) S X (by decide) kw61 dX5_isTrueOf_18 ?_
    refine r_cacmp_ne (tgt := 40) S h_w4 (by decide) dX5_isTrueOf_21 (by decide) (fun c53 => ?_) (fun c53 => ?_)
    ·
      refine r_aload S dX5_isTrueOf_40 (lv_at hl 1 rfl) ?_
      refine r_wst (i := 5) S X (by decide) kw62 dX5_isTrueOf_42 ?_
      refine r_cacmp_ne (tgt := 64) S h_w4 (by decide) dX5_isTrueOf_45 (by decide) (fun c54 => ?_) (fun c54 => ?_)
      ·
        refine r_aload_n S dX5_isTrueOf_64 rfl (lv_at hl 3 rfl) ?_
        refine r_aload S dX5_isTrueOf_65 (lv_at hl 1 rfl) ?_
        refine r_iload_n S dX5_isTrueOf_67 rfl (lv_at hl 5 rfl) ?_
        refine r_ki (q_S (As := [.ref (G.2.2.2.1 22), .ref (G.2.2.1 w4), .int a2]) (rest := []) S X (c_X5_measure_c l G τ hI w4 h_w4 a2 h_a2) ck5_105 ⟨Nat.le_of_ble_eq_true rfl, Nat.le_of_ble_eq_true rfl⟩ rfl hl.1 rfl (Nat.le_of_ble_eq_true rfl) dX5_isTrueOf_68 ⟨Nat.le_refl 0, Nat.le_refl 0⟩) X (fun v58 t57 H lc q55 X56 => ?_)
        unfold po_X5_measure_c at q55
        have q59 := q55
        rw [q59] at X56
        have r60 := R_any v58
        refine r_istore (lv' := [(6, .int v58), (5, .int v50), (4, .ref (G.2.2.1 w4)), (0, .ref (G.2.2.2.1 35)), (1, .ref (G.2.2.2.1 22)), (2, .int a1), (3, .int a2)]) S dX5_isTrueOf_71 hl (by decide) rfl (fun ls hl => ?_)
        refine r_aload_n S dX5_isTrueOf_73 rfl (lv_at hl 3 rfl) ?_
        refine r_get (K := 17) (v := .ref (G.2.2.2.1 38)) S X56 (Nat.le_of_ble_eq_true rfl) rfl lk5_21_5 (fun _ => ⟨_, rfl, rfl⟩) dX5_isTrueOf_74 ?_
        refine r_iload_n S dX5_isTrueOf_77 rfl (lv_at hl 5 rfl) ?_
        refine r_aldn (n := 40) (K := 20) S X56 (Nat.le_of_ble_eq_true rfl) rfl (fun _ => rfl) (ix_of h_a1 rfl) dX5_isTrueOf_78 (fun v61 z62 => ?_)
        have r64 := R_any v61
        rcases (show v61.toInt = 60 ∨ v61.toInt = 61 ∨ (v61.toInt ≠ 60 ∧ v61.toInt ≠ 61) by omega) with c65 | c65 | c65
        ·
          refine lv_lookup (tgt := 104) (off := 25) S.1.1 S.1.2.1 dX5_isTrueOf_79 (by decide) (by rw [c65]; rfl) (by decide) ?_
          have r66 : R (60) (60) v61 := ⟨by omega, by omega⟩
          refine r_iload S dX5_isTrueOf_104 (lv_at hl 0 rfl) ?_
          refine r_iload S dX5_isTrueOf_106 (lv_at hl 1 rfl) ?_
          refine r_icmp_ge (tgt := 115) S dX5_isTrueOf_108 (by decide) (fun c67 => ?_) (fun c67 => ?_)
          ·
            have r68 : R (0) (2147483647) v58 := ⟨by omega, by omega⟩
            refine r_iconst S dX5_isTrueOf_115 (by decide) (fun v69 z70 => ?_)
            have r71 := R_eq z70
            exact r_ret S hr hlk X56 ⟨rfl, (R_of r71 rfl)⟩ (nr_bool (R_of (lo := 0) (hi := 1) r71 rfl)) dX5_isTrueOf_116
          ·
            have r72 : R (-2147483648) (98) v58 := ⟨by omega, by omega⟩
            refine r_iconst S dX5_isTrueOf_111 (by decide) (fun v73 z74 => ?_)
            have r75 := R_eq z74
            refine r_goto (tgt := 116) S dX5_isTrueOf_112 (by decide) ?_
            exact r_ret S hr hlk X56 ⟨rfl, (R_of r75 rfl)⟩ (nr_bool (R_of (lo := 0) (hi := 1) r75 rfl)) dX5_isTrueOf_116
        ·
          refine lv_lookup (tgt := 117) (off := 38) S.1.1 S.1.2.1 dX5_isTrueOf_79 (by decide) (by rw [c65]; rfl) (by decide) ?_
          have r76 : R (61) (61) v61 := ⟨by omega, by omega⟩
          refine r_iload S dX5_isTrueOf_117 (lv_at hl 0 rfl) ?_
          refine r_iload S dX5_isTrueOf_119 (lv_at hl 1 rfl) ?_
          refine r_icmp_ne (tgt := 128) S dX5_isTrueOf_121 (by decide) (fun c77 => ?_) (fun c77 => ?_)
          ·
            refine r_iconst S dX5_isTrueOf_128 (by decide) (fun v78 z79 => ?_)
            have r80 := R_eq z79
            exact r_ret S hr hlk X56 ⟨rfl, (R_of r80 rfl)⟩ (nr_bool (R_of (lo := 0) (hi := 1) r80 rfl)) dX5_isTrueOf_129
          ·
            have r81 : R (0) (99) v58 := ⟨by omega, by omega⟩
            refine r_iconst S dX5_isTrueOf_124 (by decide) (fun v82 z83 => ?_)
            have r84 := R_eq z83
            refine r_goto (tgt := 129) S dX5_isTrueOf_125 (by decide) ?_
            exact r_ret S hr hlk X56 ⟨rfl, (R_of r84 rfl)⟩ (nr_bool (R_of (lo := 0) (hi := 1) r84 rfl)) dX5_isTrueOf_129
        ·
          refine lv_lookup (tgt := 130) (off := 51) S.1.1 S.1.2.1 dX5_isTrueOf_79 (by decide) (by have k0 := c65.1.symm; have k1 := c65.2.symm; simp [Op.lookupswitch.offset, k0, k1]) (by decide) ?_
          refine r_iload S dX5_isTrueOf_130 (lv_at hl 0 rfl) ?_
          refine r_iload S dX5_isTrueOf_132 (lv_at hl 1 rfl) ?_
          refine r_icmp_le (tgt := 141) S dX5_isTrueOf_134 (by decide) (fun c85 => ?_) (fun c85 => ?_)
          ·
            have r86 : R (-2147483648) (99) v58 := ⟨by omega, by omega⟩
            refine r_iconst S dX5_isTrueOf_141 (by decide) (fun v87 z88 => ?_)
            have r89 := R_eq z88
            exact r_ret S hr hlk X56 ⟨rfl, (R_of r89 rfl)⟩ (nr_bool (R_of (lo := 0) (hi := 1) r89 rfl)) dX5_isTrueOf_142
          ·
            have r90 : R (1) (2147483647) v58 := ⟨by omega, by omega⟩
            refine r_iconst S dX5_isTrueOf_137 (by decide) (fun v91 z92 => ?_)
            have r93 := R_eq z92
            refine r_goto (tgt := 142) S dX5_isTrueOf_138 (by decide) ?_
            exact r_ret S hr hlk X56 ⟨rfl, (R_of r93 rfl)⟩ (nr_bool (R_of (lo := 0) (hi := 1) r93 rfl)) dX5_isTrueOf_142
      ·
        have h94 := YD_at (k := 35) hYW z2 z51 (by omega)
        have r95 : R (0) (8) v50 := ⟨by omega, by omega⟩
        refine r_aload_n S dX5_isTrueOf_48 rfl (lv_at hl 3 rfl) ?_
        refine r_iload_n S dX5_isTrueOf_49 rfl (lv_at hl 5 rfl) ?_
        refine r_iload S dX5_isTrueOf_50 (lv_at hl 0 rfl) ?_
        refine r_ki (q_V (As := [.int a2, .int v50]) (rest := []) (K := 22) (ci := 8) S X (c_X10_spoken l G τ hI a2 v50 h_a2 r95) ck5_98 (Nat.le_of_ble_eq_true rfl) rfl (fun _ => ⟨_, rfl⟩) ⟨_, _, rfl⟩ ⟨Nat.le_of_ble_eq_true rfl, Nat.le_of_ble_eq_true rfl⟩ rfl hl.1 rfl (Nat.le_of_ble_eq_true rfl) dX5_isTrueOf_52 ⟨Nat.le_refl 0, Nat.le_refl 0⟩) X (fun v99 t98 H lc q96 X97 => ?_)
        unfold po_X10_spoken at q96
        obtain ⟨q100, q101⟩ := q96
        rw [q100] at X97
        refine r_if_ge (tgt := 62) S dX5_isTrueOf_55 (by decide) (fun c102 => ?_) (fun c102 => ?_)
        ·
          have r103 : R (0) (9) v99 := ⟨by omega, by omega⟩
          refine r_iconst S dX5_isTrueOf_62 (by decide) (fun v104 z105 => ?_)
          have r106 := R_eq z105
          exact r_ret S hr hlk X97 ⟨rfl, (R_of r106 rfl)⟩ (nr_bool (R_of (lo := 0) (hi := 1) r106 rfl)) dX5_isTrueOf_63
        ·
          have r107 : R (-9) (-1) v99 := ⟨by omega, by omega⟩
          refine r_iconst S dX5_isTrueOf_58 (by decide) (fun v108 z109 => ?_)
          have r110 := R_eq z109
          refine r_goto (tgt := 63) S dX5_isTrueOf_59 (by decide) ?_
          exact r_ret S hr hlk X97 ⟨rfl, (R_of r110 rfl)⟩ (nr_bool (R_of (lo := 0) (hi := 1) r110 rfl)) dX5_isTrueOf_63
    ·
      have h111 := YD_at (k := 35) hYW z2 z51 (by omega)
      have r112 : R (0) (8) v50 := ⟨by omega, by omega⟩
      refine r_aload_n S dX5_isTrueOf_24 rfl (lv_at hl 3 rfl) ?_
      refine r_iload_n S dX5_isTrueOf_25 rfl (lv_at hl 5 rfl) ?_
      refine r_iload S dX5_isTrueOf_26 (lv_at hl 0 rfl) ?_
      refine r_ki (q_V (As := [.int a2, .int v50]) (rest := []) (K := 22) (ci := 8) S X (c_X10_spoken l G τ hI a2 v50 h_a2 r112) ck5_98 (Nat.le_of_ble_eq_true rfl) rfl (fun _ => ⟨_, rfl⟩) ⟨_, _, rfl⟩ ⟨Nat.le_of_ble_eq_true rfl, Nat.le_of_ble_eq_true rfl⟩ rfl hl.1 rfl (Nat.le_of_ble_eq_true rfl) dX5_isTrueOf_28 ⟨Nat.le_refl 0, Nat.le_refl 0⟩) X (fun v116 t115 H lc q113 X114 => ?_)
      unfold po_X10_spoken at q113
      obtain ⟨q117, q118⟩ := q113
      rw [q117] at X114
      refine r_if_le (tgt := 38) S dX5_isTrueOf_31 (by decide) (fun c119 => ?_) (fun c119 => ?_)
      ·
        have r120 : R (-9) (0) v116 := ⟨by omega, by omega⟩
        refine r_iconst S dX5_isTrueOf_38 (by decide) (fun v121 z122 => ?_)
        have r123 := R_eq z122
        exact r_ret S hr hlk X114 ⟨rfl, (R_of r123 rfl)⟩ (nr_bool (R_of (lo := 0) (hi := 1) r123 rfl)) dX5_isTrueOf_39
      ·
        have r124 : R (1) (9) v116 := ⟨by omega, by omega⟩
        refine r_iconst S dX5_isTrueOf_34 (by decide) (fun v125 z126 => ?_)
        have r127 := R_eq z126
        refine r_goto (tgt := 39) S dX5_isTrueOf_35 (by decide) ?_
        exact r_ret S hr hlk X114 ⟨rfl, (R_of r127 rfl)⟩ (nr_bool (R_of (lo := 0) (hi := 1) r127 rfl)) dX5_isTrueOf_39
def po_X5_menOfOne (τ : Tau)  (a1 : Int32)   (r : Int32) (u : Tau) : Prop := u = τ ∧ R (0) (1023) r
set_option maxHeartbeats 4000000 in
set_option maxRecDepth 100000 in
theorem c_X5_menOfOne (l : Launch) (G : Gx) (τ : Tau) (hI : Inv τ) (a1 : Int32) (h_a1 : R (0) (39) a1) (hYW : YW τ) : Ci l G yX5_menOfOne cX5_menOfOne 6 (some .int) 4 96 [.ref (G.2.2.2.1 35), .ref (G.2.2.2.1 22), .int a1] τ (po_X5_menOfOne τ  a1  ) := by
  unfold Ci
  refine C_of (own := RX5) (by decide) rfl (Nat.le_of_ble_eq_true rfl) ?_
  intro p e s m below meth c ls S hr hlk X hl
  have hl : lv_has ls 6 [(0, .ref (G.2.2.2.1 35)), (1, .ref (G.2.2.2.1 22)), (2, .int a1)] := hl
  refine r_aload_n S dX5_menOfOne_0 rfl (lv_at hl 0 rfl) ?_
  refine r_get (K := 17) (v := .ref (G.2.2.2.1 36)) S X (Nat.le_of_ble_eq_true rfl) rfl lk5_13_5 (fun _ => ⟨_, rfl, rfl⟩) dX5_menOfOne_1 ?_
  refine r_iload_n S dX5_menOfOne_4 rfl (lv_at hl 2 rfl) ?_
  refine r_wald2 (n := 40) (K := 18) S X (Nat.le_of_ble_eq_true rfl) rfl (fun _ => rfl) (ix_of h_a1 rfl) (fun _ z => rd hI rfl z) dX5_menOfOne_5 (fun y1 z2 h3 => ?_) (fun y1 w4 z2 h_w4 e5 => ?_)
  ·
    refine lv_astore_nN (lv' := [(3, .null), (0, .ref (G.2.2.2.1 35)), (1, .ref (G.2.2.2.1 22)), (2, .int a1)]) S.1.1 S.1.2.1 dX5_menOfOne_6 rfl hl (by decide) rfl (fun ls hl => ?_)
    refine lv_aload_nN S.1.1 S.1.2.1 dX5_menOfOne_7 rfl (lv_at hl 0 rfl) ?_
    refine r_wst (i := 16) S X (by decide) kw63 dX5_menOfOne_8 ?_
    refine r_nacmp_ne (tgt := 22) S dX5_menOfOne_11 (by decide) ?_
    refine lv_aload_nN S.1.1 S.1.2.1 dX5_menOfOne_22 rfl (lv_at hl 0 rfl) ?_
    refine r_wst (i := 17) S X (by decide) kw64 dX5_menOfOne_23 ?_
    refine r_nacmp_ne (tgt := 37) S dX5_menOfOne_26 (by decide) ?_
    refine lv_aload_nN S.1.1 S.1.2.1 dX5_menOfOne_37 rfl (lv_at hl 0 rfl) ?_
    refine r_wst (i := 18) S X (by decide) kw65 dX5_menOfOne_38 ?_
    refine r_nacmp_ne (tgt := 52) S dX5_menOfOne_41 (by decide) ?_
    refine lv_aload_nN S.1.1 S.1.2.1 dX5_menOfOne_52 rfl (lv_at hl 0 rfl) ?_
    refine r_wst (i := 19) S X (by decide) kw66 dX5_menOfOne_53 ?_
    refine r_nacmp_ne (tgt := 70) S dX5_menOfOne_56 (by decide) ?_
    refine r_iconst S dX5_menOfOne_70 (by decide) (fun v10 z11 => ?_)
    have r12 := R_eq z11
    refine r_istore (lv' := [(4, .int v10), (3, .null), (0, .ref (G.2.2.2.1 35)), (1, .ref (G.2.2.2.1 22)), (2, .int a1)]) S dX5_menOfOne_71 hl (by decide) rfl (fun ls hl => ?_)
    refine r_iconst S dX5_menOfOne_73 (by decide) (fun v13 z14 => ?_)
    have r15 := R_eq z14
    refine r_istore (lv' := [(5, .int v13), (4, .int v10), (3, .null), (0, .ref (G.2.2.2.1 35)), (1, .ref (G.2.2.2.1 22)), (2, .int a1)]) S dX5_menOfOne_74 hl (by decide) rfl (fun ls hl => ?_)
    have L322 : ∀ (n : Nat) (H : Heap) (lc : List Loc) (ls : Array Slot) (i317 : Int32) (i319 : Int32), Xd G s H lc τ → R (0) (1023) i317 → R (0) (10) i319 → lv_has ls 6 [(0, .ref (G.2.2.2.1 35)), (1, .ref (G.2.2.2.1 22)), (2, .int a1), (4, .int i317), (5, .int i319)] → (10 - i319.toInt).toNat < n → W p l e (Rm 4 96) s m ([.ref (G.2.2.2.1 35), .ref (G.2.2.2.1 22), .int a1] : List Value).toArray below meth c H lc 0 0 (MQ below (va_Qi (po_X5_menOfOne τ  a1  ) (Bs G) G.2.2.2.2) ([.ref (G.2.2.2.1 35), .ref (G.2.2.2.1 22), .int a1] : List Value).toArray s 0 0 G.2.2.2.2) (F0 m 76 ls []) := by
      intro n
      induction n with
      | zero => intros; omega
      | succ n ih323 =>
        intro H lc ls i317 i319 X321 r318 r320 hl hm
        refine r_iload S dX5_menOfOne_76 (lv_at hl 4 rfl) ?_
        refine r_aload_n S dX5_menOfOne_78 rfl (lv_at hl 1 rfl) ?_
        refine r_get (K := 22) (v := .ref (G.2.2.2.1 23)) S X321 (Nat.le_of_ble_eq_true rfl) rfl lk5_31_8 (fun _ => ⟨_, rfl, rfl⟩) dX5_menOfOne_79 ?_
        refine r_getn (K := 4) S X321 (Nat.le_of_ble_eq_true rfl) rfl lk5_88_2 (fun _ => ⟨_, rfl, rfl⟩) dX5_menOfOne_82 (fun v324 z325 => ?_)
        have r326 : R (0) (10) v324 := rd hI rfl z325
        refine r_icmp_ge (tgt := 114) S dX5_menOfOne_85 (by decide) (fun c327 => ?_) (fun c327 => ?_)
        ·
          refine r_iload S dX5_menOfOne_114 (lv_at hl 3 rfl) ?_
          exact r_ret S hr hlk X321 ⟨rfl, r318⟩ rfl dX5_menOfOne_116
        ·
          have r328 : R (0) (9) i319 := ⟨by omega, by omega⟩
          have r329 : R (1) (10) v324 := ⟨by omega, by omega⟩
          refine r_aload_n S dX5_menOfOne_88 rfl (lv_at hl 0 rfl) ?_
          refine r_aload_n S dX5_menOfOne_89 rfl (lv_at hl 1 rfl) ?_
          refine r_iload_n S dX5_menOfOne_90 rfl (lv_at hl 2 rfl) ?_
          refine r_iload S dX5_menOfOne_91 (lv_at hl 4 rfl) ?_
          refine r_ki (q_V (As := [.ref (G.2.2.2.1 22), .int a1, .int i319]) (rest := []) (K := 17) (ci := 5) S X321 (c_X5_isTrueOf l G τ hI a1 i319 h_a1 r328 hYW) ck5_91 (Nat.le_of_ble_eq_true rfl) rfl (fun _ => ⟨_, rfl⟩) ⟨_, _, rfl⟩ ⟨Nat.le_of_ble_eq_true rfl, Nat.le_of_ble_eq_true rfl⟩ rfl hl.1 rfl (Nat.le_of_ble_eq_true rfl) dX5_menOfOne_93 ⟨Nat.le_refl 0, Nat.le_refl 0⟩) X321 (fun v333 t332 H lc q330 X331 => ?_)
          unfold po_X5_isTrueOf at q330
          obtain ⟨q334, q335⟩ := q330
          rw [q334] at X331
          refine r_if_eq (tgt := 108) S dX5_menOfOne_96 (by decide) (fun c336 => ?_) (fun c336 => ?_)
          ·
            have r337 : R (0) (0) v333 := ⟨by omega, by omega⟩
            refine r_iinc (k := 4) S dX5_menOfOne_108 hl rfl (by decide) (by decide) (fun v338 d339 ls z340 z341 hl => ?_)
            obtain ⟨e342, r343⟩ := i_add (lo := 1) (hi := 10) z340 r328 (R_eq z341) rfl
            have hl : lv_has ls 6 [(5, .int v338), (0, .ref (G.2.2.2.1 35)), (1, .ref (G.2.2.2.1 22)), (2, .int a1), (4, .int i317)] := hl
            refine r_goto (tgt := 76) S dX5_menOfOne_111 (by decide) ?_
            exact ih323 _ _ _ i317 v338 X331 r318 (R_of r343 rfl) (lv_sub hl [1, 2, 3, 4, 0] rfl) (by omega)
          ·
            have r344 : R (1) (1) v333 := ⟨by omega, by omega⟩
            refine r_iload S dX5_menOfOne_99 (lv_at hl 3 rfl) ?_
            refine r_iconst S dX5_menOfOne_101 (by decide) (fun v345 z346 => ?_)
            have r347 := R_eq z346
            refine r_iload S dX5_menOfOne_102 (lv_at hl 4 rfl) ?_
            refine r_ishl S dX5_menOfOne_104 (fun v348 z349 => ?_)
            have r351 : R (1) (512) v348 := i_shl z349 r347 r328 rfl
            refine r_ior S dX5_menOfOne_105 (fun v352 z353 => ?_)
            have r355 : R (0) (1023) v352 := i_or 10 z353 r318 r351 rfl
            refine r_istore (lv' := [(4, .int v352), (0, .ref (G.2.2.2.1 35)), (1, .ref (G.2.2.2.1 22)), (2, .int a1), (5, .int i319)]) S dX5_menOfOne_106 hl (by decide) rfl (fun ls hl => ?_)
            refine r_iinc (k := 4) S dX5_menOfOne_108 hl rfl (by decide) (by decide) (fun v356 d357 ls z358 z359 hl => ?_)
            obtain ⟨e360, r361⟩ := i_add (lo := 1) (hi := 10) z358 r328 (R_eq z359) rfl
            have hl : lv_has ls 6 [(5, .int v356), (4, .int v352), (0, .ref (G.2.2.2.1 35)), (1, .ref (G.2.2.2.1 22)), (2, .int a1)] := hl
            refine r_goto (tgt := 76) S dX5_menOfOne_111 (by decide) ?_
            exact ih323 _ _ _ v352 v356 X331 r355 (R_of r361 rfl) (lv_sub hl [2, 3, 4, 1, 0] rfl) (by omega)
    exact L322 _ _ _ _ v10 v13 X (R_of r12 rfl) (R_of r15 rfl) (lv_sub hl [3, 4, 5, 1, 0] rfl) (Nat.lt_succ_self _)
  ·
    refine r_astore_n (lv' := [(3, .ref (G.2.2.1 w4)), (0, .ref (G.2.2.2.1 35)), (1, .ref (G.2.2.2.1 22)), (2, .int a1)]) S dX5_menOfOne_6 rfl hl (by decide) rfl (fun ls hl => ?_)
    refine r_aload_n S dX5_menOfOne_7 rfl (lv_at hl 0 rfl) ?_
    refine r_wst (i := 16) S X (by decide) kw63 dX5_menOfOne_8 ?_
    refine r_cacmp_ne (tgt := 22) S h_w4 (by decide) dX5_menOfOne_11 (by decide) (fun c362 => ?_) (fun c362 => ?_)
    ·
      refine r_aload_n S dX5_menOfOne_22 rfl (lv_at hl 0 rfl) ?_
      refine r_wst (i := 17) S X (by decide) kw64 dX5_menOfOne_23 ?_
      refine r_cacmp_ne (tgt := 37) S h_w4 (by decide) dX5_menOfOne_26 (by decide) (fun c363 => ?_) (fun c363 => ?_)
      ·
        refine r_aload_n S dX5_menOfOne_37 rfl (lv_at hl 0 rfl) ?_
        refine r_wst (i := 18) S X (by decide) kw65 dX5_menOfOne_38 ?_
        refine r_cacmp_ne (tgt := 52) S h_w4 (by decide) dX5_menOfOne_41 (by decide) (fun c364 => ?_) (fun c364 => ?_)
        ·
          refine r_aload_n S dX5_menOfOne_52 rfl (lv_at hl 0 rfl) ?_
          refine r_wst (i := 19) S X (by decide) kw66 dX5_menOfOne_53 ?_
          refine r_cacmp_ne (tgt := 70) S h_w4 (by decide) dX5_menOfOne_56 (by decide) (fun c365 => ?_) (fun c365 => ?_)
          ·
            refine r_iconst S dX5_menOfOne_70 (by decide) (fun v366 z367 => ?_)
            have r368 := R_eq z367
            refine r_istore (lv' := [(4, .int v366), (3, .ref (G.2.2.1 w4)), (0, .ref (G.2.2.2.1 35)), (1, .ref (G.2.2.2.1 22)), (2, .int a1)]) S dX5_menOfOne_71 hl (by decide) rfl (fun ls hl => ?_)
            refine r_iconst S dX5_menOfOne_73 (by decide) (fun v369 z370 => ?_)
            have r371 := R_eq z370
            refine r_istore (lv' := [(5, .int v369), (4, .int v366), (3, .ref (G.2.2.1 w4)), (0, .ref (G.2.2.2.1 35)), (1, .ref (G.2.2.2.1 22)), (2, .int a1)]) S dX5_menOfOne_74 hl (by decide) rfl (fun ls hl => ?_)
            have L678 : ∀ (n : Nat) (H : Heap) (lc : List Loc) (ls : Array Slot) (i673 : Int32) (i675 : Int32), Xd G s H lc τ → R (0) (1023) i673 → R (0) (10) i675 → lv_has ls 6 [(0, .ref (G.2.2.2.1 35)), (1, .ref (G.2.2.2.1 22)), (2, .int a1), (4, .int i673), (5, .int i675)] → (10 - i675.toInt).toNat < n → W p l e (Rm 4 96) s m ([.ref (G.2.2.2.1 35), .ref (G.2.2.2.1 22), .int a1] : List Value).toArray below meth c H lc 0 0 (MQ below (va_Qi (po_X5_menOfOne τ  a1  ) (Bs G) G.2.2.2.2) ([.ref (G.2.2.2.1 35), .ref (G.2.2.2.1 22), .int a1] : List Value).toArray s 0 0 G.2.2.2.2) (F0 m 76 ls []) := by
              intro n
              induction n with
              | zero => intros; omega
              | succ n ih679 =>
                intro H lc ls i673 i675 X677 r674 r676 hl hm
                refine r_iload S dX5_menOfOne_76 (lv_at hl 4 rfl) ?_
                refine r_aload_n S dX5_menOfOne_78 rfl (lv_at hl 1 rfl) ?_
                refine r_get (K := 22) (v := .ref (G.2.2.2.1 23)) S X677 (Nat.le_of_ble_eq_true rfl) rfl lk5_31_8 (fun _ => ⟨_, rfl, rfl⟩) dX5_menOfOne_79 ?_
                refine r_getn (K := 4) S X677 (Nat.le_of_ble_eq_true rfl) rfl lk5_88_2 (fun _ => ⟨_, rfl, rfl⟩) dX5_menOfOne_82 (fun v680 z681 => ?_)
                have r682 : R (0) (10) v680 := rd hI rfl z681
                refine r_icmp_ge (tgt := 114) S dX5_menOfOne_85 (by decide) (fun c683 => ?_) (fun c683 => ?_)
                ·
                  refine r_iload S dX5_menOfOne_114 (lv_at hl 3 rfl) ?_
                  exact r_ret S hr hlk X677 ⟨rfl, r674⟩ rfl dX5_menOfOne_116
                ·
                  have r684 : R (0) (9) i675 := ⟨by omega, by omega⟩
                  have r685 : R (1) (10) v680 := ⟨by omega, by omega⟩
                  refine r_aload_n S dX5_menOfOne_88 rfl (lv_at hl 0 rfl) ?_
                  refine r_aload_n S dX5_menOfOne_89 rfl (lv_at hl 1 rfl) ?_
                  refine r_iload_n S dX5_menOfOne_90 rfl (lv_at hl 2 rfl) ?_
                  refine r_iload S dX5_menOfOne_91 (lv_at hl 4 rfl) ?_
                  refine r_ki (q_V (As := [.ref (G.2.2.2.1 22), .int a1, .int i675]) (rest := []) (K := 17) (ci := 5) S X677 (c_X5_isTrueOf l G τ hI a1 i675 h_a1 r684 hYW) ck5_91 (Nat.le_of_ble_eq_true rfl) rfl (fun _ => ⟨_, rfl⟩) ⟨_, _, rfl⟩ ⟨Nat.le_of_ble_eq_true rfl, Nat.le_of_ble_eq_true rfl⟩ rfl hl.1 rfl (Nat.le_of_ble_eq_true rfl) dX5_menOfOne_93 ⟨Nat.le_refl 0, Nat.le_refl 0⟩) X677 (fun v689 t688 H lc q686 X687 => ?_)
                  unfold po_X5_isTrueOf at q686
                  obtain ⟨q690, q691⟩ := q686
                  rw [q690] at X687
                  refine r_if_eq (tgt := 108) S dX5_menOfOne_96 (by decide) (fun c692 => ?_) (fun c692 => ?_)
                  ·
                    have r693 : R (0) (0) v689 := ⟨by omega, by omega⟩
                    refine r_iinc (k := 4) S dX5_menOfOne_108 hl rfl (by decide) (by decide) (fun v694 d695 ls z696 z697 hl => ?_)
                    obtain ⟨e698, r699⟩ := i_add (lo := 1) (hi := 10) z696 r684 (R_eq z697) rfl
                    have hl : lv_has ls 6 [(5, .int v694), (0, .ref (G.2.2.2.1 35)), (1, .ref (G.2.2.2.1 22)), (2, .int a1), (4, .int i673)] := hl
                    refine r_goto (tgt := 76) S dX5_menOfOne_111 (by decide) ?_
                    exact ih679 _ _ _ i673 v694 X687 r674 (R_of r699 rfl) (lv_sub hl [1, 2, 3, 4, 0] rfl) (by omega)
                  ·
                    have r700 : R (1) (1) v689 := ⟨by omega, by omega⟩
                    refine r_iload S dX5_menOfOne_99 (lv_at hl 3 rfl) ?_
                    refine r_iconst S dX5_menOfOne_101 (by decide) (fun v701 z702 => ?_)
                    have r703 := R_eq z702
                    refine r_iload S dX5_menOfOne_102 (lv_at hl 4 rfl) ?_
                    refine r_ishl S dX5_menOfOne_104 (fun v704 z705 => ?_)
                    have r707 : R (1) (512) v704 := i_shl z705 r703 r684 rfl
                    refine r_ior S dX5_menOfOne_105 (fun v708 z709 => ?_)
                    have r711 : R (0) (1023) v708 := i_or 10 z709 r674 r707 rfl
                    refine r_istore (lv' := [(4, .int v708), (0, .ref (G.2.2.2.1 35)), (1, .ref (G.2.2.2.1 22)), (2, .int a1), (5, .int i675)]) S dX5_menOfOne_106 hl (by decide) rfl (fun ls hl => ?_)
                    refine r_iinc (k := 4) S dX5_menOfOne_108 hl rfl (by decide) (by decide) (fun v712 d713 ls z714 z715 hl => ?_)
                    obtain ⟨e716, r717⟩ := i_add (lo := 1) (hi := 10) z714 r684 (R_eq z715) rfl
                    have hl : lv_has ls 6 [(5, .int v712), (4, .int v708), (0, .ref (G.2.2.2.1 35)), (1, .ref (G.2.2.2.1 22)), (2, .int a1)] := hl
                    refine r_goto (tgt := 76) S dX5_menOfOne_111 (by decide) ?_
                    exact ih679 _ _ _ v708 v712 X687 r711 (R_of r717 rfl) (lv_sub hl [2, 3, 4, 1, 0] rfl) (by omega)
            exact L678 _ _ _ _ v366 v369 X (R_of r368 rfl) (R_of r371 rfl) (lv_sub hl [3, 4, 5, 1, 0] rfl) (Nat.lt_succ_self _)
          ·
            refine r_aload_n S dX5_menOfOne_59 rfl (lv_at hl 2 rfl) ?_
            refine r_aload_n S dX5_menOfOne_60 rfl (lv_at hl 1 rfl) ?_
            refine r_get (K := 17) (v := .ref (G.2.2.2.1 37)) S X (Nat.le_of_ble_eq_true rfl) rfl lk5_17_5 (fun _ => ⟨_, rfl, rfl⟩) dX5_menOfOne_61 ?_
            refine r_iload_n S dX5_menOfOne_64 rfl (lv_at hl 3 rfl) ?_
            refine r_aldn (n := 40) (K := 19) S X (Nat.le_of_ble_eq_true rfl) rfl (fun _ => rfl) (ix_of h_a1 rfl) dX5_menOfOne_65 (fun v718 z719 => ?_)
            have r720 : R (0) (99) v718 := rd hI rfl z719
            refine r_ki (q_V (As := [.int v718]) (rest := []) (K := 22) (ci := 8) S X (c_X10_around l G τ hI v718 (R_of (lo := -2147483648) (hi := 2147483647) r720 rfl)) ck5_84 (Nat.le_of_ble_eq_true rfl) rfl (fun _ => ⟨_, rfl⟩) ⟨_, _, rfl⟩ ⟨Nat.le_of_ble_eq_true rfl, Nat.le_of_ble_eq_true rfl⟩ rfl hl.1 rfl (Nat.le_of_ble_eq_true rfl) dX5_menOfOne_66 ⟨Nat.le_refl 0, Nat.le_refl 0⟩) X (fun v724 t723 H lc q721 X722 => ?_)
            unfold po_X10_around at q721
            obtain ⟨q725, q726⟩ := q721
            rw [q725] at X722
            exact r_ret S hr hlk X722 ⟨rfl, q726⟩ rfl dX5_menOfOne_69
        ·
          refine r_aload_n S dX5_menOfOne_44 rfl (lv_at hl 2 rfl) ?_
          refine r_get (K := 22) (v := .ref (G.2.2.2.1 30)) S X (Nat.le_of_ble_eq_true rfl) rfl lk5_60_8 (fun _ => ⟨_, rfl, rfl⟩) dX5_menOfOne_45 ?_
          refine r_getn (K := 23) S X (Nat.le_of_ble_eq_true rfl) rfl lk5_78_3 (fun _ => ⟨_, rfl, rfl⟩) dX5_menOfOne_48 (fun v727 z728 => ?_)
          have r729 : R (0) (1023) v727 := rd hI rfl z728
          exact r_ret S hr hlk X ⟨rfl, r729⟩ rfl dX5_menOfOne_51
      ·
        refine r_aload_n S dX5_menOfOne_29 rfl (lv_at hl 2 rfl) ?_
        refine r_get (K := 22) (v := .ref (G.2.2.2.1 30)) S X (Nat.le_of_ble_eq_true rfl) rfl lk5_60_8 (fun _ => ⟨_, rfl, rfl⟩) dX5_menOfOne_30 ?_
        refine r_getn (K := 23) S X (Nat.le_of_ble_eq_true rfl) rfl lk5_72_3 (fun _ => ⟨_, rfl, rfl⟩) dX5_menOfOne_33 (fun v730 z731 => ?_)
        have r732 : R (0) (1023) v730 := rd hI rfl z731
        exact r_ret S hr hlk X ⟨rfl, r732⟩ rfl dX5_menOfOne_36
    ·
      refine r_aload_n S dX5_menOfOne_14 rfl (lv_at hl 2 rfl) ?_
      refine r_get (K := 22) (v := .ref (G.2.2.2.1 30)) S X (Nat.le_of_ble_eq_true rfl) rfl lk5_60_8 (fun _ => ⟨_, rfl, rfl⟩) dX5_menOfOne_15 ?_
      refine r_getn (K := 23) S X (Nat.le_of_ble_eq_true rfl) rfl lk5_64_3 (fun _ => ⟨_, rfl, rfl⟩) dX5_menOfOne_18 (fun v733 z734 => ?_)
      have r735 : R (0) (1023) v733 := rd hI rfl z734
      exact r_ret S hr hlk X ⟨rfl, r735⟩ rfl dX5_menOfOne_21
def po_X5_menOf (τ : Tau)     (r : Int32) (u : Tau) : Prop := Inv u ∧ Fr [] [39] τ u
set_option maxHeartbeats 4000000 in
set_option maxRecDepth 100000 in
theorem c_X5_menOf (l : Launch) (G : Gx) (τ : Tau) (hI : Inv τ) (hYW : YW τ) : Ci l G yX5_menOf cX5_menOf 6 (some .int) 5 121 [.ref (G.2.2.2.1 35), .ref (G.2.2.2.1 22)] τ (po_X5_menOf τ    ) := by
  unfold Ci
  refine C_of (own := RX5) (by decide) rfl (Nat.le_of_ble_eq_true rfl) ?_
  intro p e s m below meth c ls S hr hlk X hl
  have hl : lv_has ls 6 [(0, .ref (G.2.2.2.1 35)), (1, .ref (G.2.2.2.1 22))] := hl
  refine r_aload_n S dX5_menOf_0 rfl (lv_at hl 1 rfl) ?_
  refine r_get (K := 22) (v := .ref (G.2.2.2.1 23)) S X (Nat.le_of_ble_eq_true rfl) rfl lk5_31_8 (fun _ => ⟨_, rfl, rfl⟩) dX5_menOf_1 ?_
  refine r_ki (q_V (As := []) (rest := []) (K := 4) (ci := 2) S X (c_X2_everyone l G τ hI 23 (Nat.le_of_ble_eq_true rfl) rfl) ck5_37 (Nat.le_of_ble_eq_true rfl) rfl (fun _ => ⟨_, rfl⟩) ⟨_, _, rfl⟩ ⟨Nat.le_of_ble_eq_true rfl, Nat.le_of_ble_eq_true rfl⟩ rfl hl.1 rfl (Nat.le_of_ble_eq_true rfl) dX5_menOf_4 ⟨Nat.le_refl 0, Nat.le_refl 0⟩) X (fun v4 t3 H lc q1 X2 => ?_)
  unfold po_X2_everyone at q1
  obtain ⟨q5, q6⟩ := q1
  rw [q5] at X2
  refine r_istore_n (lv' := [(2, .int v4), (0, .ref (G.2.2.2.1 35)), (1, .ref (G.2.2.2.1 22))]) S dX5_menOf_7 rfl hl (by decide) rfl (fun ls hl => ?_)
  refine r_iconst S dX5_menOf_8 (by decide) (fun v7 z8 => ?_)
  have r9 := R_eq z8
  refine r_istore_n (lv' := [(3, .int v7), (2, .int v4), (0, .ref (G.2.2.2.1 35)), (1, .ref (G.2.2.2.1 22))]) S dX5_menOf_9 rfl hl (by decide) rfl (fun ls hl => ?_)
  refine r_iconst S dX5_menOf_10 (by decide) (fun v10 z11 => ?_)
  have r12 := R_eq z11
  refine r_istore (lv' := [(4, .int v10), (3, .int v7), (2, .int v4), (0, .ref (G.2.2.2.1 35)), (1, .ref (G.2.2.2.1 22))]) S dX5_menOf_11 hl (by decide) rfl (fun ls hl => ?_)
  have L4485 : ∀ (n : Nat) (t4480 : Tau) (H : Heap) (lc : List Loc) (ls : Array Slot) (i4476 : Int32) (i4478 : Int32), Xd G s H lc t4480 → Inv t4480 → Fr [] [39] τ t4480 → YW t4480 → R (-1) (39) i4476 → R (0) (40) i4478 → -1 ≤ i4476.toInt → i4476.toInt < i4478.toInt → lv_has ls 6 [(0, .ref (G.2.2.2.1 35)), (1, .ref (G.2.2.2.1 22)), (2, .int v4), (3, .int i4476), (4, .int i4478)] → (41 - i4478.toInt).toNat < n → W p l e (Rm 5 121) s m ([.ref (G.2.2.2.1 35), .ref (G.2.2.2.1 22)] : List Value).toArray below meth c H lc 0 0 (MQ below (va_Qi (po_X5_menOf τ    ) (Bs G) G.2.2.2.2) ([.ref (G.2.2.2.1 35), .ref (G.2.2.2.1 22)] : List Value).toArray s 0 0 G.2.2.2.2) (F0 m 13 ls []) := by
    intro n
    induction n with
    | zero => intros; omega
    | succ n ih4488 =>
      intro t4480 H lc ls i4476 i4478 X4484 I4481 F4482 hYW4483 r4477 r4479 x4486 x4487 hl hm
      refine r_iload S dX5_menOf_13 (lv_at hl 4 rfl) ?_
      refine r_aload_n S dX5_menOf_15 rfl (lv_at hl 0 rfl) ?_
      refine r_getn (K := 17) S X4484 (Nat.le_of_ble_eq_true rfl) rfl lk5_27_5 (fun _ => ⟨_, rfl, rfl⟩) dX5_menOf_16 (fun v4489 z4490 => ?_)
      have r4491 : R (0) (40) v4489 := rd I4481 rfl z4490
      refine r_icmp_ge (tgt := 156) S dX5_menOf_19 (by decide) (fun c4492 => ?_) (fun c4492 => ?_)
      ·
        refine r_iload_n S dX5_menOf_156 rfl (lv_at hl 3 rfl) ?_
        refine r_if_ne (tgt := 169) S dX5_menOf_157 (by decide) (fun c4493 => ?_) (fun c4493 => ?_)
        ·
          refine r_iconst S dX5_menOf_169 (by decide) (fun v4494 z4495 => ?_)
          have r4496 := R_eq z4495
          exact r_ret S hr hlk X4484 ⟨I4481, F4482⟩ rfl dX5_menOf_170
        ·
          have r4497 : R (0) (0) i4476 := ⟨by omega, by omega⟩
          refine r_aload_n S dX5_menOf_160 rfl (lv_at hl 0 rfl) ?_
          refine r_get (K := 17) (v := .ref (G.2.2.2.1 39)) S X4484 (Nat.le_of_ble_eq_true rfl) rfl lk5_24_5 (fun _ => ⟨_, rfl, rfl⟩) dX5_menOf_161 ?_
          refine r_iconst S dX5_menOf_164 (by decide) (fun v4498 z4499 => ?_)
          have r4500 := R_eq z4499
          refine r_aldn (n := 40) (K := 21) S X4484 (Nat.le_of_ble_eq_true rfl) rfl (fun _ => rfl) (ix_of r4500 rfl) dX5_menOf_165 (fun v4501 z4502 => ?_)
          have r4504 := R_any v4501
          refine r_goto (tgt := 170) S dX5_menOf_166 (by decide) ?_
          exact r_ret S hr hlk X4484 ⟨I4481, F4482⟩ rfl dX5_menOf_170
      ·
        have r4505 : R (0) (39) i4478 := ⟨by omega, by omega⟩
        have r4506 : R (1) (40) v4489 := ⟨by omega, by omega⟩
        have r4507 : R (-1) (38) i4476 := ⟨by omega, by omega⟩
        refine r_aload_n S dX5_menOf_22 rfl (lv_at hl 0 rfl) ?_
        refine r_get (K := 17) (v := .ref (G.2.2.2.1 36)) S X4484 (Nat.le_of_ble_eq_true rfl) rfl lk5_13_5 (fun _ => ⟨_, rfl, rfl⟩) dX5_menOf_23 ?_
        refine r_iload S dX5_menOf_26 (lv_at hl 4 rfl) ?_
        refine r_wald2 (n := 40) (K := 18) S X4484 (Nat.le_of_ble_eq_true rfl) rfl (fun _ => rfl) (ix_of r4505 rfl) (fun _ z => rd I4481 rfl z) dX5_menOf_28 (fun y4508 z4509 h4510 => ?_) (fun y4508 w4511 z4509 h_w4511 e4512 => ?_)
        ·
          refine lv_astoreN (lv' := [(5, .null), (0, .ref (G.2.2.2.1 35)), (1, .ref (G.2.2.2.1 22)), (2, .int v4), (3, .int i4476), (4, .int i4478)]) S.1.1 S.1.2.1 dX5_menOf_29 hl (by decide) rfl (fun ls hl => ?_)
          refine lv_aloadN S.1.1 S.1.2.1 dX5_menOf_31 (lv_at hl 0 rfl) ?_
          refine r_wst (i := 15) S X4484 (by decide) kw67 dX5_menOf_33 ?_
          refine r_nacmp_ne (tgt := 62) S dX5_menOf_36 (by decide) ?_
          refine lv_aloadN S.1.1 S.1.2.1 dX5_menOf_62 (lv_at hl 0 rfl) ?_
          refine r_wst (i := 14) S X4484 (by decide) kw68 dX5_menOf_64 ?_
          refine r_nacmp_ne (tgt := 98) S dX5_menOf_67 (by decide) ?_
          refine lv_aloadN S.1.1 S.1.2.1 dX5_menOf_98 (lv_at hl 0 rfl) ?_
          refine r_wst (i := 13) S X4484 (by decide) kw69 dX5_menOf_100 ?_
          refine r_nacmp_ne (tgt := 134) S dX5_menOf_103 (by decide) ?_
          refine r_iinc (k := 4) S dX5_menOf_134 hl rfl (by decide) (by decide) (fun v4516 d4517 ls z4518 z4519 hl => ?_)
          obtain ⟨e4520, r4521⟩ := i_add (lo := 0) (hi := 39) z4518 r4507 (R_eq z4519) rfl
          have hl : lv_has ls 6 [(3, .int v4516), (5, .null), (0, .ref (G.2.2.2.1 35)), (1, .ref (G.2.2.2.1 22)), (2, .int v4), (4, .int i4478)] := hl
          refine r_aload_n S dX5_menOf_137 rfl (lv_at hl 2 rfl) ?_
          refine r_get (K := 17) (v := .ref (G.2.2.2.1 39)) S X4484 (Nat.le_of_ble_eq_true rfl) rfl lk5_24_5 (fun _ => ⟨_, rfl, rfl⟩) dX5_menOf_138 ?_
          refine r_iload_n S dX5_menOf_141 rfl (lv_at hl 0 rfl) ?_
          refine r_aload_n S dX5_menOf_142 rfl (lv_at hl 2 rfl) ?_
          refine r_aload_n S dX5_menOf_143 rfl (lv_at hl 3 rfl) ?_
          refine r_iload S dX5_menOf_144 (lv_at hl 5 rfl) ?_
          refine r_ki (q_V (As := [.ref (G.2.2.2.1 22), .int i4478]) (rest := [.int v4516, .ref (G.2.2.2.1 39)]) (K := 17) (ci := 5) S X4484 (c_X5_menOfOne l G t4480 I4481 i4478 r4505 hYW4483) ck5_53 (Nat.le_of_ble_eq_true rfl) rfl (fun _ => ⟨_, rfl⟩) ⟨_, _, rfl⟩ ⟨Nat.le_of_ble_eq_true rfl, Nat.le_of_ble_eq_true rfl⟩ rfl hl.1 rfl (Nat.le_of_ble_eq_true rfl) dX5_menOf_146 ⟨Nat.le_refl 0, Nat.le_refl 0⟩) X4484 (fun v4525 t4524 H lc q4522 X4523 => ?_)
          unfold po_X5_menOfOne at q4522
          obtain ⟨q4526, q4527⟩ := q4522
          rw [q4526] at X4523
          refine r_ast (n := 40) (K := 21) S X4523 (Nat.le_of_ble_eq_true rfl) rfl (fun _ _ => rfl) (ix_of r4521 rfl) dX5_menOf_149 (fun t4528 H lc M4529 X4530 => ?_)
          have I4531 := Inv_mu I4481 M4529 (R_any v4525)
          have F4532 : Fr [] [39] τ t4528 := Fr_cell F4482 M4529 (by decide)
          refine r_iinc (k := 5) S dX5_menOf_150 hl rfl (by decide) (by decide) (fun v4533 d4534 ls z4535 z4536 hl => ?_)
          obtain ⟨e4537, r4538⟩ := i_add (lo := 1) (hi := 40) z4535 r4505 (R_eq z4536) rfl
          have hl : lv_has ls 6 [(4, .int v4533), (3, .int v4516), (5, .null), (0, .ref (G.2.2.2.1 35)), (1, .ref (G.2.2.2.1 22)), (2, .int v4)] := hl
          refine r_goto (tgt := 13) S dX5_menOf_153 (by decide) ?_
          exact ih4488 t4528 _ _ _ v4516 v4533 X4530 I4531 F4532 (YW_eq hYW4483 (fun j => ((M4529.2 36 j (Or.inl (by decide))).trans rfl)) (fun j => ((M4529.2 37 j (Or.inl (by decide))).trans rfl))) (R_of r4521 rfl) (R_of r4538 rfl) (by omega) (by omega) (lv_sub hl [3, 4, 5, 1, 0] rfl) (by omega)
        ·
          refine r_astore (lv' := [(5, .ref (G.2.2.1 w4511)), (0, .ref (G.2.2.2.1 35)), (1, .ref (G.2.2.2.1 22)), (2, .int v4), (3, .int i4476), (4, .int i4478)]) S dX5_menOf_29 hl (by decide) rfl (fun ls hl => ?_)
          refine r_aload S dX5_menOf_31 (lv_at hl 0 rfl) ?_
          refine r_wst (i := 15) S X4484 (by decide) kw67 dX5_menOf_33 ?_
          refine r_cacmp_ne (tgt := 62) S h_w4511 (by decide) dX5_menOf_36 (by decide) (fun c4539 => ?_) (fun c4539 => ?_)
          ·
            refine r_aload S dX5_menOf_62 (lv_at hl 0 rfl) ?_
            refine r_wst (i := 14) S X4484 (by decide) kw68 dX5_menOf_64 ?_
            refine r_cacmp_ne (tgt := 98) S h_w4511 (by decide) dX5_menOf_67 (by decide) (fun c4540 => ?_) (fun c4540 => ?_)
            ·
              refine r_aload S dX5_menOf_98 (lv_at hl 0 rfl) ?_
              refine r_wst (i := 13) S X4484 (by decide) kw69 dX5_menOf_100 ?_
              refine r_cacmp_ne (tgt := 134) S h_w4511 (by decide) dX5_menOf_103 (by decide) (fun c4541 => ?_) (fun c4541 => ?_)
              ·
                refine r_iinc (k := 4) S dX5_menOf_134 hl rfl (by decide) (by decide) (fun v4542 d4543 ls z4544 z4545 hl => ?_)
                obtain ⟨e4546, r4547⟩ := i_add (lo := 0) (hi := 39) z4544 r4507 (R_eq z4545) rfl
                have hl : lv_has ls 6 [(3, .int v4542), (5, .ref (G.2.2.1 w4511)), (0, .ref (G.2.2.2.1 35)), (1, .ref (G.2.2.2.1 22)), (2, .int v4), (4, .int i4478)] := hl
                refine r_aload_n S dX5_menOf_137 rfl (lv_at hl 2 rfl) ?_
                refine r_get (K := 17) (v := .ref (G.2.2.2.1 39)) S X4484 (Nat.le_of_ble_eq_true rfl) rfl lk5_24_5 (fun _ => ⟨_, rfl, rfl⟩) dX5_menOf_138 ?_
                refine r_iload_n S dX5_menOf_141 rfl (lv_at hl 0 rfl) ?_
                refine r_aload_n S dX5_menOf_142 rfl (lv_at hl 2 rfl) ?_
                refine r_aload_n S dX5_menOf_143 rfl (lv_at hl 3 rfl) ?_
                refine r_iload S dX5_menOf_144 (lv_at hl 5 rfl) ?_
                refine r_ki (q_V (As := [.ref (G.2.2.2.1 22), .int i4478]) (rest := [.int v4542, .ref (G.2.2.2.1 39)]) (K := 17) (ci := 5) S X4484 (c_X5_menOfOne l G t4480 I4481 i4478 r4505 hYW4483) ck5_53 (Nat.le_of_ble_eq_true rfl) rfl (fun _ => ⟨_, rfl⟩) ⟨_, _, rfl⟩ ⟨Nat.le_of_ble_eq_true rfl, Nat.le_of_ble_eq_true rfl⟩ rfl hl.1 rfl (Nat.le_of_ble_eq_true rfl) dX5_menOf_146 ⟨Nat.le_refl 0, Nat.le_refl 0⟩) X4484 (fun v4551 t4550 H lc q4548 X4549 => ?_)
                unfold po_X5_menOfOne at q4548
                obtain ⟨q4552, q4553⟩ := q4548
                rw [q4552] at X4549
                refine r_ast (n := 40) (K := 21) S X4549 (Nat.le_of_ble_eq_true rfl) rfl (fun _ _ => rfl) (ix_of r4547 rfl) dX5_menOf_149 (fun t4554 H lc M4555 X4556 => ?_)
                have I4557 := Inv_mu I4481 M4555 (R_any v4551)
                have F4558 : Fr [] [39] τ t4554 := Fr_cell F4482 M4555 (by decide)
                refine r_iinc (k := 5) S dX5_menOf_150 hl rfl (by decide) (by decide) (fun v4559 d4560 ls z4561 z4562 hl => ?_)
                obtain ⟨e4563, r4564⟩ := i_add (lo := 1) (hi := 40) z4561 r4505 (R_eq z4562) rfl
                have hl : lv_has ls 6 [(4, .int v4559), (3, .int v4542), (5, .ref (G.2.2.1 w4511)), (0, .ref (G.2.2.2.1 35)), (1, .ref (G.2.2.2.1 22)), (2, .int v4)] := hl
                refine r_goto (tgt := 13) S dX5_menOf_153 (by decide) ?_
                exact ih4488 t4554 _ _ _ v4542 v4559 X4556 I4557 F4558 (YW_eq hYW4483 (fun j => ((M4555.2 36 j (Or.inl (by decide))).trans rfl)) (fun j => ((M4555.2 37 j (Or.inl (by decide))).trans rfl))) (R_of r4547 rfl) (R_of r4564 rfl) (by omega) (by omega) (lv_sub hl [3, 4, 5, 1, 0] rfl) (by omega)
              ·
                refine r_iload_n S dX5_menOf_106 rfl (lv_at hl 4 rfl) ?_
                refine r_iconst S dX5_menOf_107 (by decide) (fun v4565 z4566 => ?_)
                have r4567 := R_eq z4566
                refine r_icmp_lt (tgt := 134) S dX5_menOf_108 (by decide) (fun c4568 => ?_) (fun c4568 => ?_)
                ·
                  have r4569 : R (-1) (0) i4476 := ⟨by omega, by omega⟩
                  refine r_iinc (k := 4) S dX5_menOf_134 hl rfl (by decide) (by decide) (fun v4570 d4571 ls z4572 z4573 hl => ?_)
                  obtain ⟨e4574, r4575⟩ := i_add (lo := 0) (hi := 1) z4572 r4569 (R_eq z4573) rfl
                  have hl : lv_has ls 6 [(3, .int v4570), (5, .ref (G.2.2.1 w4511)), (0, .ref (G.2.2.2.1 35)), (1, .ref (G.2.2.2.1 22)), (2, .int v4), (4, .int i4478)] := hl
                  refine r_aload_n S dX5_menOf_137 rfl (lv_at hl 2 rfl) ?_
                  refine r_get (K := 17) (v := .ref (G.2.2.2.1 39)) S X4484 (Nat.le_of_ble_eq_true rfl) rfl lk5_24_5 (fun _ => ⟨_, rfl, rfl⟩) dX5_menOf_138 ?_
                  refine r_iload_n S dX5_menOf_141 rfl (lv_at hl 0 rfl) ?_
                  refine r_aload_n S dX5_menOf_142 rfl (lv_at hl 2 rfl) ?_
                  refine r_aload_n S dX5_menOf_143 rfl (lv_at hl 3 rfl) ?_
                  refine r_iload S dX5_menOf_144 (lv_at hl 5 rfl) ?_
                  refine r_ki (q_V (As := [.ref (G.2.2.2.1 22), .int i4478]) (rest := [.int v4570, .ref (G.2.2.2.1 39)]) (K := 17) (ci := 5) S X4484 (c_X5_menOfOne l G t4480 I4481 i4478 r4505 hYW4483) ck5_53 (Nat.le_of_ble_eq_true rfl) rfl (fun _ => ⟨_, rfl⟩) ⟨_, _, rfl⟩ ⟨Nat.le_of_ble_eq_true rfl, Nat.le_of_ble_eq_true rfl⟩ rfl hl.1 rfl (Nat.le_of_ble_eq_true rfl) dX5_menOf_146 ⟨Nat.le_refl 0, Nat.le_refl 0⟩) X4484 (fun v4579 t4578 H lc q4576 X4577 => ?_)
                  unfold po_X5_menOfOne at q4576
                  obtain ⟨q4580, q4581⟩ := q4576
                  rw [q4580] at X4577
                  refine r_ast (n := 40) (K := 21) S X4577 (Nat.le_of_ble_eq_true rfl) rfl (fun _ _ => rfl) (ix_of r4575 rfl) dX5_menOf_149 (fun t4582 H lc M4583 X4584 => ?_)
                  have I4585 := Inv_mu I4481 M4583 (R_any v4579)
                  have F4586 : Fr [] [39] τ t4582 := Fr_cell F4482 M4583 (by decide)
                  refine r_iinc (k := 5) S dX5_menOf_150 hl rfl (by decide) (by decide) (fun v4587 d4588 ls z4589 z4590 hl => ?_)
                  obtain ⟨e4591, r4592⟩ := i_add (lo := 1) (hi := 40) z4589 r4505 (R_eq z4590) rfl
                  have hl : lv_has ls 6 [(4, .int v4587), (3, .int v4570), (5, .ref (G.2.2.1 w4511)), (0, .ref (G.2.2.2.1 35)), (1, .ref (G.2.2.2.1 22)), (2, .int v4)] := hl
                  refine r_goto (tgt := 13) S dX5_menOf_153 (by decide) ?_
                  exact ih4488 t4582 _ _ _ v4570 v4587 X4584 I4585 F4586 (YW_eq hYW4483 (fun j => ((M4583.2 36 j (Or.inl (by decide))).trans rfl)) (fun j => ((M4583.2 37 j (Or.inl (by decide))).trans rfl))) (R_of r4575 rfl) (R_of r4592 rfl) (by omega) (by omega) (lv_sub hl [3, 4, 5, 1, 0] rfl) (by omega)
                ·
                  have r4593 : R (1) (38) i4476 := ⟨by omega, by omega⟩
                  refine r_iinc (k := 4) S dX5_menOf_111 hl rfl (by decide) (by decide) (fun v4594 d4595 ls z4596 z4597 hl => ?_)
                  obtain ⟨e4598, r4599⟩ := i_add (lo := 0) (hi := 37) z4596 r4593 (R_eq z4597) rfl
                  have hl : lv_has ls 6 [(3, .int v4594), (5, .ref (G.2.2.1 w4511)), (0, .ref (G.2.2.2.1 35)), (1, .ref (G.2.2.2.1 22)), (2, .int v4), (4, .int i4478)] := hl
                  refine r_aload_n S dX5_menOf_114 rfl (lv_at hl 2 rfl) ?_
                  refine r_get (K := 17) (v := .ref (G.2.2.2.1 39)) S X4484 (Nat.le_of_ble_eq_true rfl) rfl lk5_24_5 (fun _ => ⟨_, rfl, rfl⟩) dX5_menOf_115 ?_
                  refine r_iload_n S dX5_menOf_118 rfl (lv_at hl 0 rfl) ?_
                  refine r_dup2 S dX5_menOf_119 rfl rfl ?_
                  refine r_aldn (n := 40) (K := 21) S X4484 (Nat.le_of_ble_eq_true rfl) rfl (fun _ => rfl) (ix_of r4599 rfl) dX5_menOf_120 (fun v4600 z4601 => ?_)
                  have r4603 := R_any v4600
                  refine r_aload_n S dX5_menOf_121 rfl (lv_at hl 2 rfl) ?_
                  refine r_get (K := 17) (v := .ref (G.2.2.2.1 39)) S X4484 (Nat.le_of_ble_eq_true rfl) rfl lk5_24_5 (fun _ => ⟨_, rfl, rfl⟩) dX5_menOf_122 ?_
                  refine r_iload_n S dX5_menOf_125 rfl (lv_at hl 0 rfl) ?_
                  refine r_iconst S dX5_menOf_126 (by decide) (fun v4604 z4605 => ?_)
                  have r4606 := R_eq z4605
                  refine r_iadd S dX5_menOf_127 (fun v4607 z4608 => ?_)
                  obtain ⟨e4609, r4610⟩ := i_add (lo := 1) (hi := 38) z4608 r4599 r4606 rfl
                  refine r_aldn (n := 40) (K := 21) S X4484 (Nat.le_of_ble_eq_true rfl) rfl (fun _ => rfl) (ix_of r4610 rfl) dX5_menOf_128 (fun v4611 z4612 => ?_)
                  have r4614 := R_any v4611
                  refine r_ior S dX5_menOf_129 (fun v4615 z4616 => ?_)
                  have r4617 := R_any v4615
                  refine r_ast (n := 40) (K := 21) S X4484 (Nat.le_of_ble_eq_true rfl) rfl (fun _ _ => rfl) (ix_of r4599 rfl) dX5_menOf_130 (fun t4618 H lc M4619 X4620 => ?_)
                  have I4621 := Inv_mu I4481 M4619 (R_any v4615)
                  have F4622 : Fr [] [39] τ t4618 := Fr_cell F4482 M4619 (by decide)
                  refine r_goto (tgt := 150) S dX5_menOf_131 (by decide) ?_
                  refine r_iinc (k := 5) S dX5_menOf_150 hl rfl (by decide) (by decide) (fun v4623 d4624 ls z4625 z4626 hl => ?_)
                  obtain ⟨e4627, r4628⟩ := i_add (lo := 1) (hi := 40) z4625 r4505 (R_eq z4626) rfl
                  have hl : lv_has ls 6 [(4, .int v4623), (3, .int v4594), (5, .ref (G.2.2.1 w4511)), (0, .ref (G.2.2.2.1 35)), (1, .ref (G.2.2.2.1 22)), (2, .int v4)] := hl
                  refine r_goto (tgt := 13) S dX5_menOf_153 (by decide) ?_
                  exact ih4488 t4618 _ _ _ v4594 v4623 X4620 I4621 F4622 (YW_eq hYW4483 (fun j => ((M4619.2 36 j (Or.inl (by decide))).trans rfl)) (fun j => ((M4619.2 37 j (Or.inl (by decide))).trans rfl))) (R_of r4599 rfl) (R_of r4628 rfl) (by omega) (by omega) (lv_sub hl [3, 4, 5, 1, 0] rfl) (by omega)
            ·
              refine r_iload_n S dX5_menOf_70 rfl (lv_at hl 4 rfl) ?_
              refine r_iconst S dX5_menOf_71 (by decide) (fun v4629 z4630 => ?_)
              have r4631 := R_eq z4630
              refine r_icmp_lt (tgt := 98) S dX5_menOf_72 (by decide) (fun c4632 => ?_) (fun c4632 => ?_)
              ·
                have r4633 : R (-1) (0) i4476 := ⟨by omega, by omega⟩
                refine r_aload S dX5_menOf_98 (lv_at hl 0 rfl) ?_
                refine r_wst (i := 13) S X4484 (by decide) kw69 dX5_menOf_100 ?_
                refine r_cacmp_ne (tgt := 134) S h_w4511 (by decide) dX5_menOf_103 (by decide) (fun c4634 => ?_) (fun c4634 => ?_)
                ·
                  refine r_iinc (k := 4) S dX5_menOf_134 hl rfl (by decide) (by decide) (fun v4635 d4636 ls z4637 z4638 hl => ?_)
                  obtain ⟨e4639, r4640⟩ := i_add (lo := 0) (hi := 1) z4637 r4633 (R_eq z4638) rfl
                  have hl : lv_has ls 6 [(3, .int v4635), (5, .ref (G.2.2.1 w4511)), (0, .ref (G.2.2.2.1 35)), (1, .ref (G.2.2.2.1 22)), (2, .int v4), (4, .int i4478)] := hl
                  refine r_aload_n S dX5_menOf_137 rfl (lv_at hl 2 rfl) ?_
                  refine r_get (K := 17) (v := .ref (G.2.2.2.1 39)) S X4484 (Nat.le_of_ble_eq_true rfl) rfl lk5_24_5 (fun _ => ⟨_, rfl, rfl⟩) dX5_menOf_138 ?_
                  refine r_iload_n S dX5_menOf_141 rfl (lv_at hl 0 rfl) ?_
                  refine r_aload_n S dX5_menOf_142 rfl (lv_at hl 2 rfl) ?_
                  refine r_aload_n S dX5_menOf_143 rfl (lv_at hl 3 rfl) ?_
                  refine r_iload S dX5_menOf_144 (lv_at hl 5 rfl) ?_
                  refine r_ki (q_V (As := [.ref (G.2.2.2.1 22), .int i4478]) (rest := [.int v4635, .ref (G.2.2.2.1 39)]) (K := 17) (ci := 5) S X4484 (c_X5_menOfOne l G t4480 I4481 i4478 r4505 hYW4483) ck5_53 (Nat.le_of_ble_eq_true rfl) rfl (fun _ => ⟨_, rfl⟩) ⟨_, _, rfl⟩ ⟨Nat.le_of_ble_eq_true rfl, Nat.le_of_ble_eq_true rfl⟩ rfl hl.1 rfl (Nat.le_of_ble_eq_true rfl) dX5_menOf_146 ⟨Nat.le_refl 0, Nat.le_refl 0⟩) X4484 (fun v4644 t4643 H lc q4641 X4642 => ?_)
                  unfold po_X5_menOfOne at q4641
                  obtain ⟨q4645, q4646⟩ := q4641
                  rw [q4645] at X4642
                  refine r_ast (n := 40) (K := 21) S X4642 (Nat.le_of_ble_eq_true rfl) rfl (fun _ _ => rfl) (ix_of r4640 rfl) dX5_menOf_149 (fun t4647 H lc M4648 X4649 => ?_)
                  have I4650 := Inv_mu I4481 M4648 (R_any v4644)
                  have F4651 : Fr [] [39] τ t4647 := Fr_cell F4482 M4648 (by decide)
                  refine r_iinc (k := 5) S dX5_menOf_150 hl rfl (by decide) (by decide) (fun v4652 d4653 ls z4654 z4655 hl => ?_)
                  obtain ⟨e4656, r4657⟩ := i_add (lo := 1) (hi := 40) z4654 r4505 (R_eq z4655) rfl
                  have hl : lv_has ls 6 [(4, .int v4652), (3, .int v4635), (5, .ref (G.2.2.1 w4511)), (0, .ref (G.2.2.2.1 35)), (1, .ref (G.2.2.2.1 22)), (2, .int v4)] := hl
                  refine r_goto (tgt := 13) S dX5_menOf_153 (by decide) ?_
                  exact ih4488 t4647 _ _ _ v4635 v4652 X4649 I4650 F4651 (YW_eq hYW4483 (fun j => ((M4648.2 36 j (Or.inl (by decide))).trans rfl)) (fun j => ((M4648.2 37 j (Or.inl (by decide))).trans rfl))) (R_of r4640 rfl) (R_of r4657 rfl) (by omega) (by omega) (lv_sub hl [3, 4, 5, 1, 0] rfl) (by omega)
                ·
                  refine r_iload_n S dX5_menOf_106 rfl (lv_at hl 4 rfl) ?_
                  refine r_iconst S dX5_menOf_107 (by decide) (fun v4658 z4659 => ?_)
                  have r4660 := R_eq z4659
                  refine r_icmp_lt (tgt := 134) S dX5_menOf_108 (by decide) (fun c4661 => ?_) (fun c4661 => ?_)
                  ·
                    refine r_iinc (k := 4) S dX5_menOf_134 hl rfl (by decide) (by decide) (fun v4662 d4663 ls z4664 z4665 hl => ?_)
                    obtain ⟨e4666, r4667⟩ := i_add (lo := 0) (hi := 1) z4664 r4633 (R_eq z4665) rfl
                    have hl : lv_has ls 6 [(3, .int v4662), (5, .ref (G.2.2.1 w4511)), (0, .ref (G.2.2.2.1 35)), (1, .ref (G.2.2.2.1 22)), (2, .int v4), (4, .int i4478)] := hl
                    refine r_aload_n S dX5_menOf_137 rfl (lv_at hl 2 rfl) ?_
                    refine r_get (K := 17) (v := .ref (G.2.2.2.1 39)) S X4484 (Nat.le_of_ble_eq_true rfl) rfl lk5_24_5 (fun _ => ⟨_, rfl, rfl⟩) dX5_menOf_138 ?_
                    refine r_iload_n S dX5_menOf_141 rfl (lv_at hl 0 rfl) ?_
                    refine r_aload_n S dX5_menOf_142 rfl (lv_at hl 2 rfl) ?_
                    refine r_aload_n S dX5_menOf_143 rfl (lv_at hl 3 rfl) ?_
                    refine r_iload S dX5_menOf_144 (lv_at hl 5 rfl) ?_
                    refine r_ki (q_V (As := [.ref (G.2.2.2.1 22), .int i4478]) (rest := [.int v4662, .ref (G.2.2.2.1 39)]) (K := 17) (ci := 5) S X4484 (c_X5_menOfOne l G t4480 I4481 i4478 r4505 hYW4483) ck5_53 (Nat.le_of_ble_eq_true rfl) rfl (fun _ => ⟨_, rfl⟩) ⟨_, _, rfl⟩ ⟨Nat.le_of_ble_eq_true rfl, Nat.le_of_ble_eq_true rfl⟩ rfl hl.1 rfl (Nat.le_of_ble_eq_true rfl) dX5_menOf_146 ⟨Nat.le_refl 0, Nat.le_refl 0⟩) X4484 (fun v4671 t4670 H lc q4668 X4669 => ?_)
                    unfold po_X5_menOfOne at q4668
                    obtain ⟨q4672, q4673⟩ := q4668
                    rw [q4672] at X4669
                    refine r_ast (n := 40) (K := 21) S X4669 (Nat.le_of_ble_eq_true rfl) rfl (fun _ _ => rfl) (ix_of r4667 rfl) dX5_menOf_149 (fun t4674 H lc M4675 X4676 => ?_)
                    have I4677 := Inv_mu I4481 M4675 (R_any v4671)
                    have F4678 : Fr [] [39] τ t4674 := Fr_cell F4482 M4675 (by decide)
                    refine r_iinc (k := 5) S dX5_menOf_150 hl rfl (by decide) (by decide) (fun v4679 d4680 ls z4681 z4682 hl => ?_)
                    obtain ⟨e4683, r4684⟩ := i_add (lo := 1) (hi := 40) z4681 r4505 (R_eq z4682) rfl
                    have hl : lv_has ls 6 [(4, .int v4679), (3, .int v4662), (5, .ref (G.2.2.1 w4511)), (0, .ref (G.2.2.2.1 35)), (1, .ref (G.2.2.2.1 22)), (2, .int v4)] := hl
                    refine r_goto (tgt := 13) S dX5_menOf_153 (by decide) ?_
                    exact ih4488 t4674 _ _ _ v4662 v4679 X4676 I4677 F4678 (YW_eq hYW4483 (fun j => ((M4675.2 36 j (Or.inl (by decide))).trans rfl)) (fun j => ((M4675.2 37 j (Or.inl (by decide))).trans rfl))) (R_of r4667 rfl) (R_of r4684 rfl) (by omega) (by omega) (lv_sub hl [3, 4, 5, 1, 0] rfl) (by omega)
                  ·
                    exfalso; omega
              ·
                have r4685 : R (1) (38) i4476 := ⟨by omega, by omega⟩
                refine r_iinc (k := 4) S dX5_menOf_75 hl rfl (by decide) (by decide) (fun v4686 d4687 ls z4688 z4689 hl => ?_)
                obtain ⟨e4690, r4691⟩ := i_add (lo := 0) (hi := 37) z4688 r4685 (R_eq z4689) rfl
                have hl : lv_has ls 6 [(3, .int v4686), (5, .ref (G.2.2.1 w4511)), (0, .ref (G.2.2.2.1 35)), (1, .ref (G.2.2.2.1 22)), (2, .int v4), (4, .int i4478)] := hl
                refine r_aload_n S dX5_menOf_78 rfl (lv_at hl 2 rfl) ?_
                refine r_get (K := 17) (v := .ref (G.2.2.2.1 39)) S X4484 (Nat.le_of_ble_eq_true rfl) rfl lk5_24_5 (fun _ => ⟨_, rfl, rfl⟩) dX5_menOf_79 ?_
                refine r_iload_n S dX5_menOf_82 rfl (lv_at hl 0 rfl) ?_
                refine r_dup2 S dX5_menOf_83 rfl rfl ?_
                refine r_aldn (n := 40) (K := 21) S X4484 (Nat.le_of_ble_eq_true rfl) rfl (fun _ => rfl) (ix_of r4691 rfl) dX5_menOf_84 (fun v4692 z4693 => ?_)
                have r4695 := R_any v4692
                refine r_aload_n S dX5_menOf_85 rfl (lv_at hl 2 rfl) ?_
                refine r_get (K := 17) (v := .ref (G.2.2.2.1 39)) S X4484 (Nat.le_of_ble_eq_true rfl) rfl lk5_24_5 (fun _ => ⟨_, rfl, rfl⟩) dX5_menOf_86 ?_
                refine r_iload_n S dX5_menOf_89 rfl (lv_at hl 0 rfl) ?_
                refine r_iconst S dX5_menOf_90 (by decide) (fun v4696 z4697 => ?_)
                have r4698 := R_eq z4697
                refine r_iadd S dX5_menOf_91 (fun v4699 z4700 => ?_)
                obtain ⟨e4701, r4702⟩ := i_add (lo := 1) (hi := 38) z4700 r4691 r4698 rfl
                refine r_aldn (n := 40) (K := 21) S X4484 (Nat.le_of_ble_eq_true rfl) rfl (fun _ => rfl) (ix_of r4702 rfl) dX5_menOf_92 (fun v4703 z4704 => ?_)
                have r4706 := R_any v4703
                refine r_iand S dX5_menOf_93 (fun v4707 z4708 => ?_)
                have r4709 := R_any v4707
                refine r_ast (n := 40) (K := 21) S X4484 (Nat.le_of_ble_eq_true rfl) rfl (fun _ _ => rfl) (ix_of r4691 rfl) dX5_menOf_94 (fun t4710 H lc M4711 X4712 => ?_)
                have I4713 := Inv_mu I4481 M4711 (R_any v4707)
                have F4714 : Fr [] [39] τ t4710 := Fr_cell F4482 M4711 (by decide)
                refine r_goto (tgt := 150) S dX5_menOf_95 (by decide) ?_
                refine r_iinc (k := 5) S dX5_menOf_150 hl rfl (by decide) (by decide) (fun v4715 d4716 ls z4717 z4718 hl => ?_)
                obtain ⟨e4719, r4720⟩ := i_add (lo := 1) (hi := 40) z4717 r4505 (R_eq z4718) rfl
                have hl : lv_has ls 6 [(4, .int v4715), (3, .int v4686), (5, .ref (G.2.2.1 w4511)), (0, .ref (G.2.2.2.1 35)), (1, .ref (G.2.2.2.1 22)), (2, .int v4)] := hl
                refine r_goto (tgt := 13) S dX5_menOf_153 (by decide) ?_
                exact ih4488 t4710 _ _ _ v4686 v4715 X4712 I4713 F4714 (YW_eq hYW4483 (fun j => ((M4711.2 36 j (Or.inl (by decide))).trans rfl)) (fun j => ((M4711.2 37 j (Or.inl (by decide))).trans rfl))) (R_of r4691 rfl) (R_of r4720 rfl) (by omega) (by omega) (lv_sub hl [3, 4, 5, 1, 0] rfl) (by omega)
          ·
            refine r_iload_n S dX5_menOf_39 rfl (lv_at hl 4 rfl) ?_
            refine r_if_lt (tgt := 62) S dX5_menOf_40 (by decide) (fun c4721 => ?_) (fun c4721 => ?_)
            ·
              have r4722 : R (-1) (-1) i4476 := ⟨by omega, by omega⟩
              refine r_aload S dX5_menOf_62 (lv_at hl 0 rfl) ?_
              refine r_wst (i := 14) S X4484 (by decide) kw68 dX5_menOf_64 ?_
              refine r_cacmp_ne (tgt := 98) S h_w4511 (by decide) dX5_menOf_67 (by decide) (fun c4723 => ?_) (fun c4723 => ?_)
              ·
                refine r_aload S dX5_menOf_98 (lv_at hl 0 rfl) ?_
                refine r_wst (i := 13) S X4484 (by decide) kw69 dX5_menOf_100 ?_
                refine r_cacmp_ne (tgt := 134) S h_w4511 (by decide) dX5_menOf_103 (by decide) (fun c4724 => ?_) (fun c4724 => ?_)
                ·
                  refine r_iinc (k := 4) S dX5_menOf_134 hl rfl (by decide) (by decide) (fun v4725 d4726 ls z4727 z4728 hl => ?_)
                  obtain ⟨e4729, r4730⟩ := i_add (lo := 0) (hi := 0) z4727 r4722 (R_eq z4728) rfl
                  have hl : lv_has ls 6 [(3, .int v4725), (5, .ref (G.2.2.1 w4511)), (0, .ref (G.2.2.2.1 35)), (1, .ref (G.2.2.2.1 22)), (2, .int v4), (4, .int i4478)] := hl
                  refine r_aload_n S dX5_menOf_137 rfl (lv_at hl 2 rfl) ?_
                  refine r_get (K := 17) (v := .ref (G.2.2.2.1 39)) S X4484 (Nat.le_of_ble_eq_true rfl) rfl lk5_24_5 (fun _ => ⟨_, rfl, rfl⟩) dX5_menOf_138 ?_
                  refine r_iload_n S dX5_menOf_141 rfl (lv_at hl 0 rfl) ?_
                  refine r_aload_n S dX5_menOf_142 rfl (lv_at hl 2 rfl) ?_
                  refine r_aload_n S dX5_menOf_143 rfl (lv_at hl 3 rfl) ?_
                  refine r_iload S dX5_menOf_144 (lv_at hl 5 rfl) ?_
                  refine r_ki (q_V (As := [.ref (G.2.2.2.1 22), .int i4478]) (rest := [.int v4725, .ref (G.2.2.2.1 39)]) (K := 17) (ci := 5) S X4484 (c_X5_menOfOne l G t4480 I4481 i4478 r4505 hYW4483) ck5_53 (Nat.le_of_ble_eq_true rfl) rfl (fun _ => ⟨_, rfl⟩) ⟨_, _, rfl⟩ ⟨Nat.le_of_ble_eq_true rfl, Nat.le_of_ble_eq_true rfl⟩ rfl hl.1 rfl (Nat.le_of_ble_eq_true rfl) dX5_menOf_146 ⟨Nat.le_refl 0, Nat.le_refl 0⟩) X4484 (fun v4734 t4733 H lc q4731 X4732 => ?_)
                  unfold po_X5_menOfOne at q4731
                  obtain ⟨q4735, q4736⟩ := q4731
                  rw [q4735] at X4732
                  refine r_ast (n := 40) (K := 21) S X4732 (Nat.le_of_ble_eq_true rfl) rfl (fun _ _ => rfl) (ix_of r4730 rfl) dX5_menOf_149 (fun t4737 H lc M4738 X4739 => ?_)
                  have I4740 := Inv_mu I4481 M4738 (R_any v4734)
                  have F4741 : Fr [] [39] τ t4737 := Fr_cell F4482 M4738 (by decide)
                  refine r_iinc (k := 5) S dX5_menOf_150 hl rfl (by decide) (by decide) (fun v4742 d4743 ls z4744 z4745 hl => ?_)
                  obtain ⟨e4746, r4747⟩ := i_add (lo := 1) (hi := 40) z4744 r4505 (R_eq z4745) rfl
                  have hl : lv_has ls 6 [(4, .int v4742), (3, .int v4725), (5, .ref (G.2.2.1 w4511)), (0, .ref (G.2.2.2.1 35)), (1, .ref (G.2.2.2.1 22)), (2, .int v4)] := hl
                  refine r_goto (tgt := 13) S dX5_menOf_153 (by decide) ?_
                  exact ih4488 t4737 _ _ _ v4725 v4742 X4739 I4740 F4741 (YW_eq hYW4483 (fun j => ((M4738.2 36 j (Or.inl (by decide))).trans rfl)) (fun j => ((M4738.2 37 j (Or.inl (by decide))).trans rfl))) (R_of r4730 rfl) (R_of r4747 rfl) (by omega) (by omega) (lv_sub hl [3, 4, 5, 1, 0] rfl) (by omega)
                ·
                  refine r_iload_n S dX5_menOf_106 rfl (lv_at hl 4 rfl) ?_
                  refine r_iconst S dX5_menOf_107 (by decide) (fun v4748 z4749 => ?_)
                  have r4750 := R_eq z4749
                  refine r_icmp_lt (tgt := 134) S dX5_menOf_108 (by decide) (fun c4751 => ?_) (fun c4751 => ?_)
                  ·
                    refine r_iinc (k := 4) S dX5_menOf_134 hl rfl (by decide) (by decide) (fun v4752 d4753 ls z4754 z4755 hl => ?_)
                    obtain ⟨e4756, r4757⟩ := i_add (lo := 0) (hi := 0) z4754 r4722 (R_eq z4755) rfl
                    have hl : lv_has ls 6 [(3, .int v4752), (5, .ref (G.2.2.1 w4511)), (0, .ref (G.2.2.2.1 35)), (1, .ref (G.2.2.2.1 22)), (2, .int v4), (4, .int i4478)] := hl
                    refine r_aload_n S dX5_menOf_137 rfl (lv_at hl 2 rfl) ?_
                    refine r_get (K := 17) (v := .ref (G.2.2.2.1 39)) S X4484 (Nat.le_of_ble_eq_true rfl) rfl lk5_24_5 (fun _ => ⟨_, rfl, rfl⟩) dX5_menOf_138 ?_
                    refine r_iload_n S dX5_menOf_141 rfl (lv_at hl 0 rfl) ?_
                    refine r_aload_n S dX5_menOf_142 rfl (lv_at hl 2 rfl) ?_
                    refine r_aload_n S dX5_menOf_143 rfl (lv_at hl 3 rfl) ?_
                    refine r_iload S dX5_menOf_144 (lv_at hl 5 rfl) ?_
                    refine r_ki (q_V (As := [.ref (G.2.2.2.1 22), .int i4478]) (rest := [.int v4752, .ref (G.2.2.2.1 39)]) (K := 17) (ci := 5) S X4484 (c_X5_menOfOne l G t4480 I4481 i4478 r4505 hYW4483) ck5_53 (Nat.le_of_ble_eq_true rfl) rfl (fun _ => ⟨_, rfl⟩) ⟨_, _, rfl⟩ ⟨Nat.le_of_ble_eq_true rfl, Nat.le_of_ble_eq_true rfl⟩ rfl hl.1 rfl (Nat.le_of_ble_eq_true rfl) dX5_menOf_146 ⟨Nat.le_refl 0, Nat.le_refl 0⟩) X4484 (fun v4761 t4760 H lc q4758 X4759 => ?_)
                    unfold po_X5_menOfOne at q4758
                    obtain ⟨q4762, q4763⟩ := q4758
                    rw [q4762] at X4759
                    refine r_ast (n := 40) (K := 21) S X4759 (Nat.le_of_ble_eq_true rfl) rfl (fun _ _ => rfl) (ix_of r4757 rfl) dX5_menOf_149 (fun t4764 H lc M4765 X4766 => ?_)
                    have I4767 := Inv_mu I4481 M4765 (R_any v4761)
                    have F4768 : Fr [] [39] τ t4764 := Fr_cell F4482 M4765 (by decide)
                    refine r_iinc (k := 5) S dX5_menOf_150 hl rfl (by decide) (by decide) (fun v4769 d4770 ls z4771 z4772 hl => ?_)
                    obtain ⟨e4773, r4774⟩ := i_add (lo := 1) (hi := 40) z4771 r4505 (R_eq z4772) rfl
                    have hl : lv_has ls 6 [(4, .int v4769), (3, .int v4752), (5, .ref (G.2.2.1 w4511)), (0, .ref (G.2.2.2.1 35)), (1, .ref (G.2.2.2.1 22)), (2, .int v4)] := hl
                    refine r_goto (tgt := 13) S dX5_menOf_153 (by decide) ?_
                    exact ih4488 t4764 _ _ _ v4752 v4769 X4766 I4767 F4768 (YW_eq hYW4483 (fun j => ((M4765.2 36 j (Or.inl (by decide))).trans rfl)) (fun j => ((M4765.2 37 j (Or.inl (by decide))).trans rfl))) (R_of r4757 rfl) (R_of r4774 rfl) (by omega) (by omega) (lv_sub hl [3, 4, 5, 1, 0] rfl) (by omega)
                  ·
                    exfalso; omega
              ·
                refine r_iload_n S dX5_menOf_70 rfl (lv_at hl 4 rfl) ?_
                refine r_iconst S dX5_menOf_71 (by decide) (fun v4775 z4776 => ?_)
                have r4777 := R_eq z4776
                refine r_icmp_lt (tgt := 98) S dX5_menOf_72 (by decide) (fun c4778 => ?_) (fun c4778 => ?_)
                ·
                  refine r_aload S dX5_menOf_98 (lv_at hl 0 rfl) ?_
                  refine r_wst (i := 13) S X4484 (by decide) kw69 dX5_menOf_100 ?_
                  refine r_cacmp_ne (tgt := 134) S h_w4511 (by decide) dX5_menOf_103 (by decide) (fun c4779 => ?_) (fun c4779 => ?_)
                  ·
                    refine r_iinc (k := 4) S dX5_menOf_134 hl rfl (by decide) (by decide) (fun v4780 d4781 ls z4782 z4783 hl => ?_)
                    obtain ⟨e4784, r4785⟩ := i_add (lo := 0) (hi := 0) z4782 r4722 (R_eq z4783) rfl
                    have hl : lv_has ls 6 [(3, .int v4780), (5, .ref (G.2.2.1 w4511)), (0, .ref (G.2.2.2.1 35)), (1, .ref (G.2.2.2.1 22)), (2, .int v4), (4, .int i4478)] := hl
                    refine r_aload_n S dX5_menOf_137 rfl (lv_at hl 2 rfl) ?_
                    refine r_get (K := 17) (v := .ref (G.2.2.2.1 39)) S X4484 (Nat.le_of_ble_eq_true rfl) rfl lk5_24_5 (fun _ => ⟨_, rfl, rfl⟩) dX5_menOf_138 ?_
                    refine r_iload_n S dX5_menOf_141 rfl (lv_at hl 0 rfl) ?_
                    refine r_aload_n S dX5_menOf_142 rfl (lv_at hl 2 rfl) ?_
                    refine r_aload_n S dX5_menOf_143 rfl (lv_at hl 3 rfl) ?_
                    refine r_iload S dX5_menOf_144 (lv_at hl 5 rfl) ?_
                    refine r_ki (q_V (As := [.ref (G.2.2.2.1 22), .int i4478]) (rest := [.int v4780, .ref (G.2.2.2.1 39)]) (K := 17) (ci := 5) S X4484 (c_X5_menOfOne l G t4480 I4481 i4478 r4505 hYW4483) ck5_53 (Nat.le_of_ble_eq_true rfl) rfl (fun _ => ⟨_, rfl⟩) ⟨_, _, rfl⟩ ⟨Nat.le_of_ble_eq_true rfl, Nat.le_of_ble_eq_true rfl⟩ rfl hl.1 rfl (Nat.le_of_ble_eq_true rfl) dX5_menOf_146 ⟨Nat.le_refl 0, Nat.le_refl 0⟩) X4484 (fun v4789 t4788 H lc q4786 X4787 => ?_)
                    unfold po_X5_menOfOne at q4786
                    obtain ⟨q4790, q4791⟩ := q4786
                    rw [q4790] at X4787
                    refine r_ast (n := 40) (K := 21) S X4787 (Nat.le_of_ble_eq_true rfl) rfl (fun _ _ => rfl) (ix_of r4785 rfl) dX5_menOf_149 (fun t4792 H lc M4793 X4794 => ?_)
                    have I4795 := Inv_mu I4481 M4793 (R_any v4789)
                    have F4796 : Fr [] [39] τ t4792 := Fr_cell F4482 M4793 (by decide)
                    refine r_iinc (k := 5) S dX5_menOf_150 hl rfl (by decide) (by decide) (fun v4797 d4798 ls z4799 z4800 hl => ?_)
                    obtain ⟨e4801, r4802⟩ := i_add (lo := 1) (hi := 40) z4799 r4505 (R_eq z4800) rfl
                    have hl : lv_has ls 6 [(4, .int v4797), (3, .int v4780), (5, .ref (G.2.2.1 w4511)), (0, .ref (G.2.2.2.1 35)), (1, .ref (G.2.2.2.1 22)), (2, .int v4)] := hl
                    refine r_goto (tgt := 13) S dX5_menOf_153 (by decide) ?_
                    exact ih4488 t4792 _ _ _ v4780 v4797 X4794 I4795 F4796 (YW_eq hYW4483 (fun j => ((M4793.2 36 j (Or.inl (by decide))).trans rfl)) (fun j => ((M4793.2 37 j (Or.inl (by decide))).trans rfl))) (R_of r4785 rfl) (R_of r4802 rfl) (by omega) (by omega) (lv_sub hl [3, 4, 5, 1, 0] rfl) (by omega)
                  ·
                    refine r_iload_n S dX5_menOf_106 rfl (lv_at hl 4 rfl) ?_
                    refine r_iconst S dX5_menOf_107 (by decide) (fun v4803 z4804 => ?_)
                    have r4805 := R_eq z4804
                    refine r_icmp_lt (tgt := 134) S dX5_menOf_108 (by decide) (fun c4806 => ?_) (fun c4806 => ?_)
                    ·
                      refine r_iinc (k := 4) S dX5_menOf_134 hl rfl (by decide) (by decide) (fun v4807 d4808 ls z4809 z4810 hl => ?_)
                      obtain ⟨e4811, r4812⟩ := i_add (lo := 0) (hi := 0) z4809 r4722 (R_eq z4810) rfl
                      have hl : lv_has ls 6 [(3, .int v4807), (5, .ref (G.2.2.1 w4511)), (0, .ref (G.2.2.2.1 35)), (1, .ref (G.2.2.2.1 22)), (2, .int v4), (4, .int i4478)] := hl
                      refine r_aload_n S dX5_menOf_137 rfl (lv_at hl 2 rfl) ?_
                      refine r_get (K := 17) (v := .ref (G.2.2.2.1 39)) S X4484 (Nat.le_of_ble_eq_true rfl) rfl lk5_24_5 (fun _ => ⟨_, rfl, rfl⟩) dX5_menOf_138 ?_
                      refine r_iload_n S dX5_menOf_141 rfl (lv_at hl 0 rfl) ?_
                      refine r_aload_n S dX5_menOf_142 rfl (lv_at hl 2 rfl) ?_
                      refine r_aload_n S dX5_menOf_143 rfl (lv_at hl 3 rfl) ?_
                      refine r_iload S dX5_menOf_144 (lv_at hl 5 rfl) ?_
                      refine r_ki (q_V (As := [.ref (G.2.2.2.1 22), .int i4478]) (rest := [.int v4807, .ref (G.2.2.2.1 39)]) (K := 17) (ci := 5) S X4484 (c_X5_menOfOne l G t4480 I4481 i4478 r4505 hYW4483) ck5_53 (Nat.le_of_ble_eq_true rfl) rfl (fun _ => ⟨_, rfl⟩) ⟨_, _, rfl⟩ ⟨Nat.le_of_ble_eq_true rfl, Nat.le_of_ble_eq_true rfl⟩ rfl hl.1 rfl (Nat.le_of_ble_eq_true rfl) dX5_menOf_146 ⟨Nat.le_refl 0, Nat.le_refl 0⟩) X4484 (fun v4816 t4815 H lc q4813 X4814 => ?_)
                      unfold po_X5_menOfOne at q4813
                      obtain ⟨q4817, q4818⟩ := q4813
                      rw [q4817] at X4814
                      refine r_ast (n := 40) (K := 21) S X4814 (Nat.le_of_ble_eq_true rfl) rfl (fun _ _ => rfl) (ix_of r4812 rfl) dX5_menOf_149 (fun t4819 H lc M4820 X4821 => ?_)
                      have I4822 := Inv_mu I4481 M4820 (R_any v4816)
                      have F4823 : Fr [] [39] τ t4819 := Fr_cell F4482 M4820 (by decide)
                      refine r_iinc (k := 5) S dX5_menOf_150 hl rfl (by decide) (by decide) (fun v4824 d4825 ls z4826 z4827 hl => ?_)
                      obtain ⟨e4828, r4829⟩ := i_add (lo := 1) (hi := 40) z4826 r4505 (R_eq z4827) rfl
                      have hl : lv_has ls 6 [(4, .int v4824), (3, .int v4807), (5, .ref (G.2.2.1 w4511)), (0, .ref (G.2.2.2.1 35)), (1, .ref (G.2.2.2.1 22)), (2, .int v4)] := hl
                      refine r_goto (tgt := 13) S dX5_menOf_153 (by decide) ?_
                      exact ih4488 t4819 _ _ _ v4807 v4824 X4821 I4822 F4823 (YW_eq hYW4483 (fun j => ((M4820.2 36 j (Or.inl (by decide))).trans rfl)) (fun j => ((M4820.2 37 j (Or.inl (by decide))).trans rfl))) (R_of r4812 rfl) (R_of r4829 rfl) (by omega) (by omega) (lv_sub hl [3, 4, 5, 1, 0] rfl) (by omega)
                    ·
                      exfalso; omega
                ·
                  exfalso; omega
            ·
              have r4830 : R (0) (38) i4476 := ⟨by omega, by omega⟩
              refine r_aload_n S dX5_menOf_43 rfl (lv_at hl 1 rfl) ?_
              refine r_get (K := 17) (v := .ref (G.2.2.2.1 39)) S X4484 (Nat.le_of_ble_eq_true rfl) rfl lk5_24_5 (fun _ => ⟨_, rfl, rfl⟩) dX5_menOf_44 ?_
              refine r_iload_n S dX5_menOf_47 rfl (lv_at hl 4 rfl) ?_
              refine r_iload_n S dX5_menOf_48 rfl (lv_at hl 3 rfl) ?_
              refine r_aload_n S dX5_menOf_49 rfl (lv_at hl 1 rfl) ?_
              refine r_get (K := 17) (v := .ref (G.2.2.2.1 39)) S X4484 (Nat.le_of_ble_eq_true rfl) rfl lk5_24_5 (fun _ => ⟨_, rfl, rfl⟩) dX5_menOf_50 ?_
              refine r_iload_n S dX5_menOf_53 rfl (lv_at hl 4 rfl) ?_
              refine r_aldn (n := 40) (K := 21) S X4484 (Nat.le_of_ble_eq_true rfl) rfl (fun _ => rfl) (ix_of r4830 rfl) dX5_menOf_54 (fun v4831 z4832 => ?_)
              have r4834 := R_any v4831
              refine r_iconst S dX5_menOf_55 (by decide) (fun v4835 z4836 => ?_)
              have r4837 := R_eq z4836
              refine r_ixor S dX5_menOf_56 (fun v4838 z4839 => ?_)
              have r4840 := R_any v4838
              refine r_iand S dX5_menOf_57 (fun v4841 z4842 => ?_)
              have r4844 : R (0) (1023) v4841 := i_and1 z4842 q6 r4840 rfl
              have e4845 := i_andle z4842 q6 rfl
              refine r_ast (n := 40) (K := 21) S X4484 (Nat.le_of_ble_eq_true rfl) rfl (fun _ _ => rfl) (ix_of r4830 rfl) dX5_menOf_58 (fun t4846 H lc M4847 X4848 => ?_)
              have I4849 := Inv_mu I4481 M4847 (R_any v4841)
              have F4850 : Fr [] [39] τ t4846 := Fr_cell F4482 M4847 (by decide)
              refine r_goto (tgt := 150) S dX5_menOf_59 (by decide) ?_
              refine r_iinc (k := 5) S dX5_menOf_150 hl rfl (by decide) (by decide) (fun v4851 d4852 ls z4853 z4854 hl => ?_)
              obtain ⟨e4855, r4856⟩ := i_add (lo := 1) (hi := 40) z4853 r4505 (R_eq z4854) rfl
              have hl : lv_has ls 6 [(4, .int v4851), (5, .ref (G.2.2.1 w4511)), (0, .ref (G.2.2.2.1 35)), (1, .ref (G.2.2.2.1 22)), (2, .int v4), (3, .int i4476)] := hl
              refine r_goto (tgt := 13) S dX5_menOf_153 (by decide) ?_
              exact ih4488 t4846 _ _ _ i4476 v4851 X4848 I4849 F4850 (YW_eq hYW4483 (fun j => ((M4847.2 36 j (Or.inl (by decide))).trans rfl)) (fun j => ((M4847.2 37 j (Or.inl (by decide))).trans rfl))) (R_of r4830 rfl) (R_of r4856 rfl) (by omega) (by omega) (lv_sub hl [2, 3, 4, 5, 0] rfl) (by omega)
  exact L4485 _ τ _ _ _ v7 v10 X2 hI Fr_rfl hYW (R_of r9 rfl) (R_of r12 rfl) (by omega) (by omega) (lv_sub hl [3, 4, 2, 1, 0] rfl) (Nat.lt_succ_self _)
def po_X11_said (τ : Tau)  (a0 : Int32)   (r : Int32) (u : Tau) : Prop := Inv u ∧ Fr [] [39] τ u
set_option maxHeartbeats 4000000 in
set_option maxRecDepth 100000 in
theorem c_X11_said (l : Launch) (G : Gx) (τ : Tau) (hI : Inv τ) (a0 : Int32) (h_a0 : R (-2147483648) (2147483647) a0) (hYW : YW τ) : Ci l G yX11_said cX11_said 5 (some .int) 6 146 [.ref (G.2.2.2.1 0), .int a0] τ (po_X11_said τ  a0  ) := by
  unfold Ci
  refine C_of (own := RX11) (by decide) rfl (Nat.le_of_ble_eq_true rfl) ?_
  intro p e s m below meth c ls S hr hlk X hl
  have hl : lv_has ls 5 [(0, .ref (G.2.2.2.1 0)), (1, .int a0)] := hl
  refine r_aload_n S dX11_said_0 rfl (lv_at hl 0 rfl) ?_
  refine r_get (K := 0) (v := .ref (G.2.2.2.1 22)) S X (Nat.le_of_ble_eq_true rfl) rfl lk11_42_9 (fun _ => ⟨_, rfl, rfl⟩) dX11_said_1 ?_
  refine r_get (K := 22) (v := .ref (G.2.2.2.1 35)) S X (Nat.le_of_ble_eq_true rfl) rfl lk11_281_8 (fun _ => ⟨_, rfl, rfl⟩) dX11_said_4 ?_
  refine r_getn (K := 17) S X (Nat.le_of_ble_eq_true rfl) rfl lk11_296_5 (fun _ => ⟨_, rfl, rfl⟩) dX11_said_7 (fun v1 z2 => ?_)
  have r3 : R (0) (40) v1 := rd hI rfl z2
  refine r_if_ne (tgt := 15) S dX11_said_10 (by decide) (fun c4 => ?_) (fun c4 => ?_)
  ·
    have r5 : R (1) (40) v1 := ⟨by omega, by omega⟩
    refine r_aload_n S dX11_said_15 rfl (lv_at hl 0 rfl) ?_
    refine r_get (K := 0) (v := .ref (G.2.2.2.1 22)) S X (Nat.le_of_ble_eq_true rfl) rfl lk11_42_9 (fun _ => ⟨_, rfl, rfl⟩) dX11_said_16 ?_
    refine r_get (K := 22) (v := .ref (G.2.2.2.1 35)) S X (Nat.le_of_ble_eq_true rfl) rfl lk11_281_8 (fun _ => ⟨_, rfl, rfl⟩) dX11_said_19 ?_
    refine r_aload_n S dX11_said_22 rfl (lv_at hl 0 rfl) ?_
    refine r_get (K := 0) (v := .ref (G.2.2.2.1 22)) S X (Nat.le_of_ble_eq_true rfl) rfl lk11_42_9 (fun _ => ⟨_, rfl, rfl⟩) dX11_said_23 ?_
    refine r_ki (q_V (As := [.ref (G.2.2.2.1 22)]) (rest := []) (K := 17) (ci := 5) S X (c_X5_menOf l G τ hI hYW) ck11_297 (Nat.le_of_ble_eq_true rfl) rfl (fun _ => ⟨_, rfl⟩) ⟨_, _, rfl⟩ ⟨Nat.le_of_ble_eq_true rfl, Nat.le_of_ble_eq_true rfl⟩ rfl hl.1 rfl (Nat.le_of_ble_eq_true rfl) dX11_said_26 ⟨Nat.le_refl 0, Nat.le_refl 0⟩) X (fun v9 t8 H lc q6 X7 => ?_)
    unfold po_X5_menOf at q6
    obtain ⟨q10, q11⟩ := q6
    have F12 : Fr [] [39] τ t8 := Fr_call Fr_rfl q11 (by decide)
    have r13 := R_any v9
    refine r_istore_n (lv' := [(2, .int v9), (0, .ref (G.2.2.2.1 0)), (1, .int a0)]) S dX11_said_29 rfl hl (by decide) rfl (fun ls hl => ?_)
    refine r_iconst S dX11_said_30 (by decide) (fun v14 z15 => ?_)
    have r16 := R_eq z15
    refine r_istore_n (lv' := [(3, .int v14), (2, .int v9), (0, .ref (G.2.2.2.1 0)), (1, .int a0)]) S dX11_said_31 rfl hl (by decide) rfl (fun ls hl => ?_)
    refine r_iconst S dX11_said_32 (by decide) (fun v17 z18 => ?_)
    have r19 := R_eq z18
    refine r_istore (lv' := [(4, .int v17), (3, .int v14), (2, .int v9), (0, .ref (G.2.2.2.1 0)), (1, .int a0)]) S dX11_said_33 hl (by decide) rfl (fun ls hl => ?_)
    have L1828 : ∀ (n : Nat) (H : Heap) (lc : List Loc) (ls : Array Slot) (i1823 : Int32) (i1825 : Int32), Xd G s H lc t8 → R (-2147483648) (2147483647) i1823 → R (0) (10) i1825 → lv_has ls 5 [(0, .ref (G.2.2.2.1 0)), (1, .int a0), (2, .int v9), (3, .int i1823), (4, .int i1825)] → (10 - i1825.toInt).toNat < n → W p l e (Rm 6 146) s m ([.ref (G.2.2.2.1 0), .int a0] : List Value).toArray below meth c H lc 0 0 (MQ below (va_Qi (po_X11_said τ  a0  ) (Bs G) G.2.2.2.2) ([.ref (G.2.2.2.1 0), .int a0] : List Value).toArray s 0 0 G.2.2.2.2) (F0 m 35 ls []) := by
      intro n
      induction n with
      | zero => intros; omega
      | succ n ih1829 =>
        intro H lc ls i1823 i1825 X1827 r1824 r1826 hl hm
        refine r_iload S dX11_said_35 (lv_at hl 4 rfl) ?_
        refine r_aload_n S dX11_said_37 rfl (lv_at hl 0 rfl) ?_
        refine r_get (K := 0) (v := .ref (G.2.2.2.1 22)) S X1827 (Nat.le_of_ble_eq_true rfl) rfl lk11_42_9 (fun _ => ⟨_, rfl, rfl⟩) dX11_said_38 ?_
        refine r_get (K := 22) (v := .ref (G.2.2.2.1 23)) S X1827 (Nat.le_of_ble_eq_true rfl) rfl lk11_139_8 (fun _ => ⟨_, rfl, rfl⟩) dX11_said_41 ?_
        refine r_getn (K := 4) S X1827 (Nat.le_of_ble_eq_true rfl) rfl lk11_244_2 (fun _ => ⟨_, rfl, rfl⟩) dX11_said_44 (fun v1830 z1831 => ?_)
        have r1832 : R (0) (10) v1830 := rd q10 rfl z1831
        refine r_icmp_ge (tgt := 77) S dX11_said_47 (by decide) (fun c1833 => ?_) (fun c1833 => ?_)
        ·
          refine r_iload_n S dX11_said_77 rfl (lv_at hl 1 rfl) ?_
          refine r_iconst S dX11_said_78 (by decide) (fun v1834 z1835 => ?_)
          have r1836 := R_eq z1835
          refine r_icmp_ne (tgt := 86) S dX11_said_79 (by decide) (fun c1837 => ?_) (fun c1837 => ?_)
          ·
            refine r_iconst S dX11_said_86 (by decide) (fun v1838 z1839 => ?_)
            have r1840 := R_eq z1839
            exact r_ret S hr hlk X1827 ⟨q10, F12⟩ rfl dX11_said_87
          ·
            have r1841 : R (-1) (-1) a0 := ⟨by omega, by omega⟩
            refine r_iload_n S dX11_said_82 rfl (lv_at hl 3 rfl) ?_
            refine r_goto (tgt := 87) S dX11_said_83 (by decide) ?_
            exact r_ret S hr hlk X1827 ⟨q10, F12⟩ rfl dX11_said_87
        ·
          have r1842 : R (0) (9) i1825 := ⟨by omega, by omega⟩
          have r1843 : R (1) (10) v1830 := ⟨by omega, by omega⟩
          refine r_iload_n S dX11_said_50 rfl (lv_at hl 2 rfl) ?_
          refine r_iload S dX11_said_51 (lv_at hl 4 rfl) ?_
          refine r_ki (q_S (As := [.int v9, .int i1825]) (rest := []) S X1827 (c_X11_bit l G t8 q10 v9 i1825 r13 (R_of (lo := -2147483648) (hi := 2147483647) r1842 rfl)) ck11_135 ⟨Nat.le_of_ble_eq_true rfl, Nat.le_of_ble_eq_true rfl⟩ rfl hl.1 rfl (Nat.le_of_ble_eq_true rfl) dX11_said_53 ⟨Nat.le_refl 0, Nat.le_refl 0⟩) X1827 (fun v1847 t1846 H lc q1844 X1845 => ?_)
          unfold po_X11_bit at q1844
          obtain ⟨q1848, q1849⟩ := q1844
          rw [q1848] at X1845
          refine r_iconst S dX11_said_56 (by decide) (fun v1850 z1851 => ?_)
          have r1852 := R_eq z1851
          refine r_icmp_ne (tgt := 71) S dX11_said_57 (by decide) (fun c1853 => ?_) (fun c1853 => ?_)
          ·
            have r1854 : R (0) (0) v1847 := ⟨by omega, by omega⟩
            refine r_iinc (k := 4) S dX11_said_71 hl rfl (by decide) (by decide) (fun v1855 d1856 ls z1857 z1858 hl => ?_)
            obtain ⟨e1859, r1860⟩ := i_add (lo := 1) (hi := 10) z1857 r1842 (R_eq z1858) rfl
            have hl : lv_has ls 5 [(4, .int v1855), (0, .ref (G.2.2.2.1 0)), (1, .int a0), (2, .int v9), (3, .int i1823)] := hl
            refine r_goto (tgt := 35) S dX11_said_74 (by decide) ?_
            exact ih1829 _ _ _ i1823 v1855 X1845 r1824 (R_of r1860 rfl) (lv_sub hl [1, 2, 3, 4, 0] rfl) (by omega)
          ·
            have r1861 : R (1) (1) v1847 := ⟨by omega, by omega⟩
            refine r_iload_n S dX11_said_60 rfl (lv_at hl 3 rfl) ?_
            refine r_iload_n S dX11_said_61 rfl (lv_at hl 1 rfl) ?_
            refine r_icmp_ne (tgt := 68) S dX11_said_62 (by decide) (fun c1862 => ?_) (fun c1862 => ?_)
            ·
              refine r_iinc (k := 3) S dX11_said_68 hl rfl (by decide) (by decide) (fun v1863 d1864 ls z1865 z1866 hl => ?_)
              have r1867 := R_any v1863
              have hl : lv_has ls 5 [(3, .int v1863), (0, .ref (G.2.2.2.1 0)), (1, .int a0), (2, .int v9), (4, .int i1825)] := hl
              refine r_iinc (k := 4) S dX11_said_71 hl rfl (by decide) (by decide) (fun v1868 d1869 ls z1870 z1871 hl => ?_)
              obtain ⟨e1872, r1873⟩ := i_add (lo := 1) (hi := 10) z1870 r1842 (R_eq z1871) rfl
              have hl : lv_has ls 5 [(4, .int v1868), (3, .int v1863), (0, .ref (G.2.2.2.1 0)), (1, .int a0), (2, .int v9)] := hl
              refine r_goto (tgt := 35) S dX11_said_74 (by decide) ?_
              exact ih1829 _ _ _ v1863 v1868 X1845 r1867 (R_of r1873 rfl) (lv_sub hl [2, 3, 4, 1, 0] rfl) (by omega)
            ·
              refine r_iload S dX11_said_65 (lv_at hl 4 rfl) ?_
              exact r_ret S hr hlk X1845 ⟨q10, F12⟩ rfl dX11_said_67
    exact L1828 _ _ _ _ v14 v17 X7 (R_of r16 rfl) (R_of r19 rfl) (lv_sub hl [3, 4, 2, 1, 0] rfl) (Nat.lt_succ_self _)
  ·
    have r1874 : R (0) (0) v1 := ⟨by omega, by omega⟩
    refine r_iconst S dX11_said_13 (by decide) (fun v1875 z1876 => ?_)
    have r1877 := R_eq z1876
    exact r_ret S hr hlk X ⟨hI, Fr_rfl⟩ rfl dX11_said_14
