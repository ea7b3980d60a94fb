def po_X4_foesAhead (τ : Tau)  (a1 : Int32)   (r : Int32) (u : Tau) : Prop := u = τ ∧ R (0) (1023) r
set_option maxHeartbeats 4000000 in
set_option maxRecDepth 100000 in
theorem c_X4_foesAhead (l : Launch) (G : Gx) (τ : Tau) (hI : Inv τ) (a1 : Int32) (h_a1 : R (0) (9) a1) : Ci l G yX4_foesAhead cX4_foesAhead 4 (some .int) 3 74 [.ref (G.2.2.2.1 22), .int a1] τ (po_X4_foesAhead τ  a1  ) := by
  unfold Ci
  refine C_of (own := RX4) (by decide) rfl (Nat.le_of_ble_eq_true rfl) ?_
  intro p e s m below meth c ls S hr hlk X hl
  have hl : lv_has ls 4 [(0, .ref (G.2.2.2.1 22)), (1, .int a1)] := hl
  refine r_iconst S dX4_foesAhead_0 (by decide) (fun v1 z2 => ?_)
  have r3 := R_eq z2
  refine r_istore_n (lv' := [(2, .int v1), (0, .ref (G.2.2.2.1 22)), (1, .int a1)]) S dX4_foesAhead_1 rfl hl (by decide) rfl (fun ls hl => ?_)
  refine r_iconst S dX4_foesAhead_2 (by decide) (fun v4 z5 => ?_)
  have r6 := R_eq z5
  refine r_istore_n (lv' := [(3, .int v4), (2, .int v1), (0, .ref (G.2.2.2.1 22)), (1, .int a1)]) S dX4_foesAhead_3 rfl hl (by decide) rfl (fun ls hl => ?_)
  have L292 : ∀ (n : Nat) (H : Heap) (lc : List Loc) (ls : Array Slot) (i287 : Int32) (i289 : Int32), Xd G s H lc τ → R (0) (1023) i287 → R (0) (9) i289 → lv_has ls 4 [(0, .ref (G.2.2.2.1 22)), (1, .int a1), (2, .int i287), (3, .int i289)] → (9 - i289.toInt).toNat < n → W p l e (Rm 3 74) s m ([.ref (G.2.2.2.1 22), .int a1] : List Value).toArray below meth c H lc 0 0 (MQ below (va_Qi (po_X4_foesAhead τ  a1  ) (Bs G) G.2.2.2.2) ([.ref (G.2.2.2.1 22), .int a1] : List Value).toArray s 0 0 G.2.2.2.2) (F0 m 4 ls []) := by
    intro n
    induction n with
    | zero => intros; omega
    | succ n ih293 =>
      intro H lc ls i287 i289 X291 r288 r290 hl hm
      refine r_iload_n S dX4_foesAhead_4 rfl (lv_at hl 3 rfl) ?_
      refine r_iload_n S dX4_foesAhead_5 rfl (lv_at hl 1 rfl) ?_
      refine r_icmp_ge (tgt := 30) S dX4_foesAhead_6 (by decide) (fun c294 => ?_) (fun c294 => ?_)
      ·
        refine r_iload_n S dX4_foesAhead_30 rfl (lv_at hl 2 rfl) ?_
        exact r_ret S hr hlk X291 ⟨rfl, r288⟩ rfl dX4_foesAhead_31
      ·
        have r295 : R (0) (8) i289 := ⟨by omega, by omega⟩
        have r296 : R (1) (9) a1 := ⟨by omega, by omega⟩
        refine r_aload_n S dX4_foesAhead_9 rfl (lv_at hl 0 rfl) ?_
        refine r_iload_n S dX4_foesAhead_10 rfl (lv_at hl 3 rfl) ?_
        refine r_iload_n S dX4_foesAhead_11 rfl (lv_at hl 1 rfl) ?_
        refine r_ki (q_V (As := [.int i289, .int a1]) (rest := []) (K := 22) (ci := 8) S X291 (c_X10_areFoes l G τ hI i289 a1 (R_of (lo := 0) (hi := 9) r295 rfl) (R_of (lo := 0) (hi := 9) r296 rfl)) ck4_61 (Nat.le_of_ble_eq_true rfl) rfl (fun _ => ⟨_, rfl⟩) ⟨_, _, rfl⟩ ⟨Nat.le_of_ble_eq_true rfl, Nat.le_of_ble_eq_true rfl⟩ rfl hl.1 rfl (Nat.le_of_ble_eq_true rfl) dX4_foesAhead_12 ⟨Nat.le_refl 0, Nat.le_refl 0⟩) X291 (fun v300 t299 H lc q297 X298 => ?_)
        unfold po_X10_areFoes at q297
        obtain ⟨q301, q302⟩ := q297
        rw [q301] at X298
        refine r_if_eq (tgt := 24) S dX4_foesAhead_15 (by decide) (fun c303 => ?_) (fun c303 => ?_)
        ·
          have r304 : R (0) (0) v300 := ⟨by omega, by omega⟩
          refine r_iinc (k := 3) S dX4_foesAhead_24 hl rfl (by decide) (by decide) (fun v305 d306 ls z307 z308 hl => ?_)
          obtain ⟨e309, r310⟩ := i_add (lo := 1) (hi := 9) z307 r295 (R_eq z308) rfl
          have hl : lv_has ls 4 [(3, .int v305), (0, .ref (G.2.2.2.1 22)), (1, .int a1), (2, .int i287)] := hl
          refine r_goto (tgt := 4) S dX4_foesAhead_27 (by decide) ?_
          exact ih293 _ _ _ i287 v305 X298 r288 (R_of r310 rfl) (lv_sub hl [1, 2, 3, 0] rfl) (by omega)
        ·
          have r311 : R (1) (1) v300 := ⟨by omega, by omega⟩
          refine r_iload_n S dX4_foesAhead_18 rfl (lv_at hl 2 rfl) ?_
          refine r_iconst S dX4_foesAhead_19 (by decide) (fun v312 z313 => ?_)
          have r314 := R_eq z313
          refine r_iload_n S dX4_foesAhead_20 rfl (lv_at hl 3 rfl) ?_
          refine r_ishl S dX4_foesAhead_21 (fun v315 z316 => ?_)
          have r318 : R (1) (256) v315 := i_shl z316 r314 r295 rfl
          refine r_ior S dX4_foesAhead_22 (fun v319 z320 => ?_)
          have r322 : R (0) (1023) v319 := i_or 10 z320 r288 r318 rfl
          refine r_istore_n (lv' := [(2, .int v319), (0, .ref (G.2.2.2.1 22)), (1, .int a1), (3, .int i289)]) S dX4_foesAhead_23 rfl hl (by decide) rfl (fun ls hl => ?_)
          refine r_iinc (k := 3) S dX4_foesAhead_24 hl rfl (by decide) (by decide) (fun v323 d324 ls z325 z326 hl => ?_)
          obtain ⟨e327, r328⟩ := i_add (lo := 1) (hi := 9) z325 r295 (R_eq z326) rfl
          have hl : lv_has ls 4 [(3, .int v323), (2, .int v319), (0, .ref (G.2.2.2.1 22)), (1, .int a1)] := hl
          refine r_goto (tgt := 4) S dX4_foesAhead_27 (by decide) ?_
          exact ih293 _ _ _ v319 v323 X298 r322 (R_of r328 rfl) (lv_sub hl [2, 3, 1, 0] rfl) (by omega)
  exact L292 _ _ _ _ v1 v4 X (R_of r3 rfl) (R_of r6 rfl) (lv_sub hl [2, 3, 1, 0] rfl) (Nat.lt_succ_self _)
def po_X4_load (τ : Tau)  (a1 : Int32)   (u : Tau) : Prop := Inv u ∧ Fr [] [46, 47, 48] τ u
set_option maxHeartbeats 4000000 in
set_option maxRecDepth 100000 in
theorem c_X4_load (l : Launch) (G : Gx) (τ : Tau) (hI : Inv τ) (a1 : Int32) (h_a1 : R (0) (8) a1) : Cv l G yX4_load cX4_load 9 4 97 [.ref (G.2.2.2.1 45), .ref (G.2.2.2.1 22), .int a1] τ (po_X4_load τ  a1  ) := by
  unfold Cv
  refine C_of (own := RX4) (by decide) rfl (Nat.le_of_ble_eq_true rfl) ?_
  intro p e s m below meth c ls S hr hlk X hl
  have hl : lv_has ls 9 [(0, .ref (G.2.2.2.1 45)), (1, .ref (G.2.2.2.1 22)), (2, .int a1)] := hl
  refine r_aload_n S dX4_load_0 rfl (lv_at hl 0 rfl) ?_
  refine r_get (K := 28) (v := .ref (G.2.2.2.1 46)) S X (Nat.le_of_ble_eq_true rfl) rfl lk4_9_4 (fun _ => ⟨_, rfl, rfl⟩) dX4_load_1 ?_
  refine r_iconst S dX4_load_4 (by decide) (fun v1 z2 => ?_)
  have r3 := R_eq z2
  refine r_iconst S dX4_load_5 (by decide) (fun v4 z5 => ?_)
  have r6 := R_eq z5
  refine r_ast (n := 1024) (K := 29) S X (Nat.le_of_ble_eq_true rfl) rfl (fun _ _ => rfl) (ix_of r3 rfl) dX4_load_6 (fun t7 H lc M8 X9 => ?_)
  have I10 := Inv_mu hI M8 (R_any v4)
  have F11 : Fr [] [46, 47, 48] τ t7 := Fr_cell Fr_rfl M8 (by decide)
  refine r_aload_n S dX4_load_7 rfl (lv_at hl 0 rfl) ?_
  refine r_get (K := 28) (v := .ref (G.2.2.2.1 47)) S X9 (Nat.le_of_ble_eq_true rfl) rfl lk4_15_4 (fun _ => ⟨_, rfl, rfl⟩) dX4_load_8 ?_
  refine r_iconst S dX4_load_11 (by decide) (fun v12 z13 => ?_)
  have r14 := R_eq z13
  refine r_iconst S dX4_load_12 (by decide) (fun v15 z16 => ?_)
  have r17 := R_eq z16
  refine r_zast (n := 1024) (K := 30) S X9 (Nat.le_of_ble_eq_true rfl) rfl (fun _ _ => rfl) (ix_of r14 rfl) (R_of (lo := 0) (hi := 1) r17 rfl) dX4_load_13 (fun t18 H lc M19 X20 => ?_)
  have I21 := Inv_mu I10 M19 (show Rg (kd 47) _ v15 from (R_of (lo := 0) (hi := 1) r17 rfl))
  have F22 : Fr [] [46, 47, 48] τ t18 := Fr_cell F11 M19 (by decide)
  refine r_aload_n S dX4_load_14 rfl (lv_at hl 0 rfl) ?_
  refine r_get (K := 28) (v := .ref (G.2.2.2.1 48)) S X20 (Nat.le_of_ble_eq_true rfl) rfl lk4_19_4 (fun _ => ⟨_, rfl, rfl⟩) dX4_load_15 ?_
  refine r_iconst S dX4_load_18 (by decide) (fun v23 z24 => ?_)
  have r25 := R_eq z24
  refine r_iconst S dX4_load_19 (by decide) (fun v26 z27 => ?_)
  have r28 := R_eq z27
  refine r_zast (n := 1024) (K := 31) S X20 (Nat.le_of_ble_eq_true rfl) rfl (fun _ _ => rfl) (ix_of r25 rfl) (R_of (lo := 0) (hi := 1) r28 rfl) dX4_load_20 (fun t29 H lc M30 X31 => ?_)
  have I32 := Inv_mu I21 M30 (show Rg (kd 48) _ v26 from (R_of (lo := 0) (hi := 1) r28 rfl))
  have F33 : Fr [] [46, 47, 48] τ t29 := Fr_cell F22 M30 (by decide)
  refine r_iconst S dX4_load_21 (by decide) (fun v34 z35 => ?_)
  have r36 := R_eq z35
  refine r_istore_n (lv' := [(3, .int v34), (0, .ref (G.2.2.2.1 45)), (1, .ref (G.2.2.2.1 22)), (2, .int a1)]) S dX4_load_22 rfl hl (by decide) rfl (fun ls hl => ?_)
  have L35747 : ∀ (n : Nat) (t35743 : Tau) (H : Heap) (lc : List Loc) (ls : Array Slot) (i35741 : Int32), Xd G s H lc t35743 → Inv t35743 → Fr [] [46, 47, 48] τ t35743 → R (0) (10) i35741 → lv_has ls 9 [(0, .ref (G.2.2.2.1 45)), (1, .ref (G.2.2.2.1 22)), (2, .int a1), (3, .int i35741)] → (10 - i35741.toInt).toNat < n → W p l e (Rm 4 97) s m ([.ref (G.2.2.2.1 45), .ref (G.2.2.2.1 22), .int a1] : List Value).toArray below meth c H lc 0 0 (MQ below (va_Qv (po_X4_load τ  a1  ) (Bs G) G.2.2.2.2) ([.ref (G.2.2.2.1 45), .ref (G.2.2.2.1 22), .int a1] : List Value).toArray s 0 0 G.2.2.2.2) (F0 m 23 ls []) := by
    intro n
    induction n with
    | zero => intros; omega
    | succ n ih35748 =>
      intro t35743 H lc ls i35741 X35746 I35744 F35745 r35742 hl hm
      refine r_iload_n S dX4_load_23 rfl (lv_at hl 3 rfl) ?_
      refine r_aload_n S dX4_load_24 rfl (lv_at hl 1 rfl) ?_
      refine r_get (K := 22) (v := .ref (G.2.2.2.1 23)) S X35746 (Nat.le_of_ble_eq_true rfl) rfl lk4_28_8 (fun _ => ⟨_, rfl, rfl⟩) dX4_load_25 ?_
      refine r_getn (K := 4) S X35746 (Nat.le_of_ble_eq_true rfl) rfl lk4_34_2 (fun _ => ⟨_, rfl, rfl⟩) dX4_load_28 (fun v35749 z35750 => ?_)
      have r35751 : R (0) (10) v35749 := rd I35744 rfl z35750
      refine r_icmp_ge (tgt := 182) S dX4_load_31 (by decide) (fun c35752 => ?_) (fun c35752 => ?_)
      ·
        exact r_vret S hr hlk X35746 ⟨I35744, F35745⟩ dX4_load_182
      ·
        have r35753 : R (0) (9) i35741 := ⟨by omega, by omega⟩
        have r35754 : R (1) (10) v35749 := ⟨by omega, by omega⟩
        refine r_iconst S dX4_load_34 (by decide) (fun v35755 z35756 => ?_)
        have r35757 := R_eq z35756
        refine r_iload_n S dX4_load_35 rfl (lv_at hl 3 rfl) ?_
        refine r_ishl S dX4_load_36 (fun v35758 z35759 => ?_)
        have r35761 : R (1) (512) v35758 := i_shl z35759 r35757 r35753 rfl
        refine r_istore (lv' := [(4, .int v35758), (0, .ref (G.2.2.2.1 45)), (1, .ref (G.2.2.2.1 22)), (2, .int a1), (3, .int i35741)]) S dX4_load_37 hl (by decide) rfl (fun ls hl => ?_)
        refine r_aload_n S dX4_load_39 rfl (lv_at hl 2 rfl) ?_
        refine r_iload S dX4_load_40 (lv_at hl 0 rfl) ?_
        refine r_iload_n S dX4_load_42 rfl (lv_at hl 3 rfl) ?_
        refine r_ki (q_V (As := [.int v35758, .int a1]) (rest := []) (K := 22) (ci := 8) S X35746 (c_X10_together l G t35743 I35744 v35758 a1 (R_of (lo := -2147483648) (hi := 2147483647) r35761 rfl) h_a1) ck4_40 (Nat.le_of_ble_eq_true rfl) rfl (fun _ => ⟨_, rfl⟩) ⟨_, _, rfl⟩ ⟨Nat.le_of_ble_eq_true rfl, Nat.le_of_ble_eq_true rfl⟩ rfl hl.1 rfl (Nat.le_of_ble_eq_true rfl) dX4_load_43 ⟨Nat.le_refl 0, Nat.le_refl 0⟩) X35746 (fun v35765 t35764 H lc q35762 X35763 => ?_)
        unfold po_X10_together at q35762
        have q35766 := q35762
        rw [q35766] at X35763
        have r35767 := R_any v35765
        refine r_istore (lv' := [(5, .int v35765), (4, .int v35758), (0, .ref (G.2.2.2.1 45)), (1, .ref (G.2.2.2.1 22)), (2, .int a1), (3, .int i35741)]) S dX4_load_46 hl (by decide) rfl (fun ls hl => ?_)
        refine r_aload_n S dX4_load_48 rfl (lv_at hl 3 rfl) ?_
        refine r_iload_n S dX4_load_49 rfl (lv_at hl 5 rfl) ?_
        refine r_ki (q_S (As := [.ref (G.2.2.2.1 22), .int i35741]) (rest := []) S X35763 (c_X4_foesAhead l G t35743 I35744 i35741 r35753) ck4_44 ⟨Nat.le_of_ble_eq_true rfl, Nat.le_of_ble_eq_true rfl⟩ rfl hl.1 rfl (Nat.le_of_ble_eq_true rfl) dX4_load_50 ⟨Nat.le_refl 0, Nat.le_refl 0⟩) X35763 (fun v35771 t35770 H lc q35768 X35769 => ?_)
        unfold po_X4_foesAhead at q35768
        obtain ⟨q35772, q35773⟩ := q35768
        rw [q35772] at X35769
        refine r_istore (lv' := [(6, .int v35771), (5, .int v35765), (4, .int v35758), (0, .ref (G.2.2.2.1 45)), (1, .ref (G.2.2.2.1 22)), (2, .int a1), (3, .int i35741)]) S dX4_load_53 hl (by decide) rfl (fun ls hl => ?_)
        refine r_iconst S dX4_load_55 (by decide) (fun v35774 z35775 => ?_)
        have r35776 := R_eq z35775
        refine r_istore (lv' := [(7, .int v35774), (6, .int v35771), (5, .int v35765), (4, .int v35758), (0, .ref (G.2.2.2.1 45)), (1, .ref (G.2.2.2.1 22)), (2, .int a1), (3, .int i35741)]) S dX4_load_56 hl (by decide) rfl (fun ls hl => ?_)
        have L44682 : ∀ (n : Nat) (t44677 : Tau) (H : Heap) (lc : List Loc) (ls : Array Slot) (i44675 : Int32), Xd G s H lc t44677 → Inv t44677 → Fr [] [46, 47, 48] τ t44677 → R (0) (512) i44675 → t44677 23 3 = v35749 → lv_has ls 9 [(0, .ref (G.2.2.2.1 45)), (1, .ref (G.2.2.2.1 22)), (2, .int a1), (3, .int i35741), (4, .int v35758), (5, .int v35765), (6, .int v35771), (7, .int i44675)] → (512 - i44675.toInt).toNat < n → W p l e (Rm 4 97) s m ([.ref (G.2.2.2.1 45), .ref (G.2.2.2.1 22), .int a1] : List Value).toArray below meth c H lc 0 0 (MQ below (va_Qv (po_X4_load τ  a1  ) (Bs G) G.2.2.2.2) ([.ref (G.2.2.2.1 45), .ref (G.2.2.2.1 22), .int a1] : List Value).toArray s 0 0 G.2.2.2.2) (F0 m 58 ls []) := by
          intro n
          induction n with
          | zero => intros; omega
          | succ n ih44683 =>
            intro t44677 H lc ls i44675 X44680 I44678 F44679 r44676 z44681 hl hm
            refine r_iload S dX4_load_58 (lv_at hl 7 rfl) ?_
            refine r_iload S dX4_load_60 (lv_at hl 4 rfl) ?_
            refine r_icmp_ge (tgt := 176) S dX4_load_62 (by decide) (fun c44684 => ?_) (fun c44684 => ?_)
            ·
              have r44685 : R (1) (512) i44675 := ⟨by omega, by omega⟩
              refine r_iinc (k := 3) S dX4_load_176 hl rfl (by decide) (by decide) (fun v44686 d44687 ls z44688 z44689 hl => ?_)
              obtain ⟨e44690, r44691⟩ := i_add (lo := 1) (hi := 10) z44688 r35753 (R_eq z44689) rfl
              have hl : lv_has ls 9 [(3, .int v44686), (0, .ref (G.2.2.2.1 45)), (1, .ref (G.2.2.2.1 22)), (2, .int a1), (4, .int v35758), (5, .int v35765), (6, .int v35771), (7, .int i44675)] := hl
              refine r_goto (tgt := 23) S dX4_load_179 (by decide) ?_
              exact ih35748 t44677 _ _ _ v44686 X44680 I44678 F44679 (R_of r44691 rfl) (lv_sub hl [1, 2, 3, 0] rfl) (by omega)
            ·
              have r44692 : R (0) (511) i44675 := ⟨by omega, by omega⟩
              refine r_iload S dX4_load_65 (lv_at hl 4 rfl) ?_
              refine r_iload S dX4_load_67 (lv_at hl 7 rfl) ?_
              refine r_ior S dX4_load_69 (fun v44693 z44694 => ?_)
              have r44696 : R (0) (1023) v44693 := i_or 10 z44694 r35761 r44692 rfl
              refine r_istore (lv' := [(8, .int v44693), (0, .ref (G.2.2.2.1 45)), (1, .ref (G.2.2.2.1 22)), (2, .int a1), (3, .int i35741), (4, .int v35758), (5, .int v35765), (6, .int v35771), (7, .int i44675)]) S dX4_load_70 hl (by decide) rfl (fun ls hl => ?_)
              refine r_aload_n S dX4_load_72 rfl (lv_at hl 1 rfl) ?_
              refine r_get (K := 28) (v := .ref (G.2.2.2.1 46)) S X44680 (Nat.le_of_ble_eq_true rfl) rfl lk4_9_4 (fun _ => ⟨_, rfl, rfl⟩) dX4_load_73 ?_
              refine r_iload S dX4_load_76 (lv_at hl 0 rfl) ?_
              refine r_aload_n S dX4_load_78 rfl (lv_at hl 1 rfl) ?_
              refine r_get (K := 28) (v := .ref (G.2.2.2.1 46)) S X44680 (Nat.le_of_ble_eq_true rfl) rfl lk4_9_4 (fun _ => ⟨_, rfl, rfl⟩) dX4_load_79 ?_
              refine r_iload S dX4_load_82 (lv_at hl 8 rfl) ?_
              refine r_aldn (n := 1024) (K := 29) S X44680 (Nat.le_of_ble_eq_true rfl) rfl (fun _ => rfl) (ix_of r44692 rfl) dX4_load_84 (fun v44697 z44698 => ?_)
              have r44700 := R_any v44697
              refine r_iload S dX4_load_85 (lv_at hl 6 rfl) ?_
              refine r_iadd S dX4_load_87 (fun v44701 z44702 => ?_)
              have r44703 := R_any v44701
              refine r_ast (n := 1024) (K := 29) S X44680 (Nat.le_of_ble_eq_true rfl) rfl (fun _ _ => rfl) (ix_of r44696 rfl) dX4_load_88 (fun t44704 H lc M44705 X44706 => ?_)
              have I44707 := Inv_mu I44678 M44705 (R_any v44701)
              have F44708 : Fr [] [46, 47, 48] τ t44704 := Fr_cell F44679 M44705 (by decide)
              refine r_aload_n S dX4_load_89 rfl (lv_at hl 1 rfl) ?_
              refine r_get (K := 28) (v := .ref (G.2.2.2.1 47)) S X44706 (Nat.le_of_ble_eq_true rfl) rfl lk4_15_4 (fun _ => ⟨_, rfl, rfl⟩) dX4_load_90 ?_
              refine r_iload S dX4_load_93 (lv_at hl 0 rfl) ?_
              refine r_aload_n S dX4_load_95 rfl (lv_at hl 1 rfl) ?_
              refine r_get (K := 28) (v := .ref (G.2.2.2.1 47)) S X44706 (Nat.le_of_ble_eq_true rfl) rfl lk4_15_4 (fun _ => ⟨_, rfl, rfl⟩) dX4_load_96 ?_
              refine r_iload S dX4_load_99 (lv_at hl 8 rfl) ?_
              refine r_zald (n := 1024) (K := 30) S X44706 (Nat.le_of_ble_eq_true rfl) rfl (fun _ => rfl) (ix_of r44692 rfl) dX4_load_101 (fun v44709 z44710 => ?_)
              have r44711 : R (0) (1) v44709 := rd I44707 rfl z44710
              refine r_if_eq (tgt := 117) S dX4_load_102 (by decide) (fun c44712 => ?_) (fun c44712 => ?_)
              ·
                have r44713 : R (0) (0) v44709 := ⟨by omega, by omega⟩
                refine r_iconst S dX4_load_117 (by decide) (fun v44714 z44715 => ?_)
                have r44716 := R_eq z44715
                refine r_zast (n := 1024) (K := 30) S X44706 (Nat.le_of_ble_eq_true rfl) rfl (fun _ _ => rfl) (ix_of r44696 rfl) (R_of (lo := 0) (hi := 1) r44716 rfl) dX4_load_118 (fun t44717 H lc M44718 X44719 => ?_)
                have I44720 := Inv_mu I44707 M44718 (show Rg (kd 47) _ v44714 from (R_of (lo := 0) (hi := 1) r44716 rfl))
                have F44721 : Fr [] [46, 47, 48] τ t44717 := Fr_cell F44708 M44718 (by decide)
                refine r_aload_n S dX4_load_119 rfl (lv_at hl 1 rfl) ?_
                refine r_get (K := 28) (v := .ref (G.2.2.2.1 48)) S X44719 (Nat.le_of_ble_eq_true rfl) rfl lk4_19_4 (fun _ => ⟨_, rfl, rfl⟩) dX4_load_120 ?_
                refine r_iload S dX4_load_123 (lv_at hl 0 rfl) ?_
                refine r_aload_n S dX4_load_125 rfl (lv_at hl 1 rfl) ?_
                refine r_get (K := 28) (v := .ref (G.2.2.2.1 47)) S X44719 (Nat.le_of_ble_eq_true rfl) rfl lk4_15_4 (fun _ => ⟨_, rfl, rfl⟩) dX4_load_126 ?_
                refine r_iload S dX4_load_129 (lv_at hl 0 rfl) ?_
                refine r_zald (n := 1024) (K := 30) S X44719 (Nat.le_of_ble_eq_true rfl) rfl (fun _ => rfl) (ix_of r44696 rfl) dX4_load_131 (fun v44722 z44723 => ?_)
                have r44724 : R (0) (1) v44722 := rd I44720 rfl z44723
                refine r_if_eq (tgt := 168) S dX4_load_132 (by decide) (fun c44725 => ?_) (fun c44725 => ?_)
                ·
                  have r44726 : R (0) (0) v44722 := ⟨by omega, by omega⟩
                  refine r_iconst S dX4_load_168 (by decide) (fun v44727 z44728 => ?_)
                  have r44729 := R_eq z44728
                  refine r_zast (n := 1024) (K := 31) S X44719 (Nat.le_of_ble_eq_true rfl) rfl (fun _ _ => rfl) (ix_of r44696 rfl) (R_of (lo := 0) (hi := 1) r44729 rfl) dX4_load_169 (fun t44730 H lc M44731 X44732 => ?_)
                  have I44733 := Inv_mu I44720 M44731 (show Rg (kd 48) _ v44727 from (R_of (lo := 0) (hi := 1) r44729 rfl))
                  have F44734 : Fr [] [46, 47, 48] τ t44730 := Fr_cell F44721 M44731 (by decide)
                  refine r_iinc (k := 8) S dX4_load_170 hl rfl (by decide) (by decide) (fun v44735 d44736 ls z44737 z44738 hl => ?_)
                  obtain ⟨e44739, r44740⟩ := i_add (lo := 1) (hi := 512) z44737 r44692 (R_eq z44738) rfl
                  have hl : lv_has ls 9 [(7, .int v44735), (8, .int v44693), (0, .ref (G.2.2.2.1 45)), (1, .ref (G.2.2.2.1 22)), (2, .int a1), (3, .int i35741), (4, .int v35758), (5, .int v35765), (6, .int v35771)] := hl
                  refine r_goto (tgt := 58) S dX4_load_173 (by decide) ?_
                  exact ih44683 t44730 _ _ _ v44735 X44732 I44733 F44734 (R_of r44740 rfl) ((M44731.2 23 3 (Or.inl (by decide))).trans ((M44718.2 23 3 (Or.inl (by decide))).trans ((M44705.2 23 3 (Or.inl (by decide))).trans z44681))) (lv_sub hl [2, 3, 4, 5, 6, 7, 8, 0] rfl) (by omega)
                ·
                  have r44741 : R (1) (1) v44722 := ⟨by omega, by omega⟩
                  refine r_aload_n S dX4_load_135 rfl (lv_at hl 2 rfl) ?_
                  refine r_aload_n S dX4_load_136 rfl (lv_at hl 1 rfl) ?_
                  refine r_get (K := 28) (v := .ref (G.2.2.2.1 46)) S X44719 (Nat.le_of_ble_eq_true rfl) rfl lk4_9_4 (fun _ => ⟨_, rfl, rfl⟩) dX4_load_137 ?_
                  refine r_iload S dX4_load_140 (lv_at hl 0 rfl) ?_
                  refine r_aldn (n := 1024) (K := 29) S X44719 (Nat.le_of_ble_eq_true rfl) rfl (fun _ => rfl) (ix_of r44696 rfl) dX4_load_142 (fun v44742 z44743 => ?_)
                  have r44745 := R_any v44742
                  refine r_ki (q_V (As := [.int v44742]) (rest := [.int v44693, .ref (G.2.2.2.1 48)]) (K := 22) (ci := 8) S X44719 (c_X10_isLevel l G t44717 I44720 v44742 r44745) ck4_48 (Nat.le_of_ble_eq_true rfl) rfl (fun _ => ⟨_, rfl⟩) ⟨_, _, rfl⟩ ⟨Nat.le_of_ble_eq_true rfl, Nat.le_of_ble_eq_true rfl⟩ rfl hl.1 rfl (Nat.le_of_ble_eq_true rfl) dX4_load_143 ⟨Nat.le_refl 0, Nat.le_refl 0⟩) X44719 (fun v44749 t44748 H lc q44746 X44747 => ?_)
                  unfold po_X10_isLevel at q44746
                  obtain ⟨q44750, q44751⟩ := q44746
                  rw [q44750] at X44747
                  refine r_if_eq (tgt := 168) S dX4_load_146 (by decide) (fun c44752 => ?_) (fun c44752 => ?_)
                  ·
                    have r44753 : R (0) (0) v44749 := ⟨by omega, by omega⟩
                    refine r_iconst S dX4_load_168 (by decide) (fun v44754 z44755 => ?_)
                    have r44756 := R_eq z44755
                    refine r_zast (n := 1024) (K := 31) S X44747 (Nat.le_of_ble_eq_true rfl) rfl (fun _ _ => rfl) (ix_of r44696 rfl) (R_of (lo := 0) (hi := 1) r44756 rfl) dX4_load_169 (fun t44757 H lc M44758 X44759 => ?_)
                    have I44760 := Inv_mu I44720 M44758 (show Rg (kd 48) _ v44754 from (R_of (lo := 0) (hi := 1) r44756 rfl))
                    have F44761 : Fr [] [46, 47, 48] τ t44757 := Fr_cell F44721 M44758 (by decide)
                    refine r_iinc (k := 8) S dX4_load_170 hl rfl (by decide) (by decide) (fun v44762 d44763 ls z44764 z44765 hl => ?_)
                    obtain ⟨e44766, r44767⟩ := i_add (lo := 1) (hi := 512) z44764 r44692 (R_eq z44765) rfl
                    have hl : lv_has ls 9 [(7, .int v44762), (8, .int v44693), (0, .ref (G.2.2.2.1 45)), (1, .ref (G.2.2.2.1 22)), (2, .int a1), (3, .int i35741), (4, .int v35758), (5, .int v35765), (6, .int v35771)] := hl
                    refine r_goto (tgt := 58) S dX4_load_173 (by decide) ?_
                    exact ih44683 t44757 _ _ _ v44762 X44759 I44760 F44761 (R_of r44767 rfl) ((M44758.2 23 3 (Or.inl (by decide))).trans ((M44718.2 23 3 (Or.inl (by decide))).trans ((M44705.2 23 3 (Or.inl (by decide))).trans z44681))) (lv_sub hl [2, 3, 4, 5, 6, 7, 8, 0] rfl) (by omega)
                  ·
                    have r44768 : R (1) (1) v44749 := ⟨by omega, by omega⟩
                    refine r_iload S dX4_load_149 (lv_at hl 0 rfl) ?_
                    refine r_ki (q_S (As := [.int v44693]) (rest := [.int v44693, .ref (G.2.2.2.1 48)]) S X44747 (c_J6_bitCount_0f7a4 l G t44717 I44720 v44693 (R_of (lo := -2147483648) (hi := 2147483647) r44696 rfl)) ck4_52 ⟨Nat.le_of_ble_eq_true rfl, Nat.le_of_ble_eq_true rfl⟩ rfl hl.1 rfl (Nat.le_of_ble_eq_true rfl) dX4_load_151 ⟨Nat.le_refl 0, Nat.le_refl 0⟩) X44747 (fun v44772 t44771 H lc q44769 X44770 => ?_)
                    unfold po_J6_bitCount_0f7a4 at q44769
                    obtain ⟨q44773, q44774⟩ := q44769
                    rw [q44773] at X44770
                    refine r_aload_n S dX4_load_154 rfl (lv_at hl 2 rfl) ?_
                    refine r_get (K := 22) (v := .ref (G.2.2.2.1 23)) S X44770 (Nat.le_of_ble_eq_true rfl) rfl lk4_28_8 (fun _ => ⟨_, rfl, rfl⟩) dX4_load_155 ?_
                    refine r_getn (K := 4) S X44770 (Nat.le_of_ble_eq_true rfl) rfl lk4_58_2 (fun _ => ⟨_, rfl, rfl⟩) dX4_load_158 (fun v44775 z44776 => ?_)
                    have r44777 : R (0) (8) v44775 := rd I44720 rfl z44776
                    refine r_icmp_gt (tgt := 168) S dX4_load_161 (by decide) (fun c44778 => ?_) (fun c44778 => ?_)
                    ·
                      have r44779 : R (1) (63) v44772 := ⟨by omega, by omega⟩
                      refine r_iconst S dX4_load_168 (by decide) (fun v44780 z44781 => ?_)
                      have r44782 := R_eq z44781
                      refine r_zast (n := 1024) (K := 31) S X44770 (Nat.le_of_ble_eq_true rfl) rfl (fun _ _ => rfl) (ix_of r44696 rfl) (R_of (lo := 0) (hi := 1) r44782 rfl) dX4_load_169 (fun t44783 H lc M44784 X44785 => ?_)
                      have I44786 := Inv_mu I44720 M44784 (show Rg (kd 48) _ v44780 from (R_of (lo := 0) (hi := 1) r44782 rfl))
                      have F44787 : Fr [] [46, 47, 48] τ t44783 := Fr_cell F44721 M44784 (by decide)
                      refine r_iinc (k := 8) S dX4_load_170 hl rfl (by decide) (by decide) (fun v44788 d44789 ls z44790 z44791 hl => ?_)
                      obtain ⟨e44792, r44793⟩ := i_add (lo := 1) (hi := 512) z44790 r44692 (R_eq z44791) rfl
                      have hl : lv_has ls 9 [(7, .int v44788), (8, .int v44693), (0, .ref (G.2.2.2.1 45)), (1, .ref (G.2.2.2.1 22)), (2, .int a1), (3, .int i35741), (4, .int v35758), (5, .int v35765), (6, .int v35771)] := hl
                      refine r_goto (tgt := 58) S dX4_load_173 (by decide) ?_
                      exact ih44683 t44783 _ _ _ v44788 X44785 I44786 F44787 (R_of r44793 rfl) ((M44784.2 23 3 (Or.inl (by decide))).trans ((M44718.2 23 3 (Or.inl (by decide))).trans ((M44705.2 23 3 (Or.inl (by decide))).trans z44681))) (lv_sub hl [2, 3, 4, 5, 6, 7, 8, 0] rfl) (by omega)
                    ·
                      have r44794 : R (0) (8) v44772 := ⟨by omega, by omega⟩
                      refine r_iconst S dX4_load_164 (by decide) (fun v44795 z44796 => ?_)
                      have r44797 := R_eq z44796
                      refine r_goto (tgt := 169) S dX4_load_165 (by decide) ?_
                      refine r_zast (n := 1024) (K := 31) S X44770 (Nat.le_of_ble_eq_true rfl) rfl (fun _ _ => rfl) (ix_of r44696 rfl) (R_of (lo := 0) (hi := 1) r44797 rfl) dX4_load_169 (fun t44798 H lc M44799 X44800 => ?_)
                      have I44801 := Inv_mu I44720 M44799 (show Rg (kd 48) _ v44795 from (R_of (lo := 0) (hi := 1) r44797 rfl))
                      have F44802 : Fr [] [46, 47, 48] τ t44798 := Fr_cell F44721 M44799 (by decide)
                      refine r_iinc (k := 8) S dX4_load_170 hl rfl (by decide) (by decide) (fun v44803 d44804 ls z44805 z44806 hl => ?_)
                      obtain ⟨e44807, r44808⟩ := i_add (lo := 1) (hi := 512) z44805 r44692 (R_eq z44806) rfl
                      have hl : lv_has ls 9 [(7, .int v44803), (8, .int v44693), (0, .ref (G.2.2.2.1 45)), (1, .ref (G.2.2.2.1 22)), (2, .int a1), (3, .int i35741), (4, .int v35758), (5, .int v35765), (6, .int v35771)] := hl
                      refine r_goto (tgt := 58) S dX4_load_173 (by decide) ?_
                      exact ih44683 t44798 _ _ _ v44803 X44800 I44801 F44802 (R_of r44808 rfl) ((M44799.2 23 3 (Or.inl (by decide))).trans ((M44718.2 23 3 (Or.inl (by decide))).trans ((M44705.2 23 3 (Or.inl (by decide))).trans z44681))) (lv_sub hl [2, 3, 4, 5, 6, 7, 8, 0] rfl) (by omega)
              ·
                have r44809 : R (1) (1) v44709 := ⟨by omega, by omega⟩
                refine r_iload S dX4_load_105 (lv_at hl 7 rfl) ?_
                refine r_iload S dX4_load_107 (lv_at hl 8 rfl) ?_
                refine r_iand S dX4_load_109 (fun v44810 z44811 => ?_)
                have r44813 : R (0) (511) v44810 := i_and2 z44811 q35773 r44692 rfl
                have e44814 := i_andle z44811 q35773 rfl
                refine r_if_ne (tgt := 117) S dX4_load_110 (by decide) (fun c44815 => ?_) (fun c44815 => ?_)
                ·
                  have r44816 : R (1) (511) v44810 := ⟨by omega, by omega⟩
                  refine r_iconst S dX4_load_117 (by decide) (fun v44817 z44818 => ?_)
                  have r44819 := R_eq z44818
                  refine r_zast (n := 1024) (K := 30) S X44706 (Nat.le_of_ble_eq_true rfl) rfl (fun _ _ => rfl) (ix_of r44696 rfl) (R_of (lo := 0) (hi := 1) r44819 rfl) dX4_load_118 (fun t44820 H lc M44821 X44822 => ?_)
                  have I44823 := Inv_mu I44707 M44821 (show Rg (kd 47) _ v44817 from (R_of (lo := 0) (hi := 1) r44819 rfl))
                  have F44824 : Fr [] [46, 47, 48] τ t44820 := Fr_cell F44708 M44821 (by decide)
                  refine r_aload_n S dX4_load_119 rfl (lv_at hl 1 rfl) ?_
                  refine r_get (K := 28) (v := .ref (G.2.2.2.1 48)) S X44822 (Nat.le_of_ble_eq_true rfl) rfl lk4_19_4 (fun _ => ⟨_, rfl, rfl⟩) dX4_load_120 ?_
                  refine r_iload S dX4_load_123 (lv_at hl 0 rfl) ?_
                  refine r_aload_n S dX4_load_125 rfl (lv_at hl 1 rfl) ?_
                  refine r_get (K := 28) (v := .ref (G.2.2.2.1 47)) S X44822 (Nat.le_of_ble_eq_true rfl) rfl lk4_15_4 (fun _ => ⟨_, rfl, rfl⟩) dX4_load_126 ?_
                  refine r_iload S dX4_load_129 (lv_at hl 0 rfl) ?_
                  refine r_zald (n := 1024) (K := 30) S X44822 (Nat.le_of_ble_eq_true rfl) rfl (fun _ => rfl) (ix_of r44696 rfl) dX4_load_131 (fun v44825 z44826 => ?_)
                  have r44827 : R (0) (1) v44825 := rd I44823 rfl z44826
                  refine r_if_eq (tgt := 168) S dX4_load_132 (by decide) (fun c44828 => ?_) (fun c44828 => ?_)
                  ·
                    have r44829 : R (0) (0) v44825 := ⟨by omega, by omega⟩
                    refine r_iconst S dX4_load_168 (by decide) (fun v44830 z44831 => ?_)
                    have r44832 := R_eq z44831
                    refine r_zast (n := 1024) (K := 31) S X44822 (Nat.le_of_ble_eq_true rfl) rfl (fun _ _ => rfl) (ix_of r44696 rfl) (R_of (lo := 0) (hi := 1) r44832 rfl) dX4_load_169 (fun t44833 H lc M44834 X44835 => ?_)
                    have I44836 := Inv_mu I44823 M44834 (show Rg (kd 48) _ v44830 from (R_of (lo := 0) (hi := 1) r44832 rfl))
                    have F44837 : Fr [] [46, 47, 48] τ t44833 := Fr_cell F44824 M44834 (by decide)
                    refine r_iinc (k := 8) S dX4_load_170 hl rfl (by decide) (by decide) (fun v44838 d44839 ls z44840 z44841 hl => ?_)
                    obtain ⟨e44842, r44843⟩ := i_add (lo := 1) (hi := 512) z44840 r44692 (R_eq z44841) rfl
                    have hl : lv_has ls 9 [(7, .int v44838), (8, .int v44693), (0, .ref (G.2.2.2.1 45)), (1, .ref (G.2.2.2.1 22)), (2, .int a1), (3, .int i35741), (4, .int v35758), (5, .int v35765), (6, .int v35771)] := hl
                    refine r_goto (tgt := 58) S dX4_load_173 (by decide) ?_
                    exact ih44683 t44833 _ _ _ v44838 X44835 I44836 F44837 (R_of r44843 rfl) ((M44834.2 23 3 (Or.inl (by decide))).trans ((M44821.2 23 3 (Or.inl (by decide))).trans ((M44705.2 23 3 (Or.inl (by decide))).trans z44681))) (lv_sub hl [2, 3, 4, 5, 6, 7, 8, 0] rfl) (by omega)
                  ·
                    have r44844 : R (1) (1) v44825 := ⟨by omega, by omega⟩
                    refine r_aload_n S dX4_load_135 rfl (lv_at hl 2 rfl) ?_
                    refine r_aload_n S dX4_load_136 rfl (lv_at hl 1 rfl) ?_
                    refine r_get (K := 28) (v := .ref (G.2.2.2.1 46)) S X44822 (Nat.le_of_ble_eq_true rfl) rfl lk4_9_4 (fun _ => ⟨_, rfl, rfl⟩) dX4_load_137 ?_
                    refine r_iload S dX4_load_140 (lv_at hl 0 rfl) ?_
                    refine r_aldn (n := 1024) (K := 29) S X44822 (Nat.le_of_ble_eq_true rfl) rfl (fun _ => rfl) (ix_of r44696 rfl) dX4_load_142 (fun v44845 z44846 => ?_)
                    have r44848 := R_any v44845
                    refine r_ki (q_V (As := [.int v44845]) (rest := [.int v44693, .ref (G.2.2.2.1 48)]) (K := 22) (ci := 8) S X44822 (c_X10_isLevel l G t44820 I44823 v44845 r44848) ck4_48 (Nat.le_of_ble_eq_true rfl) rfl (fun _ => ⟨_, rfl⟩) ⟨_, _, rfl⟩ ⟨Nat.le_of_ble_eq_true rfl, Nat.le_of_ble_eq_true rfl⟩ rfl hl.1 rfl (Nat.le_of_ble_eq_true rfl) dX4_load_143 ⟨Nat.le_refl 0, Nat.le_refl 0⟩) X44822 (fun v44852 t44851 H lc q44849 X44850 => ?_)
                    unfold po_X10_isLevel at q44849
                    obtain ⟨q44853, q44854⟩ := q44849
                    rw [q44853] at X44850
                    refine r_if_eq (tgt := 168) S dX4_load_146 (by decide) (fun c44855 => ?_) (fun c44855 => ?_)
                    ·
                      have r44856 : R (0) (0) v44852 := ⟨by omega, by omega⟩
                      refine r_iconst S dX4_load_168 (by decide) (fun v44857 z44858 => ?_)
                      have r44859 := R_eq z44858
                      refine r_zast (n := 1024) (K := 31) S X44850 (Nat.le_of_ble_eq_true rfl) rfl (fun _ _ => rfl) (ix_of r44696 rfl) (R_of (lo := 0) (hi := 1) r44859 rfl) dX4_load_169 (fun t44860 H lc M44861 X44862 => ?_)
                      have I44863 := Inv_mu I44823 M44861 (show Rg (kd 48) _ v44857 from (R_of (lo := 0) (hi := 1) r44859 rfl))
                      have F44864 : Fr [] [46, 47, 48] τ t44860 := Fr_cell F44824 M44861 (by decide)
                      refine r_iinc (k := 8) S dX4_load_170 hl rfl (by decide) (by decide) (fun v44865 d44866 ls z44867 z44868 hl => ?_)
                      obtain ⟨e44869, r44870⟩ := i_add (lo := 1) (hi := 512) z44867 r44692 (R_eq z44868) rfl
                      have hl : lv_has ls 9 [(7, .int v44865), (8, .int v44693), (0, .ref (G.2.2.2.1 45)), (1, .ref (G.2.2.2.1 22)), (2, .int a1), (3, .int i35741), (4, .int v35758), (5, .int v35765), (6, .int v35771)] := hl
                      refine r_goto (tgt := 58) S dX4_load_173 (by decide) ?_
                      exact ih44683 t44860 _ _ _ v44865 X44862 I44863 F44864 (R_of r44870 rfl) ((M44861.2 23 3 (Or.inl (by decide))).trans ((M44821.2 23 3 (Or.inl (by decide))).trans ((M44705.2 23 3 (Or.inl (by decide))).trans z44681))) (lv_sub hl [2, 3, 4, 5, 6, 7, 8, 0] rfl) (by omega)
                    ·
                      have r44871 : R (1) (1) v44852 := ⟨by omega, by omega⟩
                      refine r_iload S dX4_load_149 (lv_at hl 0 rfl) ?_
                      refine r_ki (q_S (As := [.int v44693]) (rest := [.int v44693, .ref (G.2.2.2.1 48)]) S X44850 (c_J6_bitCount_0f7a4 l G t44820 I44823 v44693 (R_of (lo := -2147483648) (hi := 2147483647) r44696 rfl)) ck4_52 ⟨Nat.le_of_ble_eq_true rfl, Nat.le_of_ble_eq_true rfl⟩ rfl hl.1 rfl (Nat.le_of_ble_eq_true rfl) dX4_load_151 ⟨Nat.le_refl 0, Nat.le_refl 0⟩) X44850 (fun v44875 t44874 H lc q44872 X44873 => ?_)
                      unfold po_J6_bitCount_0f7a4 at q44872
                      obtain ⟨q44876, q44877⟩ := q44872
                      rw [q44876] at X44873
                      refine r_aload_n S dX4_load_154 rfl (lv_at hl 2 rfl) ?_
                      refine r_get (K := 22) (v := .ref (G.2.2.2.1 23)) S X44873 (Nat.le_of_ble_eq_true rfl) rfl lk4_28_8 (fun _ => ⟨_, rfl, rfl⟩) dX4_load_155 ?_
                      refine r_getn (K := 4) S X44873 (Nat.le_of_ble_eq_true rfl) rfl lk4_58_2 (fun _ => ⟨_, rfl, rfl⟩) dX4_load_158 (fun v44878 z44879 => ?_)
                      have r44880 : R (0) (8) v44878 := rd I44823 rfl z44879
                      refine r_icmp_gt (tgt := 168) S dX4_load_161 (by decide) (fun c44881 => ?_) (fun c44881 => ?_)
                      ·
                        have r44882 : R (1) (63) v44875 := ⟨by omega, by omega⟩
                        refine r_iconst S dX4_load_168 (by decide) (fun v44883 z44884 => ?_)
                        have r44885 := R_eq z44884
                        refine r_zast (n := 1024) (K := 31) S X44873 (Nat.le_of_ble_eq_true rfl) rfl (fun _ _ => rfl) (ix_of r44696 rfl) (R_of (lo := 0) (hi := 1) r44885 rfl) dX4_load_169 (fun t44886 H lc M44887 X44888 => ?_)
                        have I44889 := Inv_mu I44823 M44887 (show Rg (kd 48) _ v44883 from (R_of (lo := 0) (hi := 1) r44885 rfl))
                        have F44890 : Fr [] [46, 47, 48] τ t44886 := Fr_cell F44824 M44887 (by decide)
                        refine r_iinc (k := 8) S dX4_load_170 hl rfl (by decide) (by decide) (fun v44891 d44892 ls z44893 z44894 hl => ?_)
                        obtain ⟨e44895, r44896⟩ := i_add (lo := 1) (hi := 512) z44893 r44692 (R_eq z44894) rfl
                        have hl : lv_has ls 9 [(7, .int v44891), (8, .int v44693), (0, .ref (G.2.2.2.1 45)), (1, .ref (G.2.2.2.1 22)), (2, .int a1), (3, .int i35741), (4, .int v35758), (5, .int v35765), (6, .int v35771)] := hl
                        refine r_goto (tgt := 58) S dX4_load_173 (by decide) ?_
                        exact ih44683 t44886 _ _ _ v44891 X44888 I44889 F44890 (R_of r44896 rfl) ((M44887.2 23 3 (Or.inl (by decide))).trans ((M44821.2 23 3 (Or.inl (by decide))).trans ((M44705.2 23 3 (Or.inl (by decide))).trans z44681))) (lv_sub hl [2, 3, 4, 5, 6, 7, 8, 0] rfl) (by omega)
                      ·
                        have r44897 : R (0) (8) v44875 := ⟨by omega, by omega⟩
                        refine r_iconst S dX4_load_164 (by decide) (fun v44898 z44899 => ?_)
                        have r44900 := R_eq z44899
                        refine r_goto (tgt := 169) S dX4_load_165 (by decide) ?_
                        refine r_zast (n := 1024) (K := 31) S X44873 (Nat.le_of_ble_eq_true rfl) rfl (fun _ _ => rfl) (ix_of r44696 rfl) (R_of (lo := 0) (hi := 1) r44900 rfl) dX4_load_169 (fun t44901 H lc M44902 X44903 => ?_)
                        have I44904 := Inv_mu I44823 M44902 (show Rg (kd 48) _ v44898 from (R_of (lo := 0) (hi := 1) r44900 rfl))
                        have F44905 : Fr [] [46, 47, 48] τ t44901 := Fr_cell F44824 M44902 (by decide)
                        refine r_iinc (k := 8) S dX4_load_170 hl rfl (by decide) (by decide) (fun v44906 d44907 ls z44908 z44909 hl => ?_)
                        obtain ⟨e44910, r44911⟩ := i_add (lo := 1) (hi := 512) z44908 r44692 (R_eq z44909) rfl
                        have hl : lv_has ls 9 [(7, .int v44906), (8, .int v44693), (0, .ref (G.2.2.2.1 45)), (1, .ref (G.2.2.2.1 22)), (2, .int a1), (3, .int i35741), (4, .int v35758), (5, .int v35765), (6, .int v35771)] := hl
                        refine r_goto (tgt := 58) S dX4_load_173 (by decide) ?_
                        exact ih44683 t44901 _ _ _ v44906 X44903 I44904 F44905 (R_of r44911 rfl) ((M44902.2 23 3 (Or.inl (by decide))).trans ((M44821.2 23 3 (Or.inl (by decide))).trans ((M44705.2 23 3 (Or.inl (by decide))).trans z44681))) (lv_sub hl [2, 3, 4, 5, 6, 7, 8, 0] rfl) (by omega)
                ·
                  have r44912 : R (0) (0) v44810 := ⟨by omega, by omega⟩
                  refine r_iconst S dX4_load_113 (by decide) (fun v44913 z44914 => ?_)
                  have r44915 := R_eq z44914
                  refine r_goto (tgt := 118) S dX4_load_114 (by decide) ?_
                  refine r_zast (n := 1024) (K := 30) S X44706 (Nat.le_of_ble_eq_true rfl) rfl (fun _ _ => rfl) (ix_of r44696 rfl) (R_of (lo := 0) (hi := 1) r44915 rfl) dX4_load_118 (fun t44916 H lc M44917 X44918 => ?_)
                  have I44919 := Inv_mu I44707 M44917 (show Rg (kd 47) _ v44913 from (R_of (lo := 0) (hi := 1) r44915 rfl))
                  have F44920 : Fr [] [46, 47, 48] τ t44916 := Fr_cell F44708 M44917 (by decide)
                  refine r_aload_n S dX4_load_119 rfl (lv_at hl 1 rfl) ?_
                  refine r_get (K := 28) (v := .ref (G.2.2.2.1 48)) S X44918 (Nat.le_of_ble_eq_true rfl) rfl lk4_19_4 (fun _ => ⟨_, rfl, rfl⟩) dX4_load_120 ?_
                  refine r_iload S dX4_load_123 (lv_at hl 0 rfl) ?_
                  refine r_aload_n S dX4_load_125 rfl (lv_at hl 1 rfl) ?_
                  refine r_get (K := 28) (v := .ref (G.2.2.2.1 47)) S X44918 (Nat.le_of_ble_eq_true rfl) rfl lk4_15_4 (fun _ => ⟨_, rfl, rfl⟩) dX4_load_126 ?_
                  refine r_iload S dX4_load_129 (lv_at hl 0 rfl) ?_
                  refine r_zald (n := 1024) (K := 30) S X44918 (Nat.le_of_ble_eq_true rfl) rfl (fun _ => rfl) (ix_of r44696 rfl) dX4_load_131 (fun v44921 z44922 => ?_)
                  have r44923 : R (0) (1) v44921 := rd I44919 rfl z44922
                  refine r_if_eq (tgt := 168) S dX4_load_132 (by decide) (fun c44924 => ?_) (fun c44924 => ?_)
                  ·
                    have r44925 : R (0) (0) v44921 := ⟨by omega, by omega⟩
                    refine r_iconst S dX4_load_168 (by decide) (fun v44926 z44927 => ?_)
                    have r44928 := R_eq z44927
                    refine r_zast (n := 1024) (K := 31) S X44918 (Nat.le_of_ble_eq_true rfl) rfl (fun _ _ => rfl) (ix_of r44696 rfl) (R_of (lo := 0) (hi := 1) r44928 rfl) dX4_load_169 (fun t44929 H lc M44930 X44931 => ?_)
                    have I44932 := Inv_mu I44919 M44930 (show Rg (kd 48) _ v44926 from (R_of (lo := 0) (hi := 1) r44928 rfl))
                    have F44933 : Fr [] [46, 47, 48] τ t44929 := Fr_cell F44920 M44930 (by decide)
                    refine r_iinc (k := 8) S dX4_load_170 hl rfl (by decide) (by decide) (fun v44934 d44935 ls z44936 z44937 hl => ?_)
                    obtain ⟨e44938, r44939⟩ := i_add (lo := 1) (hi := 512) z44936 r44692 (R_eq z44937) rfl
                    have hl : lv_has ls 9 [(7, .int v44934), (8, .int v44693), (0, .ref (G.2.2.2.1 45)), (1, .ref (G.2.2.2.1 22)), (2, .int a1), (3, .int i35741), (4, .int v35758), (5, .int v35765), (6, .int v35771)] := hl
                    refine r_goto (tgt := 58) S dX4_load_173 (by decide) ?_
                    exact ih44683 t44929 _ _ _ v44934 X44931 I44932 F44933 (R_of r44939 rfl) ((M44930.2 23 3 (Or.inl (by decide))).trans ((M44917.2 23 3 (Or.inl (by decide))).trans ((M44705.2 23 3 (Or.inl (by decide))).trans z44681))) (lv_sub hl [2, 3, 4, 5, 6, 7, 8, 0] rfl) (by omega)
                  ·
                    have r44940 : R (1) (1) v44921 := ⟨by omega, by omega⟩
                    refine r_aload_n S dX4_load_135 rfl (lv_at hl 2 rfl) ?_
                    refine r_aload_n S dX4_load_136 rfl (lv_at hl 1 rfl) ?_
                    refine r_get (K := 28) (v := .ref (G.2.2.2.1 46)) S X44918 (Nat.le_of_ble_eq_true rfl) rfl lk4_9_4 (fun _ => ⟨_, rfl, rfl⟩) dX4_load_137 ?_
                    refine r_iload S dX4_load_140 (lv_at hl 0 rfl) ?_
                    refine r_aldn (n := 1024) (K := 29) S X44918 (Nat.le_of_ble_eq_true rfl) rfl (fun _ => rfl) (ix_of r44696 rfl) dX4_load_142 (fun v44941 z44942 => ?_)
                    have r44944 := R_any v44941
                    refine r_ki (q_V (As := [.int v44941]) (rest := [.int v44693, .ref (G.2.2.2.1 48)]) (K := 22) (ci := 8) S X44918 (c_X10_isLevel l G t44916 I44919 v44941 r44944) ck4_48 (Nat.le_of_ble_eq_true rfl) rfl (fun _ => ⟨_, rfl⟩) ⟨_, _, rfl⟩ ⟨Nat.le_of_ble_eq_true rfl, Nat.le_of_ble_eq_true rfl⟩ rfl hl.1 rfl (Nat.le_of_ble_eq_true rfl) dX4_load_143 ⟨Nat.le_refl 0, Nat.le_refl 0⟩) X44918 (fun v44948 t44947 H lc q44945 X44946 => ?_)
                    unfold po_X10_isLevel at q44945
                    obtain ⟨q44949, q44950⟩ := q44945
                    rw [q44949] at X44946
                    refine r_if_eq (tgt := 168) S dX4_load_146 (by decide) (fun c44951 => ?_) (fun c44951 => ?_)
                    ·
                      have r44952 : R (0) (0) v44948 := ⟨by omega, by omega⟩
                      refine r_iconst S dX4_load_168 (by decide) (fun v44953 z44954 => ?_)
                      have r44955 := R_eq z44954
                      refine r_zast (n := 1024) (K := 31) S X44946 (Nat.le_of_ble_eq_true rfl) rfl (fun _ _ => rfl) (ix_of r44696 rfl) (R_of (lo := 0) (hi := 1) r44955 rfl) dX4_load_169 (fun t44956 H lc M44957 X44958 => ?_)
                      have I44959 := Inv_mu I44919 M44957 (show Rg (kd 48) _ v44953 from (R_of (lo := 0) (hi := 1) r44955 rfl))
                      have F44960 : Fr [] [46, 47, 48] τ t44956 := Fr_cell F44920 M44957 (by decide)
                      refine r_iinc (k := 8) S dX4_load_170 hl rfl (by decide) (by decide) (fun v44961 d44962 ls z44963 z44964 hl => ?_)
                      obtain ⟨e44965, r44966⟩ := i_add (lo := 1) (hi := 512) z44963 r44692 (R_eq z44964) rfl
                      have hl : lv_has ls 9 [(7, .int v44961), (8, .int v44693), (0, .ref (G.2.2.2.1 45)), (1, .ref (G.2.2.2.1 22)), (2, .int a1), (3, .int i35741), (4, .int v35758), (5, .int v35765), (6, .int v35771)] := hl
                      refine r_goto (tgt := 58) S dX4_load_173 (by decide) ?_
                      exact ih44683 t44956 _ _ _ v44961 X44958 I44959 F44960 (R_of r44966 rfl) ((M44957.2 23 3 (Or.inl (by decide))).trans ((M44917.2 23 3 (Or.inl (by decide))).trans ((M44705.2 23 3 (Or.inl (by decide))).trans z44681))) (lv_sub hl [2, 3, 4, 5, 6, 7, 8, 0] rfl) (by omega)
                    ·
                      have r44967 : R (1) (1) v44948 := ⟨by omega, by omega⟩
                      refine r_iload S dX4_load_149 (lv_at hl 0 rfl) ?_
                      refine r_ki (q_S (As := [.int v44693]) (rest := [.int v44693, .ref (G.2.2.2.1 48)]) S X44946 (c_J6_bitCount_0f7a4 l G t44916 I44919 v44693 (R_of (lo := -2147483648) (hi := 2147483647) r44696 rfl)) ck4_52 ⟨Nat.le_of_ble_eq_true rfl, Nat.le_of_ble_eq_true rfl⟩ rfl hl.1 rfl (Nat.le_of_ble_eq_true rfl) dX4_load_151 ⟨Nat.le_refl 0, Nat.le_refl 0⟩) X44946 (fun v44971 t44970 H lc q44968 X44969 => ?_)
                      unfold po_J6_bitCount_0f7a4 at q44968
                      obtain ⟨q44972, q44973⟩ := q44968
                      rw [q44972] at X44969
                      refine r_aload_n S dX4_load_154 rfl (lv_at hl 2 rfl) ?_
                      refine r_get (K := 22) (v := .ref (G.2.2.2.1 23)) S X44969 (Nat.le_of_ble_eq_true rfl) rfl lk4_28_8 (fun _ => ⟨_, rfl, rfl⟩) dX4_load_155 ?_
                      refine r_getn (K := 4) S X44969 (Nat.le_of_ble_eq_true rfl) rfl lk4_58_2 (fun _ => ⟨_, rfl, rfl⟩) dX4_load_158 (fun v44974 z44975 => ?_)
                      have r44976 : R (0) (8) v44974 := rd I44919 rfl z44975
                      refine r_icmp_gt (tgt := 168) S dX4_load_161 (by decide) (fun c44977 => ?_) (fun c44977 => ?_)
                      ·
                        have r44978 : R (1) (63) v44971 := ⟨by omega, by omega⟩
                        refine r_iconst S dX4_load_168 (by decide) (fun v44979 z44980 => ?_)
                        have r44981 := R_eq z44980
                        refine r_zast (n := 1024) (K := 31) S X44969 (Nat.le_of_ble_eq_true rfl) rfl (fun _ _ => rfl) (ix_of r44696 rfl) (R_of (lo := 0) (hi := 1) r44981 rfl) dX4_load_169 (fun t44982 H lc M44983 X44984 => ?_)
                        have I44985 := Inv_mu I44919 M44983 (show Rg (kd 48) _ v44979 from (R_of (lo := 0) (hi := 1) r44981 rfl))
                        have F44986 : Fr [] [46, 47, 48] τ t44982 := Fr_cell F44920 M44983 (by decide)
                        refine r_iinc (k := 8) S dX4_load_170 hl rfl (by decide) (by decide) (fun v44987 d44988 ls z44989 z44990 hl => ?_)
                        obtain ⟨e44991, r44992⟩ := i_add (lo := 1) (hi := 512) z44989 r44692 (R_eq z44990) rfl
                        have hl : lv_has ls 9 [(7, .int v44987), (8, .int v44693), (0, .ref (G.2.2.2.1 45)), (1, .ref (G.2.2.2.1 22)), (2, .int a1), (3, .int i35741), (4, .int v35758), (5, .int v35765), (6, .int v35771)] := hl
                        refine r_goto (tgt := 58) S dX4_load_173 (by decide) ?_
                        exact ih44683 t44982 _ _ _ v44987 X44984 I44985 F44986 (R_of r44992 rfl) ((M44983.2 23 3 (Or.inl (by decide))).trans ((M44917.2 23 3 (Or.inl (by decide))).trans ((M44705.2 23 3 (Or.inl (by decide))).trans z44681))) (lv_sub hl [2, 3, 4, 5, 6, 7, 8, 0] rfl) (by omega)
                      ·
                        have r44993 : R (0) (8) v44971 := ⟨by omega, by omega⟩
                        refine r_iconst S dX4_load_164 (by decide) (fun v44994 z44995 => ?_)
                        have r44996 := R_eq z44995
                        refine r_goto (tgt := 169) S dX4_load_165 (by decide) ?_
                        refine r_zast (n := 1024) (K := 31) S X44969 (Nat.le_of_ble_eq_true rfl) rfl (fun _ _ => rfl) (ix_of r44696 rfl) (R_of (lo := 0) (hi := 1) r44996 rfl) dX4_load_169 (fun t44997 H lc M44998 X44999 => ?_)
                        have I45000 := Inv_mu I44919 M44998 (show Rg (kd 48) _ v44994 from (R_of (lo := 0) (hi := 1) r44996 rfl))
                        have F45001 : Fr [] [46, 47, 48] τ t44997 := Fr_cell F44920 M44998 (by decide)
                        refine r_iinc (k := 8) S dX4_load_170 hl rfl (by decide) (by decide) (fun v45002 d45003 ls z45004 z45005 hl => ?_)
                        obtain ⟨e45006, r45007⟩ := i_add (lo := 1) (hi := 512) z45004 r44692 (R_eq z45005) rfl
                        have hl : lv_has ls 9 [(7, .int v45002), (8, .int v44693), (0, .ref (G.2.2.2.1 45)), (1, .ref (G.2.2.2.1 22)), (2, .int a1), (3, .int i35741), (4, .int v35758), (5, .int v35765), (6, .int v35771)] := hl
                        refine r_goto (tgt := 58) S dX4_load_173 (by decide) ?_
                        exact ih44683 t44997 _ _ _ v45002 X44999 I45000 F45001 (R_of r45007 rfl) ((M44998.2 23 3 (Or.inl (by decide))).trans ((M44917.2 23 3 (Or.inl (by decide))).trans ((M44705.2 23 3 (Or.inl (by decide))).trans z44681))) (lv_sub hl [2, 3, 4, 5, 6, 7, 8, 0] rfl) (by omega)
        exact L44682 _ t35743 _ _ _ v35774 X35769 I35744 F35745 (R_of r35776 rfl) z35750 (lv_sub hl [4, 5, 6, 7, 3, 2, 1, 0] rfl) (Nat.lt_succ_self _)
  exact L35747 _ t29 _ _ _ v34 X31 I32 F33 (R_of r36 rfl) (lv_sub hl [1, 2, 3, 0] rfl) (Nat.lt_succ_self _)
def po_X4_isCrew (τ : Tau)  (a0 a1 : Int32)   (r : Int32) (u : Tau) : Prop := u = τ ∧ R (0) (1) r
set_option maxHeartbeats 4000000 in
set_option maxRecDepth 100000 in
theorem c_X4_isCrew (l : Launch) (G : Gx) (τ : Tau) (hI : Inv τ) (a0 : Int32) (a1 : Int32) (h_a0 : R (0) (1023) a0) (h_a1 : R (0) (1023) a1) : Ci l G yX4_isCrew cX4_isCrew 3 (some .boolean) 0 0 [.ref (G.2.2.2.1 45), .int a0, .int a1] τ (po_X4_isCrew τ  a0 a1  ) := by
  unfold Ci
  refine C_of (own := RX4) (by decide) rfl (Nat.le_of_ble_eq_true rfl) ?_
  intro p e s m below meth c ls S hr hlk X hl
  have hl : lv_has ls 3 [(0, .ref (G.2.2.2.1 45)), (1, .int a0), (2, .int a1)] := hl
  refine r_iload_n S dX4_isCrew_0 rfl (lv_at hl 1 rfl) ?_
  refine r_iload_n S dX4_isCrew_1 rfl (lv_at hl 2 rfl) ?_
  refine r_iconst S dX4_isCrew_2 (by decide) (fun v1 z2 => ?_)
  have r3 := R_eq z2
  refine r_ixor S dX4_isCrew_3 (fun v4 z5 => ?_)
  have r6 := R_any v4
  refine r_iand S dX4_isCrew_4 (fun v7 z8 => ?_)
  have r10 : R (0) (1023) v7 := i_and1 z8 h_a0 r6 rfl
  have e11 := i_andle z8 h_a0 rfl
  refine r_if_ne (tgt := 21) S dX4_isCrew_5 (by decide) (fun c12 => ?_) (fun c12 => ?_)
  ·
    have r13 : R (1) (1023) v7 := ⟨by omega, by omega⟩
    refine r_iconst S dX4_isCrew_21 (by decide) (fun v14 z15 => ?_)
    have r16 := R_eq z15
    exact r_ret S hr hlk X ⟨rfl, (R_of r16 rfl)⟩ (nr_bool (R_of (lo := 0) (hi := 1) r16 rfl)) dX4_isCrew_22
  ·
    have r17 : R (0) (0) v7 := ⟨by omega, by omega⟩
    refine r_aload_n S dX4_isCrew_8 rfl (lv_at hl 0 rfl) ?_
    refine r_get (K := 28) (v := .ref (G.2.2.2.1 48)) S X (Nat.le_of_ble_eq_true rfl) rfl lk4_19_4 (fun _ => ⟨_, rfl, rfl⟩) dX4_isCrew_9 ?_
    refine r_iload_n S dX4_isCrew_12 rfl (lv_at hl 1 rfl) ?_
    refine r_zald (n := 1024) (K := 31) S X (Nat.le_of_ble_eq_true rfl) rfl (fun _ => rfl) (ix_of h_a0 rfl) dX4_isCrew_13 (fun v18 z19 => ?_)
    have r20 : R (0) (1) v18 := rd hI rfl z19
    refine r_if_eq (tgt := 21) S dX4_isCrew_14 (by decide) (fun c21 => ?_) (fun c21 => ?_)
    ·
      have r22 : R (0) (0) v18 := ⟨by omega, by omega⟩
      refine r_iconst S dX4_isCrew_21 (by decide) (fun v23 z24 => ?_)
      have r25 := R_eq z24
      exact r_ret S hr hlk X ⟨rfl, (R_of r25 rfl)⟩ (nr_bool (R_of (lo := 0) (hi := 1) r25 rfl)) dX4_isCrew_22
    ·
      have r26 : R (1) (1) v18 := ⟨by omega, by omega⟩
      refine r_iconst S dX4_isCrew_17 (by decide) (fun v27 z28 => ?_)
      have r29 := R_eq z28
      refine r_goto (tgt := 22) S dX4_isCrew_18 (by decide) ?_
      exact r_ret S hr hlk X ⟨rfl, (R_of r29 rfl)⟩ (nr_bool (R_of (lo := 0) (hi := 1) r29 rfl)) dX4_isCrew_22
def po_X4_stateOf (τ : Tau)     (r : Int32) (u : Tau) : Prop := u = τ ∧ R (0) (2047) r
set_option maxHeartbeats 4000000 in
set_option maxRecDepth 100000 in
theorem c_X4_stateOf (l : Launch) (G : Gx) (τ : Tau) (hI : Inv τ) : Ci l G yX4_stateOf cX4_stateOf 1 (some .int) 0 0 [.ref (G.2.2.2.1 22)] τ (po_X4_stateOf τ    ) := by
  unfold Ci
  refine C_of (own := RX4) (by decide) rfl (Nat.le_of_ble_eq_true rfl) ?_
  intro p e s m below meth c ls S hr hlk X hl
  have hl : lv_has ls 1 [(0, .ref (G.2.2.2.1 22))] := hl
  refine r_aload_n S dX4_stateOf_0 rfl (lv_at hl 0 rfl) ?_
  refine r_get (K := 22) (v := .ref (G.2.2.2.1 30)) S X (Nat.le_of_ble_eq_true rfl) rfl lk4_69_8 (fun _ => ⟨_, rfl, rfl⟩) dX4_stateOf_1 ?_
  refine r_getn (K := 23) S X (Nat.le_of_ble_eq_true rfl) rfl lk4_98_3 (fun _ => ⟨_, rfl, rfl⟩) dX4_stateOf_4 (fun v1 z2 => ?_)
  have r3 : R (0) (1) v1 := rd hI rfl z2
  refine r_iconst S dX4_stateOf_7 (by decide) (fun v4 z5 => ?_)
  have r6 := R_eq z5
  refine r_icmp_ne (tgt := 25) S dX4_stateOf_8 (by decide) (fun c7 => ?_) (fun c7 => ?_)
  ·
    have r8 : R (0) (0) v1 := ⟨by omega, by omega⟩
    refine r_aload_n S dX4_stateOf_25 rfl (lv_at hl 0 rfl) ?_
    refine r_get (K := 22) (v := .ref (G.2.2.2.1 30)) S X (Nat.le_of_ble_eq_true rfl) rfl lk4_69_8 (fun _ => ⟨_, rfl, rfl⟩) dX4_stateOf_26 ?_
    refine r_getn (K := 23) S X (Nat.le_of_ble_eq_true rfl) rfl lk4_73_3 (fun _ => ⟨_, rfl, rfl⟩) dX4_stateOf_29 (fun v9 z10 => ?_)
    have r11 : R (0) (1023) v9 := rd hI rfl z10
    exact r_ret S hr hlk X ⟨rfl, (R_of r11 rfl)⟩ rfl dX4_stateOf_32
  ·
    have r12 : R (1) (1) v1 := ⟨by omega, by omega⟩
    refine r_aload_n S dX4_stateOf_11 rfl (lv_at hl 0 rfl) ?_
    refine r_get (K := 22) (v := .ref (G.2.2.2.1 30)) S X (Nat.le_of_ble_eq_true rfl) rfl lk4_69_8 (fun _ => ⟨_, rfl, rfl⟩) dX4_stateOf_12 ?_
    refine r_getn (K := 23) S X (Nat.le_of_ble_eq_true rfl) rfl lk4_73_3 (fun _ => ⟨_, rfl, rfl⟩) dX4_stateOf_15 (fun v13 z14 => ?_)
    have r15 : R (0) (1023) v13 := rd hI rfl z14
    refine r_sipush S dX4_stateOf_18 (by decide) (fun v16 z17 => ?_)
    have r18 := R_eq z17
    refine r_ior S dX4_stateOf_21 (fun v19 z20 => ?_)
    have r22 : R (0) (2047) v19 := i_or 11 z20 r15 r18 rfl
    refine r_goto (tgt := 32) S dX4_stateOf_22 (by decide) ?_
    exact r_ret S hr hlk X ⟨rfl, r22⟩ rfl dX4_stateOf_32
def po_X4_spread (τ : Tau)  (a0 a1 a2 : Int32)   (r : Int32) (u : Tau) : Prop := Inv u ∧ Fr [] [49, 50] τ u ∧ R (0) (2048) r
set_option maxHeartbeats 4000000 in
set_option maxRecDepth 100000 in
theorem c_X4_spread (l : Launch) (G : Gx) (τ : Tau) (hI : Inv τ) (a0 : Int32) (a1 : Int32) (a2 : Int32) (h_a0 : R (0) (2047) a0) (h_a1 : R (0) (1023) a1) (h_a2 : R (0) (2048) a2) : Ci l G yX4_spread cX4_spread 9 (some .int) 0 0 [.ref (G.2.2.2.1 45), .int a0, .int a1, .int a2] τ (po_X4_spread τ  a0 a1 a2  ) := by
  unfold Ci
  refine C_of (own := RX4) (by decide) rfl (Nat.le_of_ble_eq_true rfl) ?_
  intro p e s m below meth c ls S hr hlk X hl
  have hl : lv_has ls 9 [(0, .ref (G.2.2.2.1 45)), (1, .int a0), (2, .int a1), (3, .int a2)] := hl
  refine r_iload_n S dX4_spread_0 rfl (lv_at hl 1 rfl) ?_
  refine r_iload_n S dX4_spread_1 rfl (lv_at hl 2 rfl) ?_
  refine r_iand S dX4_spread_2 (fun v1 z2 => ?_)
  have r4 : R (0) (1023) v1 := i_and2 z2 h_a0 h_a1 rfl
  have e5 := i_andle z2 h_a0 rfl
  refine r_istore (lv' := [(4, .int v1), (0, .ref (G.2.2.2.1 45)), (1, .int a0), (2, .int a1), (3, .int a2)]) S dX4_spread_3 hl (by decide) rfl (fun ls hl => ?_)
  refine r_iload_n S dX4_spread_5 rfl (lv_at hl 2 rfl) ?_
  refine r_sipush S dX4_spread_6 (by decide) (fun v6 z7 => ?_)
  have r8 := R_eq z7
  refine r_icmp_lt (tgt := 17) S dX4_spread_9 (by decide) (fun c9 => ?_) (fun c9 => ?_)
  ·
    have r10 : R (0) (1023) a0 := ⟨by omega, by omega⟩
    refine r_iload_n S dX4_spread_17 rfl (lv_at hl 3 rfl) ?_
    refine r_iload S dX4_spread_18 (lv_at hl 0 rfl) ?_
    refine r_iconst S dX4_spread_20 (by decide) (fun v11 z12 => ?_)
    have r13 := R_eq z12
    refine r_ixor S dX4_spread_21 (fun v14 z15 => ?_)
    have r16 := R_any v14
    refine r_iand S dX4_spread_22 (fun v17 z18 => ?_)
    have r20 : R (0) (1023) v17 := i_and1 z18 h_a1 r16 rfl
    have e21 := i_andle z18 h_a1 rfl
    refine r_istore (lv' := [(5, .int v17), (4, .int v1), (0, .ref (G.2.2.2.1 45)), (1, .int a0), (2, .int a1), (3, .int a2)]) S dX4_spread_23 hl (by decide) rfl (fun ls hl => ?_)
    refine r_iload_n S dX4_spread_25 rfl (lv_at hl 5 rfl) ?_
    refine r_istore (lv' := [(6, .int a2), (5, .int v17), (4, .int v1), (0, .ref (G.2.2.2.1 45)), (1, .int a0), (2, .int a1), (3, .int a2)]) S dX4_spread_26 hl (by decide) rfl (fun ls hl => ?_)
    refine r_iload S dX4_spread_28 (lv_at hl 1 rfl) ?_
    refine r_istore (lv' := [(7, .int v17), (6, .int a2), (5, .int v17), (4, .int v1), (0, .ref (G.2.2.2.1 45)), (1, .int a0), (2, .int a1), (3, .int a2)]) S dX4_spread_30 hl (by decide) rfl (fun ls hl => ?_)
    have L261 : ∀ (n : Nat) (t257 : Tau) (H : Heap) (lc : List Loc) (ls : Array Slot) (i253 : Int32) (i255 : Int32), Xd G s H lc t257 → Inv t257 → Fr [] [49, 50] τ t257 → R (0) (2048) i253 → R (0) (1023) i255 → lv_has ls 9 [(0, .ref (G.2.2.2.1 45)), (1, .int a0), (5, .int v17), (6, .int i253), (7, .int i255)] → (i255.toInt).toNat < n → W p l e (Rm 0 0) s m ([.ref (G.2.2.2.1 45), .int a0, .int a1, .int a2] : List Value).toArray below meth c H lc 0 0 (MQ below (va_Qi (po_X4_spread τ  a0 a1 a2  ) (Bs G) G.2.2.2.2) ([.ref (G.2.2.2.1 45), .int a0, .int a1, .int a2] : List Value).toArray s 0 0 G.2.2.2.2) (F0 m 32 ls []) := by
      intro n
      induction n with
      | zero => intros; omega
      | succ n ih262 =>
        intro t257 H lc ls i253 i255 X260 I258 F259 r254 r256 hl hm
        refine r_iload S dX4_spread_32 (lv_at hl 4 rfl) ?_
        refine r_if_le (tgt := 117) S dX4_spread_34 (by decide) (fun c263 => ?_) (fun c263 => ?_)
        ·
          have r264 : R (0) (0) i255 := ⟨by omega, by omega⟩
          refine r_iload S dX4_spread_117 (lv_at hl 3 rfl) ?_
          exact r_ret S hr hlk X260 ⟨I258, F259, r254⟩ rfl dX4_spread_119
        ·
          have r265 : R (1) (1023) i255 := ⟨by omega, by omega⟩
          refine r_iload_n S dX4_spread_37 rfl (lv_at hl 1 rfl) ?_
          refine r_iload S dX4_spread_38 (lv_at hl 4 rfl) ?_
          refine r_ixor S dX4_spread_40 (fun v266 z267 => ?_)
          have r269 : R (0) (1023) v266 := i_xor 10 z267 r10 r265 rfl
          refine r_sipush S dX4_spread_41 (by decide) (fun v270 z271 => ?_)
          have r272 := R_eq z271
          refine r_ixor S dX4_spread_44 (fun v273 z274 => ?_)
          have r276 : R (0) (2047) v273 := i_xor 11 z274 r269 r272 rfl
          refine r_istore (lv' := [(8, .int v273), (0, .ref (G.2.2.2.1 45)), (1, .int a0), (5, .int v17), (6, .int i253), (7, .int i255)]) S dX4_spread_45 hl (by decide) rfl (fun ls hl => ?_)
          refine r_aload_n S dX4_spread_47 rfl (lv_at hl 1 rfl) ?_
          refine r_get (K := 28) (v := .ref (G.2.2.2.1 48)) S X260 (Nat.le_of_ble_eq_true rfl) rfl lk4_19_4 (fun _ => ⟨_, rfl, rfl⟩) dX4_spread_48 ?_
          refine r_iload S dX4_spread_51 (lv_at hl 5 rfl) ?_
          refine r_zald (n := 1024) (K := 31) S X260 (Nat.le_of_ble_eq_true rfl) rfl (fun _ => rfl) (ix_of r265 rfl) dX4_spread_53 (fun v277 z278 => ?_)
          have r279 : R (0) (1) v277 := rd I258 rfl z278
          refine r_if_eq (tgt := 105) S dX4_spread_54 (by decide) (fun c280 => ?_) (fun c280 => ?_)
          ·
            have r281 : R (0) (0) v277 := ⟨by omega, by omega⟩
            refine r_iload S dX4_spread_105 (lv_at hl 5 rfl) ?_
            refine r_iconst S dX4_spread_107 (by decide) (fun v282 z283 => ?_)
            have r284 := R_eq z283
            refine r_isub S dX4_spread_108 (fun v285 z286 => ?_)
            obtain ⟨e287, r288⟩ := i_sub (lo := 0) (hi := 1022) z286 r265 r284 rfl
            refine r_iload S dX4_spread_109 (lv_at hl 3 rfl) ?_
            refine r_iand S dX4_spread_111 (fun v289 z290 => ?_)
            have r292 : R (0) (1022) v289 := i_and1 z290 r288 r20 rfl
            have e293 := i_andle z290 r288 rfl
            refine r_istore (lv' := [(7, .int v289), (8, .int v273), (0, .ref (G.2.2.2.1 45)), (1, .int a0), (5, .int v17), (6, .int i253)]) S dX4_spread_112 hl (by decide) rfl (fun ls hl => ?_)
            refine r_goto (tgt := 32) S dX4_spread_114 (by decide) ?_
            exact ih262 t257 _ _ _ i253 v289 X260 I258 F259 r254 (R_of r292 rfl) (lv_sub hl [2, 3, 4, 5, 0] rfl) (by omega)
          ·
            have r294 : R (1) (1) v277 := ⟨by omega, by omega⟩
            refine r_aload_n S dX4_spread_57 rfl (lv_at hl 1 rfl) ?_
            refine r_get (K := 28) (v := .ref (G.2.2.2.1 49)) S X260 (Nat.le_of_ble_eq_true rfl) rfl lk4_22_4 (fun _ => ⟨_, rfl, rfl⟩) dX4_spread_58 ?_
            refine r_iload S dX4_spread_61 (lv_at hl 0 rfl) ?_
            refine r_aldn (n := 2048) (K := 32) S X260 (Nat.le_of_ble_eq_true rfl) rfl (fun _ => rfl) (ix_of r276 rfl) dX4_spread_63 (fun v295 z296 => ?_)
            have r298 := R_any v295
            refine r_iconst S dX4_spread_64 (by decide) (fun v299 z300 => ?_)
            have r301 := R_eq z300
            refine r_icmp_ne (tgt := 105) S dX4_spread_65 (by decide) (fun c302 => ?_) (fun c302 => ?_)
            ·
              refine r_iload S dX4_spread_105 (lv_at hl 5 rfl) ?_
              refine r_iconst S dX4_spread_107 (by decide) (fun v303 z304 => ?_)
              have r305 := R_eq z304
              refine r_isub S dX4_spread_108 (fun v306 z307 => ?_)
              obtain ⟨e308, r309⟩ := i_sub (lo := 0) (hi := 1022) z307 r265 r305 rfl
              refine r_iload S dX4_spread_109 (lv_at hl 3 rfl) ?_
              refine r_iand S dX4_spread_111 (fun v310 z311 => ?_)
              have r313 : R (0) (1022) v310 := i_and1 z311 r309 r20 rfl
              have e314 := i_andle z311 r309 rfl
              refine r_istore (lv' := [(7, .int v310), (8, .int v273), (0, .ref (G.2.2.2.1 45)), (1, .int a0), (5, .int v17), (6, .int i253)]) S dX4_spread_112 hl (by decide) rfl (fun ls hl => ?_)
              refine r_goto (tgt := 32) S dX4_spread_114 (by decide) ?_
              exact ih262 t257 _ _ _ i253 v310 X260 I258 F259 r254 (R_of r313 rfl) (lv_sub hl [2, 3, 4, 5, 0] rfl) (by omega)
            ·
              have r315 : R (-1) (-1) v295 := ⟨by omega, by omega⟩
              refine r_iload S dX4_spread_68 (lv_at hl 4 rfl) ?_
              refine r_aload_n S dX4_spread_70 rfl (lv_at hl 1 rfl) ?_
              refine r_get (K := 28) (v := .ref (G.2.2.2.1 50)) S X260 (Nat.le_of_ble_eq_true rfl) rfl lk4_25_4 (fun _ => ⟨_, rfl, rfl⟩) dX4_spread_71 ?_
              refine r_alen (x := (0, .inl fun _ => 0)) (n := 2048) (K := 33) (t0 := 0) S X260 (Nat.le_of_ble_eq_true rfl) rfl (fun _ => ⟨_, rfl⟩) rfl (by decide) dX4_spread_74 (fun v316 z317 => ?_)
              have r318 := R_eq z317
              refine r_icmp_ge (tgt := 105) S dX4_spread_75 (by decide) (fun c319 => ?_) (fun c319 => ?_)
              ·
                have r320 : R (2048) (2048) i253 := ⟨by omega, by omega⟩
                refine r_iload S dX4_spread_105 (lv_at hl 5 rfl) ?_
                refine r_iconst S dX4_spread_107 (by decide) (fun v321 z322 => ?_)
                have r323 := R_eq z322
                refine r_isub S dX4_spread_108 (fun v324 z325 => ?_)
                obtain ⟨e326, r327⟩ := i_sub (lo := 0) (hi := 1022) z325 r265 r323 rfl
                refine r_iload S dX4_spread_109 (lv_at hl 3 rfl) ?_
                refine r_iand S dX4_spread_111 (fun v328 z329 => ?_)
                have r331 : R (0) (1022) v328 := i_and1 z329 r327 r20 rfl
                have e332 := i_andle z329 r327 rfl
                refine r_istore (lv' := [(7, .int v328), (8, .int v273), (0, .ref (G.2.2.2.1 45)), (1, .int a0), (5, .int v17), (6, .int i253)]) S dX4_spread_112 hl (by decide) rfl (fun ls hl => ?_)
                refine r_goto (tgt := 32) S dX4_spread_114 (by decide) ?_
                exact ih262 t257 _ _ _ i253 v328 X260 I258 F259 (R_of r320 rfl) (R_of r331 rfl) (lv_sub hl [2, 3, 4, 5, 0] rfl) (by omega)
              ·
                have r333 : R (0) (2047) i253 := ⟨by omega, by omega⟩
                refine r_aload_n S dX4_spread_78 rfl (lv_at hl 1 rfl) ?_
                refine r_get (K := 28) (v := .ref (G.2.2.2.1 49)) S X260 (Nat.le_of_ble_eq_true rfl) rfl lk4_22_4 (fun _ => ⟨_, rfl, rfl⟩) dX4_spread_79 ?_
                refine r_iload S dX4_spread_82 (lv_at hl 0 rfl) ?_
                refine r_aload_n S dX4_spread_84 rfl (lv_at hl 1 rfl) ?_
                refine r_get (K := 28) (v := .ref (G.2.2.2.1 49)) S X260 (Nat.le_of_ble_eq_true rfl) rfl lk4_22_4 (fun _ => ⟨_, rfl, rfl⟩) dX4_spread_85 ?_
                refine r_iload_n S dX4_spread_88 rfl (lv_at hl 2 rfl) ?_
                refine r_aldn (n := 2048) (K := 32) S X260 (Nat.le_of_ble_eq_true rfl) rfl (fun _ => rfl) (ix_of r10 rfl) dX4_spread_89 (fun v334 z335 => ?_)
                have r337 := R_any v334
                refine r_iconst S dX4_spread_90 (by decide) (fun v338 z339 => ?_)
                have r340 := R_eq z339
                refine r_iadd S dX4_spread_91 (fun v341 z342 => ?_)
                have r343 := R_any v341
                refine r_ast (n := 2048) (K := 32) S X260 (Nat.le_of_ble_eq_true rfl) rfl (fun _ _ => rfl) (ix_of r276 rfl) dX4_spread_92 (fun t344 H lc M345 X346 => ?_)
                have I347 := Inv_mu I258 M345 (R_any v341)
                have F348 : Fr [] [49, 50] τ t344 := Fr_cell F259 M345 (by decide)
                refine r_aload_n S dX4_spread_93 rfl (lv_at hl 1 rfl) ?_
                refine r_get (K := 28) (v := .ref (G.2.2.2.1 50)) S X346 (Nat.le_of_ble_eq_true rfl) rfl lk4_25_4 (fun _ => ⟨_, rfl, rfl⟩) dX4_spread_94 ?_
                refine r_iload S dX4_spread_97 (lv_at hl 4 rfl) ?_
                refine r_iload S dX4_spread_99 (lv_at hl 0 rfl) ?_
                refine r_ast (n := 2048) (K := 33) S X346 (Nat.le_of_ble_eq_true rfl) rfl (fun _ _ => rfl) (ix_of r333 rfl) dX4_spread_101 (fun t349 H lc M350 X351 => ?_)
                have I352 := Inv_mu I347 M350 (show Rg (kd 50) _ v273 from (R_of (lo := 0) (hi := 2047) r276 rfl))
                have F353 : Fr [] [49, 50] τ t349 := Fr_cell F348 M350 (by decide)
                refine r_iinc (k := 4) S dX4_spread_102 hl rfl (by decide) (by decide) (fun v354 d355 ls z356 z357 hl => ?_)
                obtain ⟨e358, r359⟩ := i_add (lo := 1) (hi := 2048) z356 r333 (R_eq z357) rfl
                have hl : lv_has ls 9 [(6, .int v354), (8, .int v273), (0, .ref (G.2.2.2.1 45)), (1, .int a0), (5, .int v17), (7, .int i255)] := hl
                refine r_iload S dX4_spread_105 (lv_at hl 5 rfl) ?_
                refine r_iconst S dX4_spread_107 (by decide) (fun v360 z361 => ?_)
                have r362 := R_eq z361
                refine r_isub S dX4_spread_108 (fun v363 z364 => ?_)
                obtain ⟨e365, r366⟩ := i_sub (lo := 0) (hi := 1022) z364 r265 r362 rfl
                refine r_iload S dX4_spread_109 (lv_at hl 4 rfl) ?_
                refine r_iand S dX4_spread_111 (fun v367 z368 => ?_)
                have r370 : R (0) (1022) v367 := i_and1 z368 r366 r20 rfl
                have e371 := i_andle z368 r366 rfl
                refine r_istore (lv' := [(7, .int v367), (6, .int v354), (8, .int v273), (0, .ref (G.2.2.2.1 45)), (1, .int a0), (5, .int v17)]) S dX4_spread_112 hl (by decide) rfl (fun ls hl => ?_)
                refine r_goto (tgt := 32) S dX4_spread_114 (by decide) ?_
                exact ih262 t349 _ _ _ v354 v367 X351 I352 F353 (R_of r359 rfl) (R_of r370 rfl) (lv_sub hl [3, 4, 5, 1, 0] rfl) (by omega)
    exact L261 _ τ _ _ _ a2 v17 X hI Fr_rfl h_a2 r20 (lv_sub hl [4, 5, 2, 1, 0] rfl) (Nat.lt_succ_self _)
  ·
    have r372 : R (1024) (2047) a0 := ⟨by omega, by omega⟩
    refine r_iload S dX4_spread_12 (lv_at hl 0 rfl) ?_
    refine r_goto (tgt := 23) S dX4_spread_14 (by decide) ?_
    refine r_istore (lv' := [(5, .int v1), (4, .int v1), (0, .ref (G.2.2.2.1 45)), (1, .int a0), (2, .int a1), (3, .int a2)]) S dX4_spread_23 hl (by decide) rfl (fun ls hl => ?_)
    refine r_iload_n S dX4_spread_25 rfl (lv_at hl 5 rfl) ?_
    refine r_istore (lv' := [(6, .int a2), (5, .int v1), (4, .int v1), (0, .ref (G.2.2.2.1 45)), (1, .int a0), (2, .int a1), (3, .int a2)]) S dX4_spread_26 hl (by decide) rfl (fun ls hl => ?_)
    refine r_iload S dX4_spread_28 (lv_at hl 1 rfl) ?_
    refine r_istore (lv' := [(7, .int v1), (6, .int a2), (5, .int v1), (4, .int v1), (0, .ref (G.2.2.2.1 45)), (1, .int a0), (2, .int a1), (3, .int a2)]) S dX4_spread_30 hl (by decide) rfl (fun ls hl => ?_)
    have L612 : ∀ (n : Nat) (t608 : Tau) (H : Heap) (lc : List Loc) (ls : Array Slot) (i604 : Int32) (i606 : Int32), Xd G s H lc t608 → Inv t608 → Fr [] [49, 50] τ t608 → R (0) (2048) i604 → R (0) (1023) i606 → lv_has ls 9 [(0, .ref (G.2.2.2.1 45)), (1, .int a0), (5, .int v1), (6, .int i604), (7, .int i606)] → (i606.toInt).toNat < n → W p l e (Rm 0 0) s m ([.ref (G.2.2.2.1 45), .int a0, .int a1, .int a2] : List Value).toArray below meth c H lc 0 0 (MQ below (va_Qi (po_X4_spread τ  a0 a1 a2  ) (Bs G) G.2.2.2.2) ([.ref (G.2.2.2.1 45), .int a0, .int a1, .int a2] : List Value).toArray s 0 0 G.2.2.2.2) (F0 m 32 ls []) := by
      intro n
      induction n with
      | zero => intros; omega
      | succ n ih613 =>
        intro t608 H lc ls i604 i606 X611 I609 F610 r605 r607 hl hm
        refine r_iload S dX4_spread_32 (lv_at hl 4 rfl) ?_
        refine r_if_le (tgt := 117) S dX4_spread_34 (by decide) (fun c614 => ?_) (fun c614 => ?_)
        ·
          have r615 : R (0) (0) i606 := ⟨by omega, by omega⟩
          refine r_iload S dX4_spread_117 (lv_at hl 3 rfl) ?_
          exact r_ret S hr hlk X611 ⟨I609, F610, r605⟩ rfl dX4_spread_119
        ·
          have r616 : R (1) (1023) i606 := ⟨by omega, by omega⟩
          refine r_iload_n S dX4_spread_37 rfl (lv_at hl 1 rfl) ?_
          refine r_iload S dX4_spread_38 (lv_at hl 4 rfl) ?_
          refine r_ixor S dX4_spread_40 (fun v617 z618 => ?_)
          have r620 : R (0) (2047) v617 := i_xor 11 z618 r372 r616 rfl
          refine r_sipush S dX4_spread_41 (by decide) (fun v621 z622 => ?_)
          have r623 := R_eq z622
          refine r_ixor S dX4_spread_44 (fun v624 z625 => ?_)
          have r627 : R (0) (2047) v624 := i_xor 11 z625 r620 r623 rfl
          refine r_istore (lv' := [(8, .int v624), (0, .ref (G.2.2.2.1 45)), (1, .int a0), (5, .int v1), (6, .int i604), (7, .int i606)]) S dX4_spread_45 hl (by decide) rfl (fun ls hl => ?_)
          refine r_aload_n S dX4_spread_47 rfl (lv_at hl 1 rfl) ?_
          refine r_get (K := 28) (v := .ref (G.2.2.2.1 48)) S X611 (Nat.le_of_ble_eq_true rfl) rfl lk4_19_4 (fun _ => ⟨_, rfl, rfl⟩) dX4_spread_48 ?_
          refine r_iload S dX4_spread_51 (lv_at hl 5 rfl) ?_
          refine r_zald (n := 1024) (K := 31) S X611 (Nat.le_of_ble_eq_true rfl) rfl (fun _ => rfl) (ix_of r616 rfl) dX4_spread_53 (fun v628 z629 => ?_)
          have r630 : R (0) (1) v628 := rd I609 rfl z629
          refine r_if_eq (tgt := 105) S dX4_spread_54 (by decide) (fun c631 => ?_) (fun c631 => ?_)
          ·
            have r632 : R (0) (0) v628 := ⟨by omega, by omega⟩
            refine r_iload S dX4_spread_105 (lv_at hl 5 rfl) ?_
            refine r_iconst S dX4_spread_107 (by decide) (fun v633 z634 => ?_)
            have r635 := R_eq z634
            refine r_isub S dX4_spread_108 (fun v636 z637 => ?_)
            obtain ⟨e638, r639⟩ := i_sub (lo := 0) (hi := 1022) z637 r616 r635 rfl
            refine r_iload S dX4_spread_109 (lv_at hl 3 rfl) ?_
            refine r_iand S dX4_spread_111 (fun v640 z641 => ?_)
            have r643 : R (0) (1022) v640 := i_and1 z641 r639 r4 rfl
            have e644 := i_andle z641 r639 rfl
            refine r_istore (lv' := [(7, .int v640), (8, .int v624), (0, .ref (G.2.2.2.1 45)), (1, .int a0), (5, .int v1), (6, .int i604)]) S dX4_spread_112 hl (by decide) rfl (fun ls hl => ?_)
            refine r_goto (tgt := 32) S dX4_spread_114 (by decide) ?_
            exact ih613 t608 _ _ _ i604 v640 X611 I609 F610 r605 (R_of r643 rfl) (lv_sub hl [2, 3, 4, 5, 0] rfl) (by omega)
          ·
            have r645 : R (1) (1) v628 := ⟨by omega, by omega⟩
            refine r_aload_n S dX4_spread_57 rfl (lv_at hl 1 rfl) ?_
            refine r_get (K := 28) (v := .ref (G.2.2.2.1 49)) S X611 (Nat.le_of_ble_eq_true rfl) rfl lk4_22_4 (fun _ => ⟨_, rfl, rfl⟩) dX4_spread_58 ?_
            refine r_iload S dX4_spread_61 (lv_at hl 0 rfl) ?_
            refine r_aldn (n := 2048) (K := 32) S X611 (Nat.le_of_ble_eq_true rfl) rfl (fun _ => rfl) (ix_of r627 rfl) dX4_spread_63 (fun v646 z647 => ?_)
            have r649 := R_any v646
            refine r_iconst S dX4_spread_64 (by decide) (fun v650 z651 => ?_)
            have r652 := R_eq z651
            refine r_icmp_ne (tgt := 105) S dX4_spread_65 (by decide) (fun c653 => ?_) (fun c653 => ?_)
            ·
              refine r_iload S dX4_spread_105 (lv_at hl 5 rfl) ?_
              refine r_iconst S dX4_spread_107 (by decide) (fun v654 z655 => ?_)
              have r656 := R_eq z655
              refine r_isub S dX4_spread_108 (fun v657 z658 => ?_)
              obtain ⟨e659, r660⟩ := i_sub (lo := 0) (hi := 1022) z658 r616 r656 rfl
              refine r_iload S dX4_spread_109 (lv_at hl 3 rfl) ?_
              refine r_iand S dX4_spread_111 (fun v661 z662 => ?_)
              have r664 : R (0) (1022) v661 := i_and1 z662 r660 r4 rfl
              have e665 := i_andle z662 r660 rfl
              refine r_istore (lv' := [(7, .int v661), (8, .int v624), (0, .ref (G.2.2.2.1 45)), (1, .int a0), (5, .int v1), (6, .int i604)]) S dX4_spread_112 hl (by decide) rfl (fun ls hl => ?_)
              refine r_goto (tgt := 32) S dX4_spread_114 (by decide) ?_
              exact ih613 t608 _ _ _ i604 v661 X611 I609 F610 r605 (R_of r664 rfl) (lv_sub hl [2, 3, 4, 5, 0] rfl) (by omega)
            ·
              have r666 : R (-1) (-1) v646 := ⟨by omega, by omega⟩
              refine r_iload S dX4_spread_68 (lv_at hl 4 rfl) ?_
              refine r_aload_n S dX4_spread_70 rfl (lv_at hl 1 rfl) ?_
              refine r_get (K := 28) (v := .ref (G.2.2.2.1 50)) S X611 (Nat.le_of_ble_eq_true rfl) rfl lk4_25_4 (fun _ => ⟨_, rfl, rfl⟩) dX4_spread_71 ?_
              refine r_alen (x := (0, .inl fun _ => 0)) (n := 2048) (K := 33) (t0 := 0) S X611 (Nat.le_of_ble_eq_true rfl) rfl (fun _ => ⟨_, rfl⟩) rfl (by decide) dX4_spread_74 (fun v667 z668 => ?_)
              have r669 := R_eq z668
              refine r_icmp_ge (tgt := 105) S dX4_spread_75 (by decide) (fun c670 => ?_) (fun c670 => ?_)
              ·
                have r671 : R (2048) (2048) i604 := ⟨by omega, by omega⟩
                refine r_iload S dX4_spread_105 (lv_at hl 5 rfl) ?_
                refine r_iconst S dX4_spread_107 (by decide) (fun v672 z673 => ?_)
                have r674 := R_eq z673
                refine r_isub S dX4_spread_108 (fun v675 z676 => ?_)
                obtain ⟨e677, r678⟩ := i_sub (lo := 0) (hi := 1022) z676 r616 r674 rfl
                refine r_iload S dX4_spread_109 (lv_at hl 3 rfl) ?_
                refine r_iand S dX4_spread_111 (fun v679 z680 => ?_)
                have r682 : R (0) (1022) v679 := i_and1 z680 r678 r4 rfl
                have e683 := i_andle z680 r678 rfl
                refine r_istore (lv' := [(7, .int v679), (8, .int v624), (0, .ref (G.2.2.2.1 45)), (1, .int a0), (5, .int v1), (6, .int i604)]) S dX4_spread_112 hl (by decide) rfl (fun ls hl => ?_)
                refine r_goto (tgt := 32) S dX4_spread_114 (by decide) ?_
                exact ih613 t608 _ _ _ i604 v679 X611 I609 F610 (R_of r671 rfl) (R_of r682 rfl) (lv_sub hl [2, 3, 4, 5, 0] rfl) (by omega)
              ·
                have r684 : R (0) (2047) i604 := ⟨by omega, by omega⟩
                refine r_aload_n S dX4_spread_78 rfl (lv_at hl 1 rfl) ?_
                refine r_get (K := 28) (v := .ref (G.2.2.2.1 49)) S X611 (Nat.le_of_ble_eq_true rfl) rfl lk4_22_4 (fun _ => ⟨_, rfl, rfl⟩) dX4_spread_79 ?_
                refine r_iload S dX4_spread_82 (lv_at hl 0 rfl) ?_
                refine r_aload_n S dX4_spread_84 rfl (lv_at hl 1 rfl) ?_
                refine r_get (K := 28) (v := .ref (G.2.2.2.1 49)) S X611 (Nat.le_of_ble_eq_true rfl) rfl lk4_22_4 (fun _ => ⟨_, rfl, rfl⟩) dX4_spread_85 ?_
                refine r_iload_n S dX4_spread_88 rfl (lv_at hl 2 rfl) ?_
                refine r_aldn (n := 2048) (K := 32) S X611 (Nat.le_of_ble_eq_true rfl) rfl (fun _ => rfl) (ix_of r372 rfl) dX4_spread_89 (fun v685 z686 => ?_)
                have r688 := R_any v685
                refine r_iconst S dX4_spread_90 (by decide) (fun v689 z690 => ?_)
                have r691 := R_eq z690
                refine r_iadd S dX4_spread_91 (fun v692 z693 => ?_)
                have r694 := R_any v692
                refine r_ast (n := 2048) (K := 32) S X611 (Nat.le_of_ble_eq_true rfl) rfl (fun _ _ => rfl) (ix_of r627 rfl) dX4_spread_92 (fun t695 H lc M696 X697 => ?_)
                have I698 := Inv_mu I609 M696 (R_any v692)
                have F699 : Fr [] [49, 50] τ t695 := Fr_cell F610 M696 (by decide)
                refine r_aload_n S dX4_spread_93 rfl (lv_at hl 1 rfl) ?_
                refine r_get (K := 28) (v := .ref (G.2.2.2.1 50)) S X697 (Nat.le_of_ble_eq_true rfl) rfl lk4_25_4 (fun _ => ⟨_, rfl, rfl⟩) dX4_spread_94 ?_
                refine r_iload S dX4_spread_97 (lv_at hl 4 rfl) ?_
                refine r_iload S dX4_spread_99 (lv_at hl 0 rfl) ?_
                refine r_ast (n := 2048) (K := 33) S X697 (Nat.le_of_ble_eq_true rfl) rfl (fun _ _ => rfl) (ix_of r684 rfl) dX4_spread_101 (fun t700 H lc M701 X702 => ?_)
                have I703 := Inv_mu I698 M701 (show Rg (kd 50) _ v624 from (R_of (lo := 0) (hi := 2047) r627 rfl))
                have F704 : Fr [] [49, 50] τ t700 := Fr_cell F699 M701 (by decide)
                refine r_iinc (k := 4) S dX4_spread_102 hl rfl (by decide) (by decide) (fun v705 d706 ls z707 z708 hl => ?_)
                obtain ⟨e709, r710⟩ := i_add (lo := 1) (hi := 2048) z707 r684 (R_eq z708) rfl
                have hl : lv_has ls 9 [(6, .int v705), (8, .int v624), (0, .ref (G.2.2.2.1 45)), (1, .int a0), (5, .int v1), (7, .int i606)] := hl
                refine r_iload S dX4_spread_105 (lv_at hl 5 rfl) ?_
                refine r_iconst S dX4_spread_107 (by decide) (fun v711 z712 => ?_)
                have r713 := R_eq z712
                refine r_isub S dX4_spread_108 (fun v714 z715 => ?_)
                obtain ⟨e716, r717⟩ := i_sub (lo := 0) (hi := 1022) z715 r616 r713 rfl
                refine r_iload S dX4_spread_109 (lv_at hl 4 rfl) ?_
                refine r_iand S dX4_spread_111 (fun v718 z719 => ?_)
                have r721 : R (0) (1022) v718 := i_and1 z719 r717 r4 rfl
                have e722 := i_andle z719 r717 rfl
                refine r_istore (lv' := [(7, .int v718), (6, .int v705), (8, .int v624), (0, .ref (G.2.2.2.1 45)), (1, .int a0), (5, .int v1)]) S dX4_spread_112 hl (by decide) rfl (fun ls hl => ?_)
                refine r_goto (tgt := 32) S dX4_spread_114 (by decide) ?_
                exact ih613 t700 _ _ _ v705 v718 X702 I703 F704 (R_of r710 rfl) (R_of r721 rfl) (lv_sub hl [3, 4, 5, 1, 0] rfl) (by omega)
    exact L612 _ τ _ _ _ a2 v1 X hI Fr_rfl h_a2 r4 (lv_sub hl [4, 5, 2, 1, 0] rfl) (Nat.lt_succ_self _)
def po_X4_measureFromEnd (τ : Tau)  (a0 a1 : Int32)   (r : Int32) (u : Tau) : Prop := Inv u ∧ Fr [] [49, 50] τ u
set_option maxHeartbeats 4000000 in
set_option maxRecDepth 100000 in
theorem c_X4_measureFromEnd (l : Launch) (G : Gx) (τ : Tau) (hI : Inv τ) (a0 : Int32) (a1 : Int32) (h_a0 : R (0) (1023) a0) (h_a1 : R (0) (2047) a1) : Ci l G yX4_measureFromEnd cX4_measureFromEnd 6 (some .int) 1 28 [.ref (G.2.2.2.1 45), .int a0, .int a1] τ (po_X4_measureFromEnd τ  a0 a1  ) := by
  unfold Ci
  refine C_of (own := RX4) (by decide) rfl (Nat.le_of_ble_eq_true rfl) ?_
  intro p e s m below meth c ls S hr hlk X hl
  have hl : lv_has ls 6 [(0, .ref (G.2.2.2.1 45)), (1, .int a0), (2, .int a1)] := hl
  refine r_aload_n S dX4_measureFromEnd_0 rfl (lv_at hl 0 rfl) ?_
  refine r_get (K := 28) (v := .ref (G.2.2.2.1 49)) S X (Nat.le_of_ble_eq_true rfl) rfl lk4_22_4 (fun _ => ⟨_, rfl, rfl⟩) dX4_measureFromEnd_1 ?_
  refine r_iconst S dX4_measureFromEnd_4 (by decide) (fun v1 z2 => ?_)
  have r3 := R_eq z2
  refine r_kv (q_S (As := [.ref (G.2.2.2.1 49), .int v1]) (rest := []) S X (c_fill_distance l G τ hI 49 (Nat.le_of_ble_eq_true rfl) rfl v1 (R_of (lo := -2147483648) (hi := 2147483647) r3 rfl)) ck4_101 ⟨Nat.le_of_ble_eq_true rfl, Nat.le_of_ble_eq_true rfl⟩ rfl hl.1 rfl (Nat.le_of_ble_eq_true rfl) dX4_measureFromEnd_5 ⟨Nat.le_refl 0, Nat.le_refl 0⟩) X (fun t6 H lc q4 X5 => ?_)
  unfold po_fill_distance at q4
  obtain ⟨q7, q8⟩ := q4
  have F9 : Fr [] [49, 50] τ t6 := Fr_call Fr_rfl q8 (by decide)
  refine r_iload_n S dX4_measureFromEnd_8 rfl (lv_at hl 1 rfl) ?_
  refine r_sipush S dX4_measureFromEnd_9 (by decide) (fun v10 z11 => ?_)
  have r12 := R_eq z11
  refine r_ior S dX4_measureFromEnd_12 (fun v13 z14 => ?_)
  have r16 : R (0) (2047) v13 := i_or 11 z14 h_a0 r12 rfl
  refine r_istore_n (lv' := [(3, .int v13), (0, .ref (G.2.2.2.1 45)), (1, .int a0), (2, .int a1)]) S dX4_measureFromEnd_13 rfl hl (by decide) rfl (fun ls hl => ?_)
  refine r_aload_n S dX4_measureFromEnd_14 rfl (lv_at hl 1 rfl) ?_
  refine r_get (K := 28) (v := .ref (G.2.2.2.1 49)) S X5 (Nat.le_of_ble_eq_true rfl) rfl lk4_22_4 (fun _ => ⟨_, rfl, rfl⟩) dX4_measureFromEnd_15 ?_
  refine r_iload_n S dX4_measureFromEnd_18 rfl (lv_at hl 0 rfl) ?_
  refine r_iconst S dX4_measureFromEnd_19 (by decide) (fun v17 z18 => ?_)
  have r19 := R_eq z18
  refine r_ast (n := 2048) (K := 32) S X5 (Nat.le_of_ble_eq_true rfl) rfl (fun _ _ => rfl) (ix_of r16 rfl) dX4_measureFromEnd_20 (fun t20 H lc M21 X22 => ?_)
  have I23 := Inv_mu q7 M21 (R_any v17)
  have F24 : Fr [] [49, 50] τ t20 := Fr_cell F9 M21 (by decide)
  refine r_aload_n S dX4_measureFromEnd_21 rfl (lv_at hl 1 rfl) ?_
  refine r_get (K := 28) (v := .ref (G.2.2.2.1 50)) S X22 (Nat.le_of_ble_eq_true rfl) rfl lk4_25_4 (fun _ => ⟨_, rfl, rfl⟩) dX4_measureFromEnd_22 ?_
  refine r_iconst S dX4_measureFromEnd_25 (by decide) (fun v25 z26 => ?_)
  have r27 := R_eq z26
  refine r_iload_n S dX4_measureFromEnd_26 rfl (lv_at hl 0 rfl) ?_
  refine r_ast (n := 2048) (K := 33) S X22 (Nat.le_of_ble_eq_true rfl) rfl (fun _ _ => rfl) (ix_of r27 rfl) dX4_measureFromEnd_27 (fun t28 H lc M29 X30 => ?_)
  have I31 := Inv_mu I23 M29 (show Rg (kd 50) _ v13 from (R_of (lo := 0) (hi := 2047) r16 rfl))
  have F32 : Fr [] [49, 50] τ t28 := Fr_cell F24 M29 (by decide)
  refine r_iconst S dX4_measureFromEnd_28 (by decide) (fun v33 z34 => ?_)
  have r35 := R_eq z34
  refine r_istore (lv' := [(4, .int v33), (3, .int v13), (0, .ref (G.2.2.2.1 45)), (1, .int a0), (2, .int a1)]) S dX4_measureFromEnd_29 hl (by decide) rfl (fun ls hl => ?_)
  refine r_iconst S dX4_measureFromEnd_31 (by decide) (fun v36 z37 => ?_)
  have r38 := R_eq z37
  refine r_istore (lv' := [(5, .int v36), (4, .int v33), (3, .int v13), (0, .ref (G.2.2.2.1 45)), (1, .int a0), (2, .int a1)]) S dX4_measureFromEnd_32 hl (by decide) rfl (fun ls hl => ?_)
  have L1520 : ∀ (n : Nat) (t1516 : Tau) (H : Heap) (lc : List Loc) (ls : Array Slot) (i1512 : Int32) (i1514 : Int32), Xd G s H lc t1516 → Inv t1516 → Fr [] [49, 50] τ t1516 → R (0) (2048) i1512 → R (0) (2048) i1514 → lv_has ls 6 [(0, .ref (G.2.2.2.1 45)), (1, .int a0), (2, .int a1), (4, .int i1512), (5, .int i1514)] → (2048 - i1514.toInt).toNat < n → W p l e (Rm 1 28) s m ([.ref (G.2.2.2.1 45), .int a0, .int a1] : List Value).toArray below meth c H lc 0 0 (MQ below (va_Qi (po_X4_measureFromEnd τ  a0 a1  ) (Bs G) G.2.2.2.2) ([.ref (G.2.2.2.1 45), .int a0, .int a1] : List Value).toArray s 0 0 G.2.2.2.2) (F0 m 34 ls []) := by
    intro n
    induction n with
    | zero => intros; omega
    | succ n ih1521 =>
      intro t1516 H lc ls i1512 i1514 X1519 I1517 F1518 r1513 r1515 hl hm
      refine r_iload S dX4_measureFromEnd_34 (lv_at hl 4 rfl) ?_
      refine r_iload S dX4_measureFromEnd_36 (lv_at hl 3 rfl) ?_
      refine r_icmp_ge (tgt := 73) S dX4_measureFromEnd_38 (by decide) (fun c1522 => ?_) (fun c1522 => ?_)
      ·
        refine r_aload_n S dX4_measureFromEnd_73 rfl (lv_at hl 0 rfl) ?_
        refine r_get (K := 28) (v := .ref (G.2.2.2.1 49)) S X1519 (Nat.le_of_ble_eq_true rfl) rfl lk4_22_4 (fun _ => ⟨_, rfl, rfl⟩) dX4_measureFromEnd_74 ?_
        refine r_iload_n S dX4_measureFromEnd_77 rfl (lv_at hl 2 rfl) ?_
        refine r_aldn (n := 2048) (K := 32) S X1519 (Nat.le_of_ble_eq_true rfl) rfl (fun _ => rfl) (ix_of h_a1 rfl) dX4_measureFromEnd_78 (fun v1523 z1524 => ?_)
        have r1526 := R_any v1523
        exact r_ret S hr hlk X1519 ⟨I1517, F1518⟩ rfl dX4_measureFromEnd_79
      ·
        have r1527 : R (0) (2047) i1514 := ⟨by omega, by omega⟩
        have r1528 : R (1) (2048) i1512 := ⟨by omega, by omega⟩
        refine r_aload_n S dX4_measureFromEnd_41 rfl (lv_at hl 0 rfl) ?_
        refine r_get (K := 28) (v := .ref (G.2.2.2.1 49)) S X1519 (Nat.le_of_ble_eq_true rfl) rfl lk4_22_4 (fun _ => ⟨_, rfl, rfl⟩) dX4_measureFromEnd_42 ?_
        refine r_iload_n S dX4_measureFromEnd_45 rfl (lv_at hl 2 rfl) ?_
        refine r_aldn (n := 2048) (K := 32) S X1519 (Nat.le_of_ble_eq_true rfl) rfl (fun _ => rfl) (ix_of h_a1 rfl) dX4_measureFromEnd_46 (fun v1529 z1530 => ?_)
        have r1532 := R_any v1529
        refine r_iconst S dX4_measureFromEnd_47 (by decide) (fun v1533 z1534 => ?_)
        have r1535 := R_eq z1534
        refine r_icmp_ne (tgt := 73) S dX4_measureFromEnd_48 (by decide) (fun c1536 => ?_) (fun c1536 => ?_)
        ·
          refine r_aload_n S dX4_measureFromEnd_73 rfl (lv_at hl 0 rfl) ?_
          refine r_get (K := 28) (v := .ref (G.2.2.2.1 49)) S X1519 (Nat.le_of_ble_eq_true rfl) rfl lk4_22_4 (fun _ => ⟨_, rfl, rfl⟩) dX4_measureFromEnd_74 ?_
          refine r_iload_n S dX4_measureFromEnd_77 rfl (lv_at hl 2 rfl) ?_
          refine r_aldn (n := 2048) (K := 32) S X1519 (Nat.le_of_ble_eq_true rfl) rfl (fun _ => rfl) (ix_of h_a1 rfl) dX4_measureFromEnd_78 (fun v1537 z1538 => ?_)
          have r1540 := R_any v1537
          exact r_ret S hr hlk X1519 ⟨I1517, F1518⟩ rfl dX4_measureFromEnd_79
        ·
          have r1541 : R (-1) (-1) v1529 := ⟨by omega, by omega⟩
          refine r_aload_n S dX4_measureFromEnd_51 rfl (lv_at hl 0 rfl) ?_
          refine r_aload_n S dX4_measureFromEnd_52 rfl (lv_at hl 0 rfl) ?_
          refine r_get (K := 28) (v := .ref (G.2.2.2.1 50)) S X1519 (Nat.le_of_ble_eq_true rfl) rfl lk4_25_4 (fun _ => ⟨_, rfl, rfl⟩) dX4_measureFromEnd_53 ?_
          refine r_iload S dX4_measureFromEnd_56 (lv_at hl 4 rfl) ?_
          refine r_aldn (n := 2048) (K := 33) S X1519 (Nat.le_of_ble_eq_true rfl) rfl (fun _ => rfl) (ix_of r1527 rfl) dX4_measureFromEnd_58 (fun v1542 z1543 => ?_)
          have r1544 : R (0) (2047) v1542 := rd I1517 rfl z1543
          refine r_iload_n S dX4_measureFromEnd_59 rfl (lv_at hl 1 rfl) ?_
          refine r_iload S dX4_measureFromEnd_60 (lv_at hl 3 rfl) ?_
          refine r_ki (q_V (As := [.int v1542, .int a0, .int i1512]) (rest := []) (K := 28) (ci := 4) S X1519 (c_X4_spread l G t1516 I1517 v1542 a0 i1512 r1544 h_a0 (R_of (lo := 0) (hi := 2048) r1528 rfl)) ck4_107 (Nat.le_of_ble_eq_true rfl) rfl (fun _ => ⟨_, rfl⟩) ⟨_, _, rfl⟩ ⟨Nat.le_of_ble_eq_true rfl, Nat.le_of_ble_eq_true rfl⟩ rfl hl.1 rfl (Nat.le_of_ble_eq_true rfl) dX4_measureFromEnd_62 ⟨Nat.le_refl 0, Nat.le_refl 0⟩) X1519 (fun v1548 t1547 H lc q1545 X1546 => ?_)
          unfold po_X4_spread at q1545
          obtain ⟨q1549, q1550, q1551⟩ := q1545
          have F1552 : Fr [] [49, 50] τ t1547 := Fr_call F1518 q1550 (by decide)
          refine r_istore (lv' := [(4, .int v1548), (0, .ref (G.2.2.2.1 45)), (1, .int a0), (2, .int a1), (5, .int i1514)]) S dX4_measureFromEnd_65 hl (by decide) rfl (fun ls hl => ?_)
          refine r_iinc (k := 4) S dX4_measureFromEnd_67 hl rfl (by decide) (by decide) (fun v1553 d1554 ls z1555 z1556 hl => ?_)
          obtain ⟨e1557, r1558⟩ := i_add (lo := 1) (hi := 2048) z1555 r1527 (R_eq z1556) rfl
          have hl : lv_has ls 6 [(5, .int v1553), (4, .int v1548), (0, .ref (G.2.2.2.1 45)), (1, .int a0), (2, .int a1)] := hl
          refine r_goto (tgt := 34) S dX4_measureFromEnd_70 (by decide) ?_
          exact ih1521 t1547 _ _ _ v1548 v1553 X1546 q1549 F1552 q1551 (R_of r1558 rfl) (lv_sub hl [2, 3, 4, 1, 0] rfl) (by omega)
  exact L1520 _ t28 _ _ _ v33 v36 X30 I31 F32 (R_of r35 rfl) (R_of r38 rfl) (lv_sub hl [3, 4, 5, 1, 0] rfl) (Nat.lt_succ_self _)
def po_X4_fewestTrips (τ : Tau)  (a1 : Int32)   (r : Int32) (u : Tau) : Prop := Inv u ∧ Fr [] [46, 47, 48, 49, 50] τ u
set_option maxHeartbeats 4000000 in
set_option maxRecDepth 100000 in
theorem c_X4_fewestTrips (l : Launch) (G : Gx) (τ : Tau) (hI : Inv τ) (a1 : Int32) (h_a1 : R (0) (8) a1) : Ci l G yX4_fewestTrips cX4_fewestTrips 4 (some .int) 5 125 [.ref (G.2.2.2.1 45), .ref (G.2.2.2.1 22), .int a1] τ (po_X4_fewestTrips τ  a1  ) := by
  unfold Ci
  refine C_of (own := RX4) (by decide) rfl (Nat.le_of_ble_eq_true rfl) ?_
  intro p e s m below meth c ls S hr hlk X hl
  have hl : lv_has ls 4 [(0, .ref (G.2.2.2.1 45)), (1, .ref (G.2.2.2.1 22)), (2, .int a1)] := hl
  refine r_aload_n S dX4_fewestTrips_0 rfl (lv_at hl 1 rfl) ?_
  refine r_get (K := 22) (v := .ref (G.2.2.2.1 23)) S X (Nat.le_of_ble_eq_true rfl) rfl lk4_28_8 (fun _ => ⟨_, rfl, rfl⟩) dX4_fewestTrips_1 ?_
  refine r_ki (q_V (As := []) (rest := []) (K := 4) (ci := 2) S X (c_X2_everyone l G τ hI 23 (Nat.le_of_ble_eq_true rfl) rfl) ck4_65 (Nat.le_of_ble_eq_true rfl) rfl (fun _ => ⟨_, rfl⟩) ⟨_, _, rfl⟩ ⟨Nat.le_of_ble_eq_true rfl, Nat.le_of_ble_eq_true rfl⟩ rfl hl.1 rfl (Nat.le_of_ble_eq_true rfl) dX4_fewestTrips_4 ⟨Nat.le_refl 0, Nat.le_refl 0⟩) X (fun v4 t3 H lc q1 X2 => ?_)
  unfold po_X2_everyone at q1
  obtain ⟨q5, q6⟩ := q1
  rw [q5] at X2
  refine r_istore_n (lv' := [(3, .int v4), (0, .ref (G.2.2.2.1 45)), (1, .ref (G.2.2.2.1 22)), (2, .int a1)]) S dX4_fewestTrips_7 rfl hl (by decide) rfl (fun ls hl => ?_)
  refine r_aload_n S dX4_fewestTrips_8 rfl (lv_at hl 2 rfl) ?_
  refine r_get (K := 22) (v := .ref (G.2.2.2.1 30)) S X2 (Nat.le_of_ble_eq_true rfl) rfl lk4_69_8 (fun _ => ⟨_, rfl, rfl⟩) dX4_fewestTrips_9 ?_
  refine r_getn (K := 23) S X2 (Nat.le_of_ble_eq_true rfl) rfl lk4_73_3 (fun _ => ⟨_, rfl, rfl⟩) dX4_fewestTrips_12 (fun v7 z8 => ?_)
  have r9 : R (0) (1023) v7 := rd hI rfl z8
  refine r_iload_n S dX4_fewestTrips_15 rfl (lv_at hl 0 rfl) ?_
  refine r_icmp_ne (tgt := 21) S dX4_fewestTrips_16 (by decide) (fun c10 => ?_) (fun c10 => ?_)
  ·
    refine r_aload_n S dX4_fewestTrips_21 rfl (lv_at hl 1 rfl) ?_
    refine r_aload_n S dX4_fewestTrips_22 rfl (lv_at hl 2 rfl) ?_
    refine r_iload_n S dX4_fewestTrips_23 rfl (lv_at hl 3 rfl) ?_
    refine r_kv (q_V (As := [.ref (G.2.2.2.1 22), .int a1]) (rest := []) (K := 28) (ci := 4) S X2 (c_X4_load l G τ hI a1 h_a1) ck4_78 (Nat.le_of_ble_eq_true rfl) rfl (fun _ => ⟨_, rfl⟩) ⟨_, _, rfl⟩ ⟨Nat.le_of_ble_eq_true rfl, Nat.le_of_ble_eq_true rfl⟩ rfl hl.1 rfl (Nat.le_of_ble_eq_true rfl) dX4_fewestTrips_24 ⟨Nat.le_refl 0, Nat.le_refl 0⟩) X2 (fun t13 H lc q11 X12 => ?_)
    unfold po_X4_load at q11
    obtain ⟨q14, q15⟩ := q11
    have F16 : Fr [] [46, 47, 48, 49, 50] τ t13 := Fr_call Fr_rfl q15 (by decide)
    refine r_aload_n S dX4_fewestTrips_27 rfl (lv_at hl 1 rfl) ?_
    refine r_iload_n S dX4_fewestTrips_28 rfl (lv_at hl 0 rfl) ?_
    refine r_aload_n S dX4_fewestTrips_29 rfl (lv_at hl 2 rfl) ?_
    refine r_ki (q_S (As := [.ref (G.2.2.2.1 22)]) (rest := [.int v4, .ref (G.2.2.2.1 45)]) S X12 (c_X4_stateOf l G t13 q14 ) ck4_82 ⟨Nat.le_of_ble_eq_true rfl, Nat.le_of_ble_eq_true rfl⟩ rfl hl.1 rfl (Nat.le_of_ble_eq_true rfl) dX4_fewestTrips_30 ⟨Nat.le_refl 0, Nat.le_refl 0⟩) X12 (fun v20 t19 H lc q17 X18 => ?_)
    unfold po_X4_stateOf at q17
    obtain ⟨q21, q22⟩ := q17
    rw [q21] at X18
    refine r_ki (q_V (As := [.int v4, .int v20]) (rest := []) (K := 28) (ci := 4) S X18 (c_X4_measureFromEnd l G t13 q14 v4 v20 q6 q22) ck4_86 (Nat.le_of_ble_eq_true rfl) rfl (fun _ => ⟨_, rfl⟩) ⟨_, _, rfl⟩ ⟨Nat.le_of_ble_eq_true rfl, Nat.le_of_ble_eq_true rfl⟩ rfl hl.1 rfl (Nat.le_of_ble_eq_true rfl) dX4_fewestTrips_33 ⟨Nat.le_refl 0, Nat.le_refl 0⟩) X18 (fun v26 t25 H lc q23 X24 => ?_)
    unfold po_X4_measureFromEnd at q23
    obtain ⟨q27, q28⟩ := q23
    have F29 : Fr [] [46, 47, 48, 49, 50] τ t25 := Fr_call F16 q28 (by decide)
    have r30 := R_any v26
    exact r_ret S hr hlk X24 ⟨q27, F29⟩ rfl dX4_fewestTrips_36
  ·
    refine r_iconst S dX4_fewestTrips_19 (by decide) (fun v31 z32 => ?_)
    have r33 := R_eq z32
    exact r_ret S hr hlk X2 ⟨hI, Fr_rfl⟩ rfl dX4_fewestTrips_20
def po_X4_firstOfTrips (τ : Tau)  (a1 : Int32)   (r : Int32) (u : Tau) : Prop := Inv u ∧ Fr [] [46, 47, 48, 49, 50] τ u
set_option maxHeartbeats 4000000 in
set_option maxRecDepth 100000 in
theorem c_X4_firstOfTrips (l : Launch) (G : Gx) (τ : Tau) (hI : Inv τ) (a1 : Int32) (h_a1 : R (0) (8) a1) : Ci l G yX4_firstOfTrips cX4_firstOfTrips 7 (some .int) 6 148 [.ref (G.2.2.2.1 45), .ref (G.2.2.2.1 22), .int a1] τ (po_X4_firstOfTrips τ  a1  ) := by
  unfold Ci
  refine C_of (own := RX4) (by decide) rfl (Nat.le_of_ble_eq_true rfl) ?_
  intro p e s m below meth c ls S hr hlk X hl
  have hl : lv_has ls 7 [(0, .ref (G.2.2.2.1 45)), (1, .ref (G.2.2.2.1 22)), (2, .int a1)] := hl
  refine r_aload_n S dX4_firstOfTrips_0 rfl (lv_at hl 0 rfl) ?_
  refine r_aload_n S dX4_firstOfTrips_1 rfl (lv_at hl 1 rfl) ?_
  refine r_iload_n S dX4_firstOfTrips_2 rfl (lv_at hl 2 rfl) ?_
  refine r_ki (q_V (As := [.ref (G.2.2.2.1 22), .int a1]) (rest := []) (K := 28) (ci := 4) S X (c_X4_fewestTrips l G τ hI a1 h_a1) ck4_89 (Nat.le_of_ble_eq_true rfl) rfl (fun _ => ⟨_, rfl⟩) ⟨_, _, rfl⟩ ⟨Nat.le_of_ble_eq_true rfl, Nat.le_of_ble_eq_true rfl⟩ rfl hl.1 rfl (Nat.le_of_ble_eq_true rfl) dX4_firstOfTrips_3 ⟨Nat.le_refl 0, Nat.le_refl 0⟩) X (fun v4 t3 H lc q1 X2 => ?_)
  unfold po_X4_fewestTrips at q1
  obtain ⟨q5, q6⟩ := q1
  have F7 : Fr [] [46, 47, 48, 49, 50] τ t3 := Fr_call Fr_rfl q6 (by decide)
  have r8 := R_any v4
  refine r_istore_n (lv' := [(3, .int v4), (0, .ref (G.2.2.2.1 45)), (1, .ref (G.2.2.2.1 22)), (2, .int a1)]) S dX4_firstOfTrips_6 rfl hl (by decide) rfl (fun ls hl => ?_)
  refine r_iload_n S dX4_firstOfTrips_7 rfl (lv_at hl 0 rfl) ?_
  refine r_if_gt (tgt := 13) S dX4_firstOfTrips_8 (by decide) (fun c9 => ?_) (fun c9 => ?_)
  ·
    have r10 : R (1) (2147483647) v4 := ⟨by omega, by omega⟩
    refine r_aload_n S dX4_firstOfTrips_13 rfl (lv_at hl 2 rfl) ?_
    refine r_ki (q_V (As := []) (rest := []) (K := 22) (ci := 8) S X2 (c_X10_here l G t3 q5 ) ck4_92 (Nat.le_of_ble_eq_true rfl) rfl (fun _ => ⟨_, rfl⟩) ⟨_, _, rfl⟩ ⟨Nat.le_of_ble_eq_true rfl, Nat.le_of_ble_eq_true rfl⟩ rfl hl.1 rfl (Nat.le_of_ble_eq_true rfl) dX4_firstOfTrips_14 ⟨Nat.le_refl 0, Nat.le_refl 0⟩) X2 (fun v14 t13 H lc q11 X12 => ?_)
    unfold po_X10_here at q11
    obtain ⟨q15, q16⟩ := q11
    rw [q15] at X12
    refine r_istore (lv' := [(4, .int v14), (3, .int v4), (0, .ref (G.2.2.2.1 45)), (1, .ref (G.2.2.2.1 22)), (2, .int a1)]) S dX4_firstOfTrips_17 hl (by decide) rfl (fun ls hl => ?_)
    refine r_aload_n S dX4_firstOfTrips_19 rfl (lv_at hl 3 rfl) ?_
    refine r_ki (q_S (As := [.ref (G.2.2.2.1 22)]) (rest := []) S X12 (c_X4_stateOf l G t3 q5 ) ck4_82 ⟨Nat.le_of_ble_eq_true rfl, Nat.le_of_ble_eq_true rfl⟩ rfl hl.1 rfl (Nat.le_of_ble_eq_true rfl) dX4_firstOfTrips_20 ⟨Nat.le_refl 0, Nat.le_refl 0⟩) X12 (fun v20 t19 H lc q17 X18 => ?_)
    unfold po_X4_stateOf at q17
    obtain ⟨q21, q22⟩ := q17
    rw [q21] at X18
    refine r_istore (lv' := [(5, .int v20), (4, .int v14), (3, .int v4), (0, .ref (G.2.2.2.1 45)), (1, .ref (G.2.2.2.1 22)), (2, .int a1)]) S dX4_firstOfTrips_23 hl (by decide) rfl (fun ls hl => ?_)
    refine r_iconst S dX4_firstOfTrips_25 (by decide) (fun v23 z24 => ?_)
    have r25 := R_eq z24
    refine r_istore (lv' := [(6, .int v23), (5, .int v20), (4, .int v14), (3, .int v4), (0, .ref (G.2.2.2.1 45)), (1, .ref (G.2.2.2.1 22)), (2, .int a1)]) S dX4_firstOfTrips_26 hl (by decide) rfl (fun ls hl => ?_)
    have L1712 : ∀ (n : Nat) (H : Heap) (lc : List Loc) (ls : Array Slot) (i1709 : Int32), Xd G s H lc t3 → R (1) (1024) i1709 → lv_has ls 7 [(0, .ref (G.2.2.2.1 45)), (3, .int v4), (4, .int v14), (5, .int v20), (6, .int i1709)] → (1024 - i1709.toInt).toNat < n → W p l e (Rm 6 148) s m ([.ref (G.2.2.2.1 45), .ref (G.2.2.2.1 22), .int a1] : List Value).toArray below meth c H lc 0 0 (MQ below (va_Qi (po_X4_firstOfTrips τ  a1  ) (Bs G) G.2.2.2.2) ([.ref (G.2.2.2.1 45), .ref (G.2.2.2.1 22), .int a1] : List Value).toArray s 0 0 G.2.2.2.2) (F0 m 28 ls []) := by
      intro n
      induction n with
      | zero => intros; omega
      | succ n ih1713 =>
        intro H lc ls i1709 X1711 r1710 hl hm
        refine r_iload S dX4_firstOfTrips_28 (lv_at hl 4 rfl) ?_
        refine r_iload S dX4_firstOfTrips_30 (lv_at hl 2 rfl) ?_
        refine r_icmp_gt (tgt := 75) S dX4_firstOfTrips_32 (by decide) (fun c1714 => ?_) (fun c1714 => ?_)
        ·
          refine r_iconst S dX4_firstOfTrips_75 (by decide) (fun v1715 z1716 => ?_)
          have r1717 := R_eq z1716
          exact r_ret S hr hlk X1711 ⟨q5, F7⟩ rfl dX4_firstOfTrips_76
        ·
          have r1718 : R (1) (1023) i1709 := ⟨by omega, by omega⟩
          have r1719 : R (1) (1023) v14 := ⟨by omega, by omega⟩
          refine r_aload_n S dX4_firstOfTrips_35 rfl (lv_at hl 0 rfl) ?_
          refine r_iload S dX4_firstOfTrips_36 (lv_at hl 4 rfl) ?_
          refine r_iload S dX4_firstOfTrips_38 (lv_at hl 2 rfl) ?_
          refine r_ki (q_V (As := [.int i1709, .int v14]) (rest := []) (K := 28) (ci := 4) S X1711 (c_X4_isCrew l G t3 q5 i1709 v14 (R_of (lo := 0) (hi := 1023) r1718 rfl) (R_of (lo := 0) (hi := 1023) r1719 rfl)) ck4_95 (Nat.le_of_ble_eq_true rfl) rfl (fun _ => ⟨_, rfl⟩) ⟨_, _, rfl⟩ ⟨Nat.le_of_ble_eq_true rfl, Nat.le_of_ble_eq_true rfl⟩ rfl hl.1 rfl (Nat.le_of_ble_eq_true rfl) dX4_firstOfTrips_40 ⟨Nat.le_refl 0, Nat.le_refl 0⟩) X1711 (fun v1723 t1722 H lc q1720 X1721 => ?_)
          unfold po_X4_isCrew at q1720
          obtain ⟨q1724, q1725⟩ := q1720
          rw [q1724] at X1721
          refine r_if_eq (tgt := 69) S dX4_firstOfTrips_43 (by decide) (fun c1726 => ?_) (fun c1726 => ?_)
          ·
            have r1727 : R (0) (0) v1723 := ⟨by omega, by omega⟩
            refine r_iinc (k := 4) S dX4_firstOfTrips_69 hl rfl (by decide) (by decide) (fun v1728 d1729 ls z1730 z1731 hl => ?_)
            obtain ⟨e1732, r1733⟩ := i_add (lo := 2) (hi := 1024) z1730 r1718 (R_eq z1731) rfl
            have hl : lv_has ls 7 [(6, .int v1728), (0, .ref (G.2.2.2.1 45)), (3, .int v4), (4, .int v14), (5, .int v20)] := hl
            refine r_goto (tgt := 28) S dX4_firstOfTrips_72 (by decide) ?_
            exact ih1713 _ _ _ v1728 X1721 (R_of r1733 rfl) (lv_sub hl [1, 2, 3, 4, 0] rfl) (by omega)
          ·
            have r1734 : R (1) (1) v1723 := ⟨by omega, by omega⟩
            refine r_aload_n S dX4_firstOfTrips_46 rfl (lv_at hl 0 rfl) ?_
            refine r_get (K := 28) (v := .ref (G.2.2.2.1 49)) S X1721 (Nat.le_of_ble_eq_true rfl) rfl lk4_22_4 (fun _ => ⟨_, rfl, rfl⟩) dX4_firstOfTrips_47 ?_
            refine r_iload S dX4_firstOfTrips_50 (lv_at hl 3 rfl) ?_
            refine r_iload S dX4_firstOfTrips_52 (lv_at hl 4 rfl) ?_
            refine r_ixor S dX4_firstOfTrips_54 (fun v1735 z1736 => ?_)
            have r1738 : R (0) (2047) v1735 := i_xor 11 z1736 q22 r1718 rfl
            refine r_sipush S dX4_firstOfTrips_55 (by decide) (fun v1739 z1740 => ?_)
            have r1741 := R_eq z1740
            refine r_ixor S dX4_firstOfTrips_58 (fun v1742 z1743 => ?_)
            have r1745 : R (0) (2047) v1742 := i_xor 11 z1743 r1738 r1741 rfl
            refine r_aldn (n := 2048) (K := 32) S X1721 (Nat.le_of_ble_eq_true rfl) rfl (fun _ => rfl) (ix_of r1745 rfl) dX4_firstOfTrips_59 (fun v1746 z1747 => ?_)
            have r1749 := R_any v1746
            refine r_iload_n S dX4_firstOfTrips_60 rfl (lv_at hl 1 rfl) ?_
            refine r_iconst S dX4_firstOfTrips_61 (by decide) (fun v1750 z1751 => ?_)
            have r1752 := R_eq z1751
            refine r_isub S dX4_firstOfTrips_62 (fun v1753 z1754 => ?_)
            obtain ⟨e1755, r1756⟩ := i_sub (lo := 0) (hi := 2147483646) z1754 r10 r1752 rfl
            refine r_icmp_ne (tgt := 69) S dX4_firstOfTrips_63 (by decide) (fun c1757 => ?_) (fun c1757 => ?_)
            ·
              refine r_iinc (k := 4) S dX4_firstOfTrips_69 hl rfl (by decide) (by decide) (fun v1758 d1759 ls z1760 z1761 hl => ?_)
              obtain ⟨e1762, r1763⟩ := i_add (lo := 2) (hi := 1024) z1760 r1718 (R_eq z1761) rfl
              have hl : lv_has ls 7 [(6, .int v1758), (0, .ref (G.2.2.2.1 45)), (3, .int v4), (4, .int v14), (5, .int v20)] := hl
              refine r_goto (tgt := 28) S dX4_firstOfTrips_72 (by decide) ?_
              exact ih1713 _ _ _ v1758 X1721 (R_of r1763 rfl) (lv_sub hl [1, 2, 3, 4, 0] rfl) (by omega)
            ·
              have r1764 : R (0) (2147483646) v1746 := ⟨by omega, by omega⟩
              refine r_iload S dX4_firstOfTrips_66 (lv_at hl 4 rfl) ?_
              exact r_ret S hr hlk X1721 ⟨q5, F7⟩ rfl dX4_firstOfTrips_68
    exact L1712 _ _ _ _ v23 X18 (R_of r25 rfl) (lv_sub hl [4, 3, 2, 1, 0] rfl) (Nat.lt_succ_self _)
  ·
    have r1765 : R (-2147483648) (0) v4 := ⟨by omega, by omega⟩
    refine r_iload_n S dX4_firstOfTrips_11 rfl (lv_at hl 0 rfl) ?_
    exact r_ret S hr hlk X2 ⟨q5, F7⟩ rfl dX4_firstOfTrips_12
def po_X4_canPair (τ : Tau)  (a1 a2 : Int32)   (r : Int32) (u : Tau) : Prop := u = τ ∧ R (0) (1) r
set_option maxHeartbeats 4000000 in
set_option maxRecDepth 100000 in
theorem c_X4_canPair (l : Launch) (G : Gx) (τ : Tau) (hI : Inv τ) (a1 : Int32) (a2 : Int32) (h_a1 : R (0) (9) a1) (h_a2 : R (0) (9) a2) : Ci l G yX4_canPair cX4_canPair 5 (some .boolean) 1 21 [.ref (G.2.2.2.1 45), .ref (G.2.2.2.1 22), .int a1, .int a2] τ (po_X4_canPair τ  a1 a2  ) := by
  unfold Ci
  refine C_of (own := RX4) (by decide) rfl (Nat.le_of_ble_eq_true rfl) ?_
  intro p e s m below meth c ls S hr hlk X hl
  have hl : lv_has ls 5 [(0, .ref (G.2.2.2.1 45)), (1, .ref (G.2.2.2.1 22)), (2, .int a1), (3, .int a2)] := hl
  refine r_iconst S dX4_canPair_0 (by decide) (fun v1 z2 => ?_)
  have r3 := R_eq z2
  refine r_iload_n S dX4_canPair_1 rfl (lv_at hl 2 rfl) ?_
  refine r_ishl S dX4_canPair_2 (fun v4 z5 => ?_)
  have r7 : R (1) (512) v4 := i_shl z5 r3 h_a1 rfl
  refine r_iconst S dX4_canPair_3 (by decide) (fun v8 z9 => ?_)
  have r10 := R_eq z9
  refine r_iload_n S dX4_canPair_4 rfl (lv_at hl 3 rfl) ?_
  refine r_ishl S dX4_canPair_5 (fun v11 z12 => ?_)
  have r14 : R (1) (512) v11 := i_shl z12 r10 h_a2 rfl
  refine r_ior S dX4_canPair_6 (fun v15 z16 => ?_)
  have r18 : R (0) (1023) v15 := i_or 10 z16 r7 r14 rfl
  refine r_istore (lv' := [(4, .int v15), (0, .ref (G.2.2.2.1 45)), (1, .ref (G.2.2.2.1 22)), (2, .int a1), (3, .int a2)]) S dX4_canPair_7 hl (by decide) rfl (fun ls hl => ?_)
  refine r_aload_n S dX4_canPair_9 rfl (lv_at hl 1 rfl) ?_
  refine r_get (K := 28) (v := .ref (G.2.2.2.1 47)) S X (Nat.le_of_ble_eq_true rfl) rfl lk4_15_4 (fun _ => ⟨_, rfl, rfl⟩) dX4_canPair_10 ?_
  refine r_iload S dX4_canPair_13 (lv_at hl 0 rfl) ?_
  refine r_zald (n := 1024) (K := 30) S X (Nat.le_of_ble_eq_true rfl) rfl (fun _ => rfl) (ix_of r18 rfl) dX4_canPair_15 (fun v19 z20 => ?_)
  have r21 : R (0) (1) v19 := rd hI rfl z20
  refine r_if_eq (tgt := 37) S dX4_canPair_16 (by decide) (fun c22 => ?_) (fun c22 => ?_)
  ·
    have r23 : R (0) (0) v19 := ⟨by omega, by omega⟩
    refine r_iconst S dX4_canPair_37 (by decide) (fun v24 z25 => ?_)
    have r26 := R_eq z25
    exact r_ret S hr hlk X ⟨rfl, (R_of r26 rfl)⟩ (nr_bool (R_of (lo := 0) (hi := 1) r26 rfl)) dX4_canPair_38
  ·
    have r27 : R (1) (1) v19 := ⟨by omega, by omega⟩
    refine r_aload_n S dX4_canPair_19 rfl (lv_at hl 2 rfl) ?_
    refine r_aload_n S dX4_canPair_20 rfl (lv_at hl 1 rfl) ?_
    refine r_get (K := 28) (v := .ref (G.2.2.2.1 46)) S X (Nat.le_of_ble_eq_true rfl) rfl lk4_9_4 (fun _ => ⟨_, rfl, rfl⟩) dX4_canPair_21 ?_
    refine r_iload S dX4_canPair_24 (lv_at hl 0 rfl) ?_
    refine r_aldn (n := 1024) (K := 29) S X (Nat.le_of_ble_eq_true rfl) rfl (fun _ => rfl) (ix_of r18 rfl) dX4_canPair_26 (fun v28 z29 => ?_)
    have r31 := R_any v28
    refine r_ki (q_V (As := [.int v28]) (rest := []) (K := 22) (ci := 8) S X (c_X10_isLevel l G τ hI v28 r31) ck4_48 (Nat.le_of_ble_eq_true rfl) rfl (fun _ => ⟨_, rfl⟩) ⟨_, _, rfl⟩ ⟨Nat.le_of_ble_eq_true rfl, Nat.le_of_ble_eq_true rfl⟩ rfl hl.1 rfl (Nat.le_of_ble_eq_true rfl) dX4_canPair_27 ⟨Nat.le_refl 0, Nat.le_refl 0⟩) X (fun v35 t34 H lc q32 X33 => ?_)
    unfold po_X10_isLevel at q32
    obtain ⟨q36, q37⟩ := q32
    rw [q36] at X33
    refine r_if_eq (tgt := 37) S dX4_canPair_30 (by decide) (fun c38 => ?_) (fun c38 => ?_)
    ·
      have r39 : R (0) (0) v35 := ⟨by omega, by omega⟩
      refine r_iconst S dX4_canPair_37 (by decide) (fun v40 z41 => ?_)
      have r42 := R_eq z41
      exact r_ret S hr hlk X33 ⟨rfl, (R_of r42 rfl)⟩ (nr_bool (R_of (lo := 0) (hi := 1) r42 rfl)) dX4_canPair_38
    ·
      have r43 : R (1) (1) v35 := ⟨by omega, by omega⟩
      refine r_iconst S dX4_canPair_33 (by decide) (fun v44 z45 => ?_)
      have r46 := R_eq z45
      refine r_goto (tgt := 38) S dX4_canPair_34 (by decide) ?_
      exact r_ret S hr hlk X33 ⟨rfl, (R_of r46 rfl)⟩ (nr_bool (R_of (lo := 0) (hi := 1) r46 rfl)) dX4_canPair_38
def po_X4_countPairs (τ : Tau)     (u : Tau) : Prop := Inv u ∧ Fr [] [49] τ u
set_option maxHeartbeats 4000000 in
set_option maxRecDepth 100000 in
theorem c_X4_countPairs (l : Launch) (G : Gx) (τ : Tau) (hI : Inv τ) : Cv l G yX4_countPairs cX4_countPairs 8 2 45 [.ref (G.2.2.2.1 45), .ref (G.2.2.2.1 22), .ref (G.2.2.2.1 49)] τ (po_X4_countPairs τ    ) := by
  unfold Cv
  refine C_of (own := RX4) (by decide) rfl (Nat.le_of_ble_eq_true rfl) ?_
  intro p e s m below meth c ls S hr hlk X hl
  have hl : lv_has ls 8 [(0, .ref (G.2.2.2.1 45)), (1, .ref (G.2.2.2.1 22)), (2, .ref (G.2.2.2.1 49))] := hl
  refine r_aload_n S dX4_countPairs_0 rfl (lv_at hl 2 rfl) ?_
  refine r_iconst S dX4_countPairs_1 (by decide) (fun v1 z2 => ?_)
  have r3 := R_eq z2
  refine r_iconst S dX4_countPairs_2 (by decide) (fun v4 z5 => ?_)
  have r6 := R_eq z5
  refine r_ast (n := 2048) (K := 32) S X (Nat.le_of_ble_eq_true rfl) rfl (fun _ _ => rfl) (ix_of r3 rfl) dX4_countPairs_3 (fun t7 H lc M8 X9 => ?_)
  have I10 := Inv_mu hI M8 (R_any v4)
  have F11 : Fr [] [49] τ t7 := Fr_cell Fr_rfl M8 (by decide)
  refine r_iconst S dX4_countPairs_4 (by decide) (fun v12 z13 => ?_)
  have r14 := R_eq z13
  refine r_istore_n (lv' := [(3, .int v12), (0, .ref (G.2.2.2.1 45)), (1, .ref (G.2.2.2.1 22)), (2, .ref (G.2.2.2.1 49))]) S dX4_countPairs_5 rfl hl (by decide) rfl (fun ls hl => ?_)
  have L50610 : ∀ (n : Nat) (t50606 : Tau) (H : Heap) (lc : List Loc) (ls : Array Slot) (i50604 : Int32), Xd G s H lc t50606 → Inv t50606 → Fr [] [49] τ t50606 → R (0) (10) i50604 → lv_has ls 8 [(0, .ref (G.2.2.2.1 45)), (1, .ref (G.2.2.2.1 22)), (2, .ref (G.2.2.2.1 49)), (3, .int i50604)] → (10 - i50604.toInt).toNat < n → W p l e (Rm 2 45) s m ([.ref (G.2.2.2.1 45), .ref (G.2.2.2.1 22), .ref (G.2.2.2.1 49)] : List Value).toArray below meth c H lc 0 0 (MQ below (va_Qv (po_X4_countPairs τ    ) (Bs G) G.2.2.2.2) ([.ref (G.2.2.2.1 45), .ref (G.2.2.2.1 22), .ref (G.2.2.2.1 49)] : List Value).toArray s 0 0 G.2.2.2.2) (F0 m 6 ls []) := by
    intro n
    induction n with
    | zero => intros; omega
    | succ n ih50611 =>
      intro t50606 H lc ls i50604 X50609 I50607 F50608 r50605 hl hm
      refine r_iload_n S dX4_countPairs_6 rfl (lv_at hl 3 rfl) ?_
      refine r_aload_n S dX4_countPairs_7 rfl (lv_at hl 1 rfl) ?_
      refine r_get (K := 22) (v := .ref (G.2.2.2.1 23)) S X50609 (Nat.le_of_ble_eq_true rfl) rfl lk4_28_8 (fun _ => ⟨_, rfl, rfl⟩) dX4_countPairs_8 ?_
      refine r_getn (K := 4) S X50609 (Nat.le_of_ble_eq_true rfl) rfl lk4_34_2 (fun _ => ⟨_, rfl, rfl⟩) dX4_countPairs_11 (fun v50612 z50613 => ?_)
      have r50614 : R (0) (10) v50612 := rd I50607 rfl z50613
      refine r_icmp_ge (tgt := 114) S dX4_countPairs_14 (by decide) (fun c50615 => ?_) (fun c50615 => ?_)
      ·
        exact r_vret S hr hlk X50609 ⟨I50607, F50608⟩ dX4_countPairs_114
      ·
        have r50616 : R (0) (9) i50604 := ⟨by omega, by omega⟩
        have r50617 : R (1) (10) v50612 := ⟨by omega, by omega⟩
        refine r_iconst S dX4_countPairs_17 (by decide) (fun v50618 z50619 => ?_)
        have r50620 := R_eq z50619
        refine r_iload_n S dX4_countPairs_18 rfl (lv_at hl 3 rfl) ?_
        refine r_ishl S dX4_countPairs_19 (fun v50621 z50622 => ?_)
        have r50624 : R (1) (512) v50621 := i_shl z50622 r50620 r50616 rfl
        refine r_istore (lv' := [(4, .int v50621), (0, .ref (G.2.2.2.1 45)), (1, .ref (G.2.2.2.1 22)), (2, .ref (G.2.2.2.1 49)), (3, .int i50604)]) S dX4_countPairs_20 hl (by decide) rfl (fun ls hl => ?_)
        refine r_iconst S dX4_countPairs_22 (by decide) (fun v50625 z50626 => ?_)
        have r50627 := R_eq z50626
        refine r_istore (lv' := [(5, .int v50625), (4, .int v50621), (0, .ref (G.2.2.2.1 45)), (1, .ref (G.2.2.2.1 22)), (2, .ref (G.2.2.2.1 49)), (3, .int i50604)]) S dX4_countPairs_23 hl (by decide) rfl (fun ls hl => ?_)
        have L65299 : ∀ (n : Nat) (t65294 : Tau) (H : Heap) (lc : List Loc) (ls : Array Slot) (i65292 : Int32), Xd G s H lc t65294 → Inv t65294 → Fr [] [49] τ t65294 → R (0) (512) i65292 → t65294 23 3 = v50612 → lv_has ls 8 [(0, .ref (G.2.2.2.1 45)), (1, .ref (G.2.2.2.1 22)), (2, .ref (G.2.2.2.1 49)), (3, .int i50604), (4, .int v50621), (5, .int i65292)] → (512 - i65292.toInt).toNat < n → W p l e (Rm 2 45) s m ([.ref (G.2.2.2.1 45), .ref (G.2.2.2.1 22), .ref (G.2.2.2.1 49)] : List Value).toArray below meth c H lc 0 0 (MQ below (va_Qv (po_X4_countPairs τ    ) (Bs G) G.2.2.2.2) ([.ref (G.2.2.2.1 45), .ref (G.2.2.2.1 22), .ref (G.2.2.2.1 49)] : List Value).toArray s 0 0 G.2.2.2.2) (F0 m 25 ls []) := by
          intro n
          induction n with
          | zero => intros; omega
          | succ n ih65300 =>
            intro t65294 H lc ls i65292 X65297 I65295 F65296 r65293 z65298 hl hm
            refine r_iload S dX4_countPairs_25 (lv_at hl 5 rfl) ?_
            refine r_iload S dX4_countPairs_27 (lv_at hl 4 rfl) ?_
            refine r_icmp_ge (tgt := 108) S dX4_countPairs_29 (by decide) (fun c65301 => ?_) (fun c65301 => ?_)
            ·
              have r65302 : R (1) (512) i65292 := ⟨by omega, by omega⟩
              refine r_iinc (k := 3) S dX4_countPairs_108 hl rfl (by decide) (by decide) (fun v65303 d65304 ls z65305 z65306 hl => ?_)
              obtain ⟨e65307, r65308⟩ := i_add (lo := 1) (hi := 10) z65305 r50616 (R_eq z65306) rfl
              have hl : lv_has ls 8 [(3, .int v65303), (0, .ref (G.2.2.2.1 45)), (1, .ref (G.2.2.2.1 22)), (2, .ref (G.2.2.2.1 49)), (4, .int v50621), (5, .int i65292)] := hl
              refine r_goto (tgt := 6) S dX4_countPairs_111 (by decide) ?_
              exact ih50611 t65294 _ _ _ v65303 X65297 I65295 F65296 (R_of r65308 rfl) (lv_sub hl [1, 2, 3, 0] rfl) (by omega)
            ·
              have r65309 : R (0) (511) i65292 := ⟨by omega, by omega⟩
              refine r_aload_n S dX4_countPairs_32 rfl (lv_at hl 2 rfl) ?_
              refine r_iload S dX4_countPairs_33 (lv_at hl 5 rfl) ?_
              refine r_aldn (n := 2048) (K := 32) S X65297 (Nat.le_of_ble_eq_true rfl) rfl (fun _ => rfl) (ix_of r65309 rfl) dX4_countPairs_35 (fun v65310 z65311 => ?_)
              have r65313 := R_any v65310
              refine r_istore (lv' := [(6, .int v65310), (0, .ref (G.2.2.2.1 45)), (1, .ref (G.2.2.2.1 22)), (2, .ref (G.2.2.2.1 49)), (3, .int i50604), (4, .int v50621), (5, .int i65292)]) S dX4_countPairs_36 hl (by decide) rfl (fun ls hl => ?_)
              refine r_iconst S dX4_countPairs_38 (by decide) (fun v65314 z65315 => ?_)
              have r65316 := R_eq z65315
              refine r_istore (lv' := [(7, .int v65314), (6, .int v65310), (0, .ref (G.2.2.2.1 45)), (1, .ref (G.2.2.2.1 22)), (2, .ref (G.2.2.2.1 49)), (3, .int i50604), (4, .int v50621), (5, .int i65292)]) S dX4_countPairs_39 hl (by decide) rfl (fun ls hl => ?_)
              have L65742 : ∀ (n : Nat) (H : Heap) (lc : List Loc) (ls : Array Slot) (i65737 : Int32) (i65739 : Int32), Xd G s H lc t65294 → R (-2147483648) (2147483647) i65737 → R (0) (9) i65739 → lv_has ls 8 [(0, .ref (G.2.2.2.1 45)), (1, .ref (G.2.2.2.1 22)), (2, .ref (G.2.2.2.1 49)), (3, .int i50604), (4, .int v50621), (5, .int i65292), (6, .int i65737), (7, .int i65739)] → (9 - i65739.toInt).toNat < n → W p l e (Rm 2 45) s m ([.ref (G.2.2.2.1 45), .ref (G.2.2.2.1 22), .ref (G.2.2.2.1 49)] : List Value).toArray below meth c H lc 0 0 (MQ below (va_Qv (po_X4_countPairs τ    ) (Bs G) G.2.2.2.2) ([.ref (G.2.2.2.1 45), .ref (G.2.2.2.1 22), .ref (G.2.2.2.1 49)] : List Value).toArray s 0 0 G.2.2.2.2) (F0 m 41 ls []) := by
                intro n
                induction n with
                | zero => intros; omega
                | succ n ih65743 =>
                  intro H lc ls i65737 i65739 X65741 r65738 r65740 hl hm
                  refine r_iload S dX4_countPairs_41 (lv_at hl 7 rfl) ?_
                  refine r_iload_n S dX4_countPairs_43 rfl (lv_at hl 3 rfl) ?_
                  refine r_icmp_ge (tgt := 93) S dX4_countPairs_44 (by decide) (fun c65744 => ?_) (fun c65744 => ?_)
                  ·
                    refine r_aload_n S dX4_countPairs_93 rfl (lv_at hl 2 rfl) ?_
                    refine r_iload S dX4_countPairs_94 (lv_at hl 4 rfl) ?_
                    refine r_iload S dX4_countPairs_96 (lv_at hl 5 rfl) ?_
                    refine r_ior S dX4_countPairs_98 (fun v65745 z65746 => ?_)
                    have r65748 : R (0) (1023) v65745 := i_or 10 z65746 r50624 r65309 rfl
                    refine r_iload S dX4_countPairs_99 (lv_at hl 6 rfl) ?_
                    refine r_ast (n := 2048) (K := 32) S X65741 (Nat.le_of_ble_eq_true rfl) rfl (fun _ _ => rfl) (ix_of r65748 rfl) dX4_countPairs_101 (fun t65749 H lc M65750 X65751 => ?_)
                    have I65752 := Inv_mu I65295 M65750 (R_any i65737)
                    have F65753 : Fr [] [49] τ t65749 := Fr_cell F65296 M65750 (by decide)
                    refine r_iinc (k := 5) S dX4_countPairs_102 hl rfl (by decide) (by decide) (fun v65754 d65755 ls z65756 z65757 hl => ?_)
                    obtain ⟨e65758, r65759⟩ := i_add (lo := 1) (hi := 512) z65756 r65309 (R_eq z65757) rfl
                    have hl : lv_has ls 8 [(5, .int v65754), (0, .ref (G.2.2.2.1 45)), (1, .ref (G.2.2.2.1 22)), (2, .ref (G.2.2.2.1 49)), (3, .int i50604), (4, .int v50621), (6, .int i65737), (7, .int i65739)] := hl
                    refine r_goto (tgt := 25) S dX4_countPairs_105 (by decide) ?_
                    exact ih65300 t65749 _ _ _ v65754 X65751 I65752 F65753 (R_of r65759 rfl) ((M65750.2 23 3 (Or.inl (by decide))).trans z65298) (lv_sub hl [1, 2, 3, 4, 5, 0] rfl) (by omega)
                  ·
                    have r65760 : R (0) (8) i65739 := ⟨by omega, by omega⟩
                    have r65761 : R (1) (9) i50604 := ⟨by omega, by omega⟩
                    refine r_iload S dX4_countPairs_47 (lv_at hl 5 rfl) ?_
                    refine r_iload S dX4_countPairs_49 (lv_at hl 7 rfl) ?_
                    refine r_ki (q_N (As := [.int i65292, .int i65739]) (rest := []) S X65741 (c_X11_bit l G t65294 I65295 i65292 i65739 (R_of (lo := -2147483648) (hi := 2147483647) r65309 rfl) (R_of (lo := -2147483648) (hi := 2147483647) r65760 rfl)) ck4_118 ⟨Nat.le_of_ble_eq_true rfl, Nat.le_of_ble_eq_true rfl⟩ rfl hl.1 rfl (Nat.le_of_ble_eq_true rfl) dX4_countPairs_51 ⟨Nat.le_refl 0, Nat.le_refl 0⟩) X65741 (fun v65765 t65764 H lc q65762 X65763 => ?_)
                    unfold po_X11_bit at q65762
                    obtain ⟨q65766, q65767⟩ := q65762
                    rw [q65766] at X65763
                    refine r_iconst S dX4_countPairs_54 (by decide) (fun v65768 z65769 => ?_)
                    have r65770 := R_eq z65769
                    refine r_icmp_ne (tgt := 87) S dX4_countPairs_55 (by decide) (fun c65771 => ?_) (fun c65771 => ?_)
                    ·
                      have r65772 : R (0) (0) v65765 := ⟨by omega, by omega⟩
                      refine r_iinc (k := 7) S dX4_countPairs_87 hl rfl (by decide) (by decide) (fun v65773 d65774 ls z65775 z65776 hl => ?_)
                      obtain ⟨e65777, r65778⟩ := i_add (lo := 1) (hi := 9) z65775 r65760 (R_eq z65776) rfl
                      have hl : lv_has ls 8 [(7, .int v65773), (0, .ref (G.2.2.2.1 45)), (1, .ref (G.2.2.2.1 22)), (2, .ref (G.2.2.2.1 49)), (3, .int i50604), (4, .int v50621), (5, .int i65292), (6, .int i65737)] := hl
                      refine r_goto (tgt := 41) S dX4_countPairs_90 (by decide) ?_
                      exact ih65743 _ _ _ i65737 v65773 X65763 r65738 (R_of r65778 rfl) (lv_sub hl [1, 2, 3, 4, 5, 6, 7, 0] rfl) (by omega)
                    ·
                      have r65779 : R (1) (1) v65765 := ⟨by omega, by omega⟩
                      refine r_aload_n S dX4_countPairs_58 rfl (lv_at hl 0 rfl) ?_
                      refine r_aload_n S dX4_countPairs_59 rfl (lv_at hl 1 rfl) ?_
                      refine r_iload S dX4_countPairs_60 (lv_at hl 7 rfl) ?_
                      refine r_iload_n S dX4_countPairs_62 rfl (lv_at hl 3 rfl) ?_
                      refine r_ki (q_V (As := [.ref (G.2.2.2.1 22), .int i65739, .int i50604]) (rest := []) (K := 28) (ci := 4) S X65763 (c_X4_canPair l G t65294 I65295 i65739 i50604 (R_of (lo := 0) (hi := 9) r65760 rfl) (R_of (lo := 0) (hi := 9) r65761 rfl)) ck4_125 (Nat.le_of_ble_eq_true rfl) rfl (fun _ => ⟨_, rfl⟩) ⟨_, _, rfl⟩ ⟨Nat.le_of_ble_eq_true rfl, Nat.le_of_ble_eq_true rfl⟩ rfl hl.1 rfl (Nat.le_of_ble_eq_true rfl) dX4_countPairs_63 ⟨Nat.le_refl 0, Nat.le_refl 0⟩) X65763 (fun v65783 t65782 H lc q65780 X65781 => ?_)
                      unfold po_X4_canPair at q65780
                      obtain ⟨q65784, q65785⟩ := q65780
                      rw [q65784] at X65781
                      refine r_if_eq (tgt := 87) S dX4_countPairs_66 (by decide) (fun c65786 => ?_) (fun c65786 => ?_)
                      ·
                        have r65787 : R (0) (0) v65783 := ⟨by omega, by omega⟩
                        refine r_iinc (k := 7) S dX4_countPairs_87 hl rfl (by decide) (by decide) (fun v65788 d65789 ls z65790 z65791 hl => ?_)
                        obtain ⟨e65792, r65793⟩ := i_add (lo := 1) (hi := 9) z65790 r65760 (R_eq z65791) rfl
                        have hl : lv_has ls 8 [(7, .int v65788), (0, .ref (G.2.2.2.1 45)), (1, .ref (G.2.2.2.1 22)), (2, .ref (G.2.2.2.1 49)), (3, .int i50604), (4, .int v50621), (5, .int i65292), (6, .int i65737)] := hl
                        refine r_goto (tgt := 41) S dX4_countPairs_90 (by decide) ?_
                        exact ih65743 _ _ _ i65737 v65788 X65781 r65738 (R_of r65793 rfl) (lv_sub hl [1, 2, 3, 4, 5, 6, 7, 0] rfl) (by omega)
                      ·
                        have r65794 : R (1) (1) v65783 := ⟨by omega, by omega⟩
                        refine r_iload S dX4_countPairs_69 (lv_at hl 6 rfl) ?_
                        refine r_iconst S dX4_countPairs_71 (by decide) (fun v65795 z65796 => ?_)
                        have r65797 := R_eq z65796
                        refine r_aload_n S dX4_countPairs_72 rfl (lv_at hl 2 rfl) ?_
                        refine r_iload S dX4_countPairs_73 (lv_at hl 5 rfl) ?_
                        refine r_iconst S dX4_countPairs_75 (by decide) (fun v65798 z65799 => ?_)
                        have r65800 := R_eq z65799
                        refine r_iload S dX4_countPairs_76 (lv_at hl 7 rfl) ?_
                        refine r_ishl S dX4_countPairs_78 (fun v65801 z65802 => ?_)
                        have r65804 : R (1) (256) v65801 := i_shl z65802 r65800 r65760 rfl
                        refine r_ixor S dX4_countPairs_79 (fun v65805 z65806 => ?_)
                        have r65808 : R (0) (511) v65805 := i_xor 9 z65806 r65309 r65804 rfl
                        refine r_aldn (n := 2048) (K := 32) S X65781 (Nat.le_of_ble_eq_true rfl) rfl (fun _ => rfl) (ix_of r65808 rfl) dX4_countPairs_80 (fun v65809 z65810 => ?_)
                        have r65812 := R_any v65809
                        refine r_iadd S dX4_countPairs_81 (fun v65813 z65814 => ?_)
                        have r65815 := R_any v65813
                        refine r_max S hl.1 kw24 kw25 kw5 cd_J9_max_7cf53 ⟨Nat.le_of_ble_eq_true rfl, Nat.le_of_ble_eq_true rfl⟩ ⟨Nat.le_refl 0, Nat.le_refl 0⟩ dX4_countPairs_82 (fun v65816 => ?_)
                        have r65817 := R_any v65816
                        refine r_istore (lv' := [(6, .int v65816), (0, .ref (G.2.2.2.1 45)), (1, .ref (G.2.2.2.1 22)), (2, .ref (G.2.2.2.1 49)), (3, .int i50604), (4, .int v50621), (5, .int i65292), (7, .int i65739)]) S dX4_countPairs_85 hl (by decide) rfl (fun ls hl => ?_)
                        refine r_iinc (k := 7) S dX4_countPairs_87 hl rfl (by decide) (by decide) (fun v65818 d65819 ls z65820 z65821 hl => ?_)
                        obtain ⟨e65822, r65823⟩ := i_add (lo := 1) (hi := 9) z65820 r65760 (R_eq z65821) rfl
                        have hl : lv_has ls 8 [(7, .int v65818), (6, .int v65816), (0, .ref (G.2.2.2.1 45)), (1, .ref (G.2.2.2.1 22)), (2, .ref (G.2.2.2.1 49)), (3, .int i50604), (4, .int v50621), (5, .int i65292)] := hl
                        refine r_goto (tgt := 41) S dX4_countPairs_90 (by decide) ?_
                        exact ih65743 _ _ _ v65816 v65818 X65781 r65817 (R_of r65823 rfl) (lv_sub hl [2, 3, 4, 5, 6, 7, 1, 0] rfl) (by omega)
              exact L65742 _ _ _ _ v65310 v65314 X65297 r65313 (R_of r65316 rfl) (lv_sub hl [2, 3, 4, 5, 6, 7, 1, 0] rfl) (Nat.lt_succ_self _)
        exact L65299 _ t50606 _ _ _ v50625 X50609 I50607 F50608 (R_of r50627 rfl) z50613 (lv_sub hl [2, 3, 4, 5, 1, 0] rfl) (Nat.lt_succ_self _)
  exact L50610 _ t7 _ _ _ v12 X9 I10 F11 (R_of r14 rfl) (lv_sub hl [1, 2, 3, 0] rfl) (Nat.lt_succ_self _)
def po_X4_firstMate (τ : Tau)  (a1 a2 : Int32)   (r : Int32) (u : Tau) : Prop := u = τ ∧ R (-1) (9) r
set_option maxHeartbeats 4000000 in
set_option maxRecDepth 100000 in
theorem c_X4_firstMate (l : Launch) (G : Gx) (τ : Tau) (hI : Inv τ) (a1 : Int32) (a2 : Int32) (h_a1 : R (0) (9) a1) (h_a2 : R (0) (1023) a2) : Ci l G yX4_firstMate cX4_firstMate 6 (some .int) 2 45 [.ref (G.2.2.2.1 45), .ref (G.2.2.2.1 22), .int a1, .int a2, .ref (G.2.2.2.1 49)] τ (po_X4_firstMate τ  a1 a2  ) := by
  unfold Ci
  refine C_of (own := RX4) (by decide) rfl (Nat.le_of_ble_eq_true rfl) ?_
  intro p e s m below meth c ls S hr hlk X hl
  have hl : lv_has ls 6 [(0, .ref (G.2.2.2.1 45)), (1, .ref (G.2.2.2.1 22)), (2, .int a1), (3, .int a2), (4, .ref (G.2.2.2.1 49))] := hl
  refine r_iload_n S dX4_firstMate_0 rfl (lv_at hl 2 rfl) ?_
  refine r_iconst S dX4_firstMate_1 (by decide) (fun v1 z2 => ?_)
  have r3 := R_eq z2
  refine r_iadd S dX4_firstMate_2 (fun v4 z5 => ?_)
  obtain ⟨e6, r7⟩ := i_add (lo := 1) (hi := 10) z5 h_a1 r3 rfl
  refine r_istore (lv' := [(5, .int v4), (0, .ref (G.2.2.2.1 45)), (1, .ref (G.2.2.2.1 22)), (2, .int a1), (3, .int a2), (4, .ref (G.2.2.2.1 49))]) S dX4_firstMate_3 hl (by decide) rfl (fun ls hl => ?_)
  have L96 : ∀ (n : Nat) (H : Heap) (lc : List Loc) (ls : Array Slot) (i93 : Int32), Xd G s H lc τ → R (1) (10) i93 → lv_has ls 6 [(0, .ref (G.2.2.2.1 45)), (1, .ref (G.2.2.2.1 22)), (2, .int a1), (3, .int a2), (4, .ref (G.2.2.2.1 49)), (5, .int i93)] → (10 - i93.toInt).toNat < n → W p l e (Rm 2 45) s m ([.ref (G.2.2.2.1 45), .ref (G.2.2.2.1 22), .int a1, .int a2, .ref (G.2.2.2.1 49)] : List Value).toArray below meth c H lc 0 0 (MQ below (va_Qi (po_X4_firstMate τ  a1 a2  ) (Bs G) G.2.2.2.2) ([.ref (G.2.2.2.1 45), .ref (G.2.2.2.1 22), .int a1, .int a2, .ref (G.2.2.2.1 49)] : List Value).toArray s 0 0 G.2.2.2.2) (F0 m 5 ls []) := by
    intro n
    induction n with
    | zero => intros; omega
    | succ n ih97 =>
      intro H lc ls i93 X95 r94 hl hm
      refine r_iload S dX4_firstMate_5 (lv_at hl 5 rfl) ?_
      refine r_aload_n S dX4_firstMate_7 rfl (lv_at hl 1 rfl) ?_
      refine r_get (K := 22) (v := .ref (G.2.2.2.1 23)) S X95 (Nat.le_of_ble_eq_true rfl) rfl lk4_28_8 (fun _ => ⟨_, rfl, rfl⟩) dX4_firstMate_8 ?_
      refine r_getn (K := 4) S X95 (Nat.le_of_ble_eq_true rfl) rfl lk4_34_2 (fun _ => ⟨_, rfl, rfl⟩) dX4_firstMate_11 (fun v98 z99 => ?_)
      have r100 : R (0) (10) v98 := rd hI rfl z99
      refine r_icmp_ge (tgt := 69) S dX4_firstMate_14 (by decide) (fun c101 => ?_) (fun c101 => ?_)
      ·
        refine r_iconst S dX4_firstMate_69 (by decide) (fun v102 z103 => ?_)
        have r104 := R_eq z103
        exact r_ret S hr hlk X95 ⟨rfl, (R_of r104 rfl)⟩ rfl dX4_firstMate_70
      ·
        have r105 : R (1) (9) i93 := ⟨by omega, by omega⟩
        have r106 : R (2) (10) v98 := ⟨by omega, by omega⟩
        refine r_iload_n S dX4_firstMate_17 rfl (lv_at hl 3 rfl) ?_
        refine r_iload S dX4_firstMate_18 (lv_at hl 5 rfl) ?_
        refine r_ki (q_N (As := [.int a2, .int i93]) (rest := []) S X95 (c_X11_bit l G τ hI a2 i93 (R_of (lo := -2147483648) (hi := 2147483647) h_a2 rfl) (R_of (lo := -2147483648) (hi := 2147483647) r105 rfl)) ck4_118 ⟨Nat.le_of_ble_eq_true rfl, Nat.le_of_ble_eq_true rfl⟩ rfl hl.1 rfl (Nat.le_of_ble_eq_true rfl) dX4_firstMate_20 ⟨Nat.le_refl 0, Nat.le_refl 0⟩) X95 (fun v110 t109 H lc q107 X108 => ?_)
        unfold po_X11_bit at q107
        obtain ⟨q111, q112⟩ := q107
        rw [q111] at X108
        refine r_iconst S dX4_firstMate_23 (by decide) (fun v113 z114 => ?_)
        have r115 := R_eq z114
        refine r_icmp_ne (tgt := 63) S dX4_firstMate_24 (by decide) (fun c116 => ?_) (fun c116 => ?_)
        ·
          have r117 : R (0) (0) v110 := ⟨by omega, by omega⟩
          refine r_iinc (k := 5) S dX4_firstMate_63 hl rfl (by decide) (by decide) (fun v118 d119 ls z120 z121 hl => ?_)
          obtain ⟨e122, r123⟩ := i_add (lo := 2) (hi := 10) z120 r105 (R_eq z121) rfl
          have hl : lv_has ls 6 [(5, .int v118), (0, .ref (G.2.2.2.1 45)), (1, .ref (G.2.2.2.1 22)), (2, .int a1), (3, .int a2), (4, .ref (G.2.2.2.1 49))] := hl
          refine r_goto (tgt := 5) S dX4_firstMate_66 (by decide) ?_
          exact ih97 _ _ _ v118 X108 (R_of r123 rfl) (lv_sub hl [1, 2, 3, 4, 5, 0] rfl) (by omega)
        ·
          have r124 : R (1) (1) v110 := ⟨by omega, by omega⟩
          refine r_aload_n S dX4_firstMate_27 rfl (lv_at hl 0 rfl) ?_
          refine r_aload_n S dX4_firstMate_28 rfl (lv_at hl 1 rfl) ?_
          refine r_iload_n S dX4_firstMate_29 rfl (lv_at hl 2 rfl) ?_
          refine r_iload S dX4_firstMate_30 (lv_at hl 5 rfl) ?_
          refine r_ki (q_V (As := [.ref (G.2.2.2.1 22), .int a1, .int i93]) (rest := []) (K := 28) (ci := 4) S X108 (c_X4_canPair l G τ hI a1 i93 h_a1 (R_of (lo := 0) (hi := 9) r105 rfl)) ck4_125 (Nat.le_of_ble_eq_true rfl) rfl (fun _ => ⟨_, rfl⟩) ⟨_, _, rfl⟩ ⟨Nat.le_of_ble_eq_true rfl, Nat.le_of_ble_eq_true rfl⟩ rfl hl.1 rfl (Nat.le_of_ble_eq_true rfl) dX4_firstMate_32 ⟨Nat.le_refl 0, Nat.le_refl 0⟩) X108 (fun v128 t127 H lc q125 X126 => ?_)
          unfold po_X4_canPair at q125
          obtain ⟨q129, q130⟩ := q125
          rw [q129] at X126
          refine r_if_eq (tgt := 63) S dX4_firstMate_35 (by decide) (fun c131 => ?_) (fun c131 => ?_)
          ·
            have r132 : R (0) (0) v128 := ⟨by omega, by omega⟩
            refine r_iinc (k := 5) S dX4_firstMate_63 hl rfl (by decide) (by decide) (fun v133 d134 ls z135 z136 hl => ?_)
            obtain ⟨e137, r138⟩ := i_add (lo := 2) (hi := 10) z135 r105 (R_eq z136) rfl
            have hl : lv_has ls 6 [(5, .int v133), (0, .ref (G.2.2.2.1 45)), (1, .ref (G.2.2.2.1 22)), (2, .int a1), (3, .int a2), (4, .ref (G.2.2.2.1 49))] := hl
            refine r_goto (tgt := 5) S dX4_firstMate_66 (by decide) ?_
            exact ih97 _ _ _ v133 X126 (R_of r138 rfl) (lv_sub hl [1, 2, 3, 4, 5, 0] rfl) (by omega)
          ·
            have r139 : R (1) (1) v128 := ⟨by omega, by omega⟩
            refine r_iconst S dX4_firstMate_38 (by decide) (fun v140 z141 => ?_)
            have r142 := R_eq z141
            refine r_aload S dX4_firstMate_39 (lv_at hl 4 rfl) ?_
            refine r_iload_n S dX4_firstMate_41 rfl (lv_at hl 3 rfl) ?_
            refine r_iconst S dX4_firstMate_42 (by decide) (fun v143 z144 => ?_)
            have r145 := R_eq z144
            refine r_iload S dX4_firstMate_43 (lv_at hl 5 rfl) ?_
            refine r_ishl S dX4_firstMate_45 (fun v146 z147 => ?_)
            have r149 : R (2) (512) v146 := i_shl z147 r145 r105 rfl
            refine r_ixor S dX4_firstMate_46 (fun v150 z151 => ?_)
            have r153 : R (0) (1023) v150 := i_xor 10 z151 h_a2 r149 rfl
            refine r_aldn (n := 2048) (K := 32) S X126 (Nat.le_of_ble_eq_true rfl) rfl (fun _ => rfl) (ix_of r153 rfl) dX4_firstMate_47 (fun v154 z155 => ?_)
            have r157 := R_any v154
            refine r_iadd S dX4_firstMate_48 (fun v158 z159 => ?_)
            have r160 := R_any v158
            refine r_aload S dX4_firstMate_49 (lv_at hl 4 rfl) ?_
            refine r_iload_n S dX4_firstMate_51 rfl (lv_at hl 3 rfl) ?_
            refine r_iconst S dX4_firstMate_52 (by decide) (fun v161 z162 => ?_)
            have r163 := R_eq z162
            refine r_iload_n S dX4_firstMate_53 rfl (lv_at hl 2 rfl) ?_
            refine r_ishl S dX4_firstMate_54 (fun v164 z165 => ?_)
            have r167 : R (1) (512) v164 := i_shl z165 r163 h_a1 rfl
            refine r_ior S dX4_firstMate_55 (fun v168 z169 => ?_)
            have r171 : R (0) (1023) v168 := i_or 10 z169 h_a2 r167 rfl
            refine r_aldn (n := 2048) (K := 32) S X126 (Nat.le_of_ble_eq_true rfl) rfl (fun _ => rfl) (ix_of r171 rfl) dX4_firstMate_56 (fun v172 z173 => ?_)
            have r175 := R_any v172
            refine r_icmp_ne (tgt := 63) S dX4_firstMate_57 (by decide) (fun c176 => ?_) (fun c176 => ?_)
            ·
              refine r_iinc (k := 5) S dX4_firstMate_63 hl rfl (by decide) (by decide) (fun v177 d178 ls z179 z180 hl => ?_)
              obtain ⟨e181, r182⟩ := i_add (lo := 2) (hi := 10) z179 r105 (R_eq z180) rfl
              have hl : lv_has ls 6 [(5, .int v177), (0, .ref (G.2.2.2.1 45)), (1, .ref (G.2.2.2.1 22)), (2, .int a1), (3, .int a2), (4, .ref (G.2.2.2.1 49))] := hl
              refine r_goto (tgt := 5) S dX4_firstMate_66 (by decide) ?_
              exact ih97 _ _ _ v177 X126 (R_of r182 rfl) (lv_sub hl [1, 2, 3, 4, 5, 0] rfl) (by omega)
            ·
              refine r_iload S dX4_firstMate_60 (lv_at hl 5 rfl) ?_
              exact r_ret S hr hlk X126 ⟨rfl, (R_of r105 rfl)⟩ rfl dX4_firstMate_62
  exact L96 _ _ _ _ v4 X r7 (lv_sub hl [1, 2, 3, 4, 5, 0] rfl) (Nat.lt_succ_self _)
def po_X4_pairUp (τ : Tau)     (r : Int32) (u : Tau) : Prop := Inv u ∧ Fr [] [46, 47, 48, 49, 129] τ u
set_option maxHeartbeats 4000000 in
set_option maxRecDepth 100000 in
theorem c_X4_pairUp (l : Launch) (G : Gx) (τ : Tau) (hI : Inv τ) (hf_0 : R (1) (9) (τ 23 2)) (hWI : WI τ) : Ci l G yX4_pairUp cX4_pairUp 8 (some .int) 5 125 [.ref (G.2.2.2.1 45), .ref (G.2.2.2.1 22), .ref (G.2.2.2.1 129)] τ (po_X4_pairUp τ    ) := by
  unfold Ci
  refine C_of (own := RX4) (by decide) rfl (Nat.le_of_ble_eq_true rfl) ?_
  intro p e s m below meth c ls S hr hlk X hl
  have hl : lv_has ls 8 [(0, .ref (G.2.2.2.1 45)), (1, .ref (G.2.2.2.1 22)), (2, .ref (G.2.2.2.1 129))] := hl
  obtain ⟨v1, z2⟩ : ∃ x, τ 23 2 = x := ⟨_, rfl⟩
  rw [z2] at hf_0
  refine r_aload_n S dX4_pairUp_0 rfl (lv_at hl 0 rfl) ?_
  refine r_aload_n S dX4_pairUp_1 rfl (lv_at hl 1 rfl) ?_
  refine r_aload_n S dX4_pairUp_2 rfl (lv_at hl 1 rfl) ?_
  refine r_get (K := 22) (v := .ref (G.2.2.2.1 30)) S X (Nat.le_of_ble_eq_true rfl) rfl lk4_69_8 (fun _ => ⟨_, rfl, rfl⟩) dX4_pairUp_3 ?_
  refine r_getn (K := 23) S X (Nat.le_of_ble_eq_true rfl) rfl lk4_111_3 (fun _ => ⟨_, rfl, rfl⟩) dX4_pairUp_6 (fun v3 z4 => ?_)
  have r5 : R (-1) (8) v3 := rd hI rfl z4
  have r6 : R 0 8 v3 := WI_r hWI z2 z4 (R_of hf_0 rfl) (R_of r5 rfl)
  refine r_kv (q_V (As := [.ref (G.2.2.2.1 22), .int v3]) (rest := []) (K := 28) (ci := 4) S X (c_X4_load l G τ hI v3 r6) ck4_78 (Nat.le_of_ble_eq_true rfl) rfl (fun _ => ⟨_, rfl⟩) ⟨_, _, rfl⟩ ⟨Nat.le_of_ble_eq_true rfl, Nat.le_of_ble_eq_true rfl⟩ rfl hl.1 rfl (Nat.le_of_ble_eq_true rfl) dX4_pairUp_9 ⟨Nat.le_refl 0, Nat.le_refl 0⟩) X (fun t9 H lc q7 X8 => ?_)
  unfold po_X4_load at q7
  obtain ⟨q10, q11⟩ := q7
  have F12 : Fr [] [46, 47, 48, 49, 129] τ t9 := Fr_call Fr_rfl q11 (by decide)
  refine r_aload_n S dX4_pairUp_12 rfl (lv_at hl 0 rfl) ?_
  refine r_get (K := 28) (v := .ref (G.2.2.2.1 49)) S X8 (Nat.le_of_ble_eq_true rfl) rfl lk4_22_4 (fun _ => ⟨_, rfl, rfl⟩) dX4_pairUp_13 ?_
  refine r_astore_n (lv' := [(3, .ref (G.2.2.2.1 49)), (0, .ref (G.2.2.2.1 45)), (1, .ref (G.2.2.2.1 22)), (2, .ref (G.2.2.2.1 129))]) S dX4_pairUp_16 rfl hl (by decide) rfl (fun ls hl => ?_)
  refine r_aload_n S dX4_pairUp_17 rfl (lv_at hl 1 rfl) ?_
  refine r_aload_n S dX4_pairUp_18 rfl (lv_at hl 2 rfl) ?_
  refine r_aload_n S dX4_pairUp_19 rfl (lv_at hl 0 rfl) ?_
  refine r_kv (q_V (As := [.ref (G.2.2.2.1 22), .ref (G.2.2.2.1 49)]) (rest := []) (K := 28) (ci := 4) S X8 (c_X4_countPairs l G t9 q10 ) ck4_114 (Nat.le_of_ble_eq_true rfl) rfl (fun _ => ⟨_, rfl⟩) ⟨_, _, rfl⟩ ⟨Nat.le_of_ble_eq_true rfl, Nat.le_of_ble_eq_true rfl⟩ rfl hl.1 rfl (Nat.le_of_ble_eq_true rfl) dX4_pairUp_20 ⟨Nat.le_refl 0, Nat.le_refl 0⟩) X8 (fun t15 H lc q13 X14 => ?_)
  unfold po_X4_countPairs at q13
  obtain ⟨q16, q17⟩ := q13
  have F18 : Fr [] [46, 47, 48, 49, 129] τ t15 := Fr_call F12 q17 (by decide)
  refine r_aload_n S dX4_pairUp_23 rfl (lv_at hl 2 rfl) ?_
  refine r_get (K := 22) (v := .ref (G.2.2.2.1 23)) S X14 (Nat.le_of_ble_eq_true rfl) rfl lk4_28_8 (fun _ => ⟨_, rfl, rfl⟩) dX4_pairUp_24 ?_
  refine r_ki (q_V (As := []) (rest := []) (K := 4) (ci := 2) S X14 (c_X2_everyone l G t15 q16 23 (Nat.le_of_ble_eq_true rfl) rfl) ck4_65 (Nat.le_of_ble_eq_true rfl) rfl (fun _ => ⟨_, rfl⟩) ⟨_, _, rfl⟩ ⟨Nat.le_of_ble_eq_true rfl, Nat.le_of_ble_eq_true rfl⟩ rfl hl.1 rfl (Nat.le_of_ble_eq_true rfl) dX4_pairUp_27 ⟨Nat.le_refl 0, Nat.le_refl 0⟩) X14 (fun v22 t21 H lc q19 X20 => ?_)
  unfold po_X2_everyone at q19
  obtain ⟨q23, q24⟩ := q19
  rw [q23] at X20
  refine r_istore (lv' := [(4, .int v22), (3, .ref (G.2.2.2.1 49)), (0, .ref (G.2.2.2.1 45)), (1, .ref (G.2.2.2.1 22)), (2, .ref (G.2.2.2.1 129))]) S dX4_pairUp_30 hl (by decide) rfl (fun ls hl => ?_)
  refine r_aload_n S dX4_pairUp_32 rfl (lv_at hl 1 rfl) ?_
  refine r_iload S dX4_pairUp_33 (lv_at hl 0 rfl) ?_
  refine r_aldn (n := 2048) (K := 32) S X20 (Nat.le_of_ble_eq_true rfl) rfl (fun _ => rfl) (ix_of q24 rfl) dX4_pairUp_35 (fun v25 z26 => ?_)
  have r28 := R_any v25
  refine r_istore (lv' := [(5, .int v25), (4, .int v22), (3, .ref (G.2.2.2.1 49)), (0, .ref (G.2.2.2.1 45)), (1, .ref (G.2.2.2.1 22)), (2, .ref (G.2.2.2.1 129))]) S dX4_pairUp_36 hl (by decide) rfl (fun ls hl => ?_)
  refine r_iconst S dX4_pairUp_38 (by decide) (fun v29 z30 => ?_)
  have r31 := R_eq z30
  refine r_istore (lv' := [(6, .int v29), (5, .int v25), (4, .int v22), (3, .ref (G.2.2.2.1 49)), (0, .ref (G.2.2.2.1 45)), (1, .ref (G.2.2.2.1 22)), (2, .ref (G.2.2.2.1 129))]) S dX4_pairUp_39 hl (by decide) rfl (fun ls hl => ?_)
  have L765 : ∀ (n : Nat) (t758 : Tau) (H : Heap) (lc : List Loc) (ls : Array Slot) (i754 : Int32) (i756 : Int32), Xd G s H lc t758 → Inv t758 → Fr [] [46, 47, 48, 49, 129] τ t758 → WI t758 → R (0) (1023) i754 → R (0) (10) i756 → t758 23 2 = v1 → t758 30 8 = v3 → lv_has ls 8 [(0, .ref (G.2.2.2.1 45)), (1, .ref (G.2.2.2.1 22)), (2, .ref (G.2.2.2.1 129)), (3, .ref (G.2.2.2.1 49)), (4, .int i754), (5, .int v25), (6, .int i756)] → (10 - i756.toInt).toNat < n → W p l e (Rm 5 125) s m ([.ref (G.2.2.2.1 45), .ref (G.2.2.2.1 22), .ref (G.2.2.2.1 129)] : List Value).toArray below meth c H lc 0 0 (MQ below (va_Qi (po_X4_pairUp τ    ) (Bs G) G.2.2.2.2) ([.ref (G.2.2.2.1 45), .ref (G.2.2.2.1 22), .ref (G.2.2.2.1 129)] : List Value).toArray s 0 0 G.2.2.2.2) (F0 m 41 ls []) := by
    intro n
    induction n with
    | zero => intros; omega
    | succ n ih766 =>
      intro t758 H lc ls i754 i756 X762 I759 F760 hWI761 r755 r757 z763 z764 hl hm
      refine r_iload S dX4_pairUp_41 (lv_at hl 6 rfl) ?_
      refine r_aload_n S dX4_pairUp_43 rfl (lv_at hl 1 rfl) ?_
      refine r_get (K := 22) (v := .ref (G.2.2.2.1 23)) S X762 (Nat.le_of_ble_eq_true rfl) rfl lk4_28_8 (fun _ => ⟨_, rfl, rfl⟩) dX4_pairUp_44 ?_
      refine r_getn (K := 4) S X762 (Nat.le_of_ble_eq_true rfl) rfl lk4_34_2 (fun _ => ⟨_, rfl, rfl⟩) dX4_pairUp_47 (fun v767 z768 => ?_)
      have r769 : R (0) (10) v767 := rd I759 rfl z768
      refine r_icmp_ge (tgt := 118) S dX4_pairUp_50 (by decide) (fun c770 => ?_) (fun c770 => ?_)
      ·
        refine r_iload S dX4_pairUp_118 (lv_at hl 5 rfl) ?_
        exact r_ret S hr hlk X762 ⟨I759, F760⟩ rfl dX4_pairUp_120
      ·
        have r771 : R (0) (9) i756 := ⟨by omega, by omega⟩
        have r772 : R (1) (10) v767 := ⟨by omega, by omega⟩
        refine r_iload S dX4_pairUp_53 (lv_at hl 4 rfl) ?_
        refine r_iload S dX4_pairUp_55 (lv_at hl 6 rfl) ?_
        refine r_ki (q_N (As := [.int i754, .int i756]) (rest := []) S X762 (c_X11_bit l G t758 I759 i754 i756 (R_of (lo := -2147483648) (hi := 2147483647) r755 rfl) (R_of (lo := -2147483648) (hi := 2147483647) r771 rfl)) ck4_118 ⟨Nat.le_of_ble_eq_true rfl, Nat.le_of_ble_eq_true rfl⟩ rfl hl.1 rfl (Nat.le_of_ble_eq_true rfl) dX4_pairUp_57 ⟨Nat.le_refl 0, Nat.le_refl 0⟩) X762 (fun v776 t775 H lc q773 X774 => ?_)
        unfold po_X11_bit at q773
        obtain ⟨q777, q778⟩ := q773
        rw [q777] at X774
        refine r_iconst S dX4_pairUp_60 (by decide) (fun v779 z780 => ?_)
        have r781 := R_eq z780
        refine r_icmp_ne (tgt := 112) S dX4_pairUp_61 (by decide) (fun c782 => ?_) (fun c782 => ?_)
        ·
          have r783 : R (0) (0) v776 := ⟨by omega, by omega⟩
          refine r_iinc (k := 6) S dX4_pairUp_112 hl rfl (by decide) (by decide) (fun v784 d785 ls z786 z787 hl => ?_)
          obtain ⟨e788, r789⟩ := i_add (lo := 1) (hi := 10) z786 r771 (R_eq z787) rfl
          have hl : lv_has ls 8 [(6, .int v784), (0, .ref (G.2.2.2.1 45)), (1, .ref (G.2.2.2.1 22)), (2, .ref (G.2.2.2.1 129)), (3, .ref (G.2.2.2.1 49)), (4, .int i754), (5, .int v25)] := hl
          refine r_goto (tgt := 41) S dX4_pairUp_115 (by decide) ?_
          exact ih766 t758 _ _ _ i754 v784 X774 I759 F760 hWI761 r755 (R_of r789 rfl) z763 z764 (lv_sub hl [1, 2, 3, 4, 5, 6, 0] rfl) (by omega)
        ·
          have r790 : R (1) (1) v776 := ⟨by omega, by omega⟩
          refine r_iload S dX4_pairUp_64 (lv_at hl 4 rfl) ?_
          refine r_iconst S dX4_pairUp_66 (by decide) (fun v791 z792 => ?_)
          have r793 := R_eq z792
          refine r_iload S dX4_pairUp_67 (lv_at hl 6 rfl) ?_
          refine r_ishl S dX4_pairUp_69 (fun v794 z795 => ?_)
          have r797 : R (1) (512) v794 := i_shl z795 r793 r771 rfl
          refine r_ixor S dX4_pairUp_70 (fun v798 z799 => ?_)
          have r801 : R (0) (1023) v798 := i_xor 10 z799 r755 r797 rfl
          refine r_istore (lv' := [(4, .int v798), (0, .ref (G.2.2.2.1 45)), (1, .ref (G.2.2.2.1 22)), (2, .ref (G.2.2.2.1 129)), (3, .ref (G.2.2.2.1 49)), (5, .int v25), (6, .int i756)]) S dX4_pairUp_71 hl (by decide) rfl (fun ls hl => ?_)
          refine r_aload_n S dX4_pairUp_73 rfl (lv_at hl 1 rfl) ?_
          refine r_aload_n S dX4_pairUp_74 rfl (lv_at hl 2 rfl) ?_
          refine r_iload S dX4_pairUp_75 (lv_at hl 6 rfl) ?_
          refine r_iload S dX4_pairUp_77 (lv_at hl 0 rfl) ?_
          refine r_aload_n S dX4_pairUp_79 rfl (lv_at hl 4 rfl) ?_
          refine r_ki (q_V (As := [.ref (G.2.2.2.1 22), .int i756, .int v798, .ref (G.2.2.2.1 49)]) (rest := []) (K := 28) (ci := 4) S X774 (c_X4_firstMate l G t758 I759 i756 v798 r771 r801) ck4_121 (Nat.le_of_ble_eq_true rfl) rfl (fun _ => ⟨_, rfl⟩) ⟨_, _, rfl⟩ ⟨Nat.le_of_ble_eq_true rfl, Nat.le_of_ble_eq_true rfl⟩ rfl hl.1 rfl (Nat.le_of_ble_eq_true rfl) dX4_pairUp_80 ⟨Nat.le_refl 0, Nat.le_refl 0⟩) X774 (fun v805 t804 H lc q802 X803 => ?_)
          unfold po_X4_firstMate at q802
          obtain ⟨q806, q807⟩ := q802
          rw [q806] at X803
          refine r_istore (lv' := [(7, .int v805), (4, .int v798), (0, .ref (G.2.2.2.1 45)), (1, .ref (G.2.2.2.1 22)), (2, .ref (G.2.2.2.1 129)), (3, .ref (G.2.2.2.1 49)), (5, .int v25), (6, .int i756)]) S dX4_pairUp_83 hl (by decide) rfl (fun ls hl => ?_)
          refine r_iload S dX4_pairUp_85 (lv_at hl 0 rfl) ?_
          refine r_iconst S dX4_pairUp_87 (by decide) (fun v808 z809 => ?_)
          have r810 := R_eq z809
          refine r_icmp_eq (tgt := 112) S dX4_pairUp_88 (by decide) (fun c811 => ?_) (fun c811 => ?_)
          ·
            have r812 : R (-1) (-1) v805 := ⟨by omega, by omega⟩
            refine r_iinc (k := 7) S dX4_pairUp_112 hl rfl (by decide) (by decide) (fun v813 d814 ls z815 z816 hl => ?_)
            obtain ⟨e817, r818⟩ := i_add (lo := 1) (hi := 10) z815 r771 (R_eq z816) rfl
            have hl : lv_has ls 8 [(6, .int v813), (7, .int v805), (4, .int v798), (0, .ref (G.2.2.2.1 45)), (1, .ref (G.2.2.2.1 22)), (2, .ref (G.2.2.2.1 129)), (3, .ref (G.2.2.2.1 49)), (5, .int v25)] := hl
            refine r_goto (tgt := 41) S dX4_pairUp_115 (by decide) ?_
            exact ih766 t758 _ _ _ v798 v813 X803 I759 F760 hWI761 r801 (R_of r818 rfl) z763 z764 (lv_sub hl [3, 4, 5, 6, 2, 7, 0] rfl) (by omega)
          ·
            have r819 : R (0) (9) v805 := ⟨by omega, by omega⟩
            refine r_iload S dX4_pairUp_91 (lv_at hl 1 rfl) ?_
            refine r_iconst S dX4_pairUp_93 (by decide) (fun v820 z821 => ?_)
            have r822 := R_eq z821
            refine r_iload S dX4_pairUp_94 (lv_at hl 0 rfl) ?_
            refine r_ishl S dX4_pairUp_96 (fun v823 z824 => ?_)
            have r826 : R (1) (512) v823 := i_shl z824 r822 r819 rfl
            refine r_ixor S dX4_pairUp_97 (fun v827 z828 => ?_)
            have r830 : R (0) (1023) v827 := i_xor 10 z828 r801 r826 rfl
            refine r_istore (lv' := [(4, .int v827), (7, .int v805), (0, .ref (G.2.2.2.1 45)), (1, .ref (G.2.2.2.1 22)), (2, .ref (G.2.2.2.1 129)), (3, .ref (G.2.2.2.1 49)), (5, .int v25), (6, .int i756)]) S dX4_pairUp_98 hl (by decide) rfl (fun ls hl => ?_)
            refine r_aload_n S dX4_pairUp_100 rfl (lv_at hl 4 rfl) ?_
            refine r_iload S dX4_pairUp_101 (lv_at hl 7 rfl) ?_
            refine r_iload S dX4_pairUp_103 (lv_at hl 1 rfl) ?_
            refine r_ast (n := 10) (K := 36) S X803 (Nat.le_of_ble_eq_true rfl) rfl (fun _ _ => rfl) (ix_of r771 rfl) dX4_pairUp_105 (fun t831 H lc M832 X833 => ?_)
            have I834 := Inv_mu I759 M832 (show Rg (kd 129) _ v805 from (R_of (lo := -1) (hi := 9) r819 rfl))
            have F835 : Fr [] [46, 47, 48, 49, 129] τ t831 := Fr_cell F760 M832 (by decide)
            refine r_aload_n S dX4_pairUp_106 rfl (lv_at hl 4 rfl) ?_
            refine r_iload S dX4_pairUp_107 (lv_at hl 1 rfl) ?_
            refine r_iload S dX4_pairUp_109 (lv_at hl 7 rfl) ?_
            refine r_ast (n := 10) (K := 36) S X833 (Nat.le_of_ble_eq_true rfl) rfl (fun _ _ => rfl) (ix_of r819 rfl) dX4_pairUp_111 (fun t836 H lc M837 X838 => ?_)
            have I839 := Inv_mu I834 M837 (show Rg (kd 129) _ i756 from (R_of (lo := -1) (hi := 9) r771 rfl))
            have F840 : Fr [] [46, 47, 48, 49, 129] τ t836 := Fr_cell F835 M837 (by decide)
            refine r_iinc (k := 7) S dX4_pairUp_112 hl rfl (by decide) (by decide) (fun v841 d842 ls z843 z844 hl => ?_)
            obtain ⟨e845, r846⟩ := i_add (lo := 1) (hi := 10) z843 r771 (R_eq z844) rfl
            have hl : lv_has ls 8 [(6, .int v841), (4, .int v827), (7, .int v805), (0, .ref (G.2.2.2.1 45)), (1, .ref (G.2.2.2.1 22)), (2, .ref (G.2.2.2.1 129)), (3, .ref (G.2.2.2.1 49)), (5, .int v25)] := hl
            refine r_goto (tgt := 41) S dX4_pairUp_115 (by decide) ?_
            exact ih766 t836 _ _ _ v827 v841 X838 I839 F840 (WI_eq hWI761 ((M837.2 23 2 (Or.inl (by decide))).trans ((M832.2 23 2 (Or.inl (by decide))).trans rfl)) ((M837.2 30 8 (Or.inl (by decide))).trans ((M832.2 30 8 (Or.inl (by decide))).trans rfl))) r830 (R_of r846 rfl) ((M837.2 23 2 (Or.inl (by decide))).trans ((M832.2 23 2 (Or.inl (by decide))).trans z763)) ((M837.2 30 8 (Or.inl (by decide))).trans ((M832.2 30 8 (Or.inl (by decide))).trans z764)) (lv_sub hl [3, 4, 5, 6, 1, 7, 0] rfl) (by omega)
  exact L765 _ t15 _ _ _ v22 v29 X20 q16 F18 (WI_eq hWI ((q17 23 2 (by decide)).trans ((q11 23 2 (by decide)).trans rfl)) ((q17 30 8 (by decide)).trans ((q11 30 8 (by decide)).trans rfl))) q24 (R_of r31 rfl) ((q17 23 2 (by decide)).trans ((q11 23 2 (by decide)).trans z2)) ((q17 30 8 (by decide)).trans ((q11 30 8 (by decide)).trans z4)) (lv_sub hl [4, 5, 6, 3, 2, 1, 0] rfl) (Nat.lt_succ_self _)
def po_X4_priceOf (τ : Tau)  (a1 : Int32)   (r : Int32) (u : Tau) : Prop := u = τ
set_option maxHeartbeats 4000000 in
set_option maxRecDepth 100000 in
theorem c_X4_priceOf (l : Launch) (G : Gx) (τ : Tau) (hI : Inv τ) (a1 : Int32) (h_a1 : R (-2147483648) (2147483647) a1) : Ci l G yX4_priceOf cX4_priceOf 4 (some .int) 1 21 [.ref (G.2.2.2.1 22), .int a1] τ (po_X4_priceOf τ  a1  ) := by
  unfold Ci
  refine C_of (own := RX4) (by decide) rfl (Nat.le_of_ble_eq_true rfl) ?_
  intro p e s m below meth c ls S hr hlk X hl
  have hl : lv_has ls 4 [(0, .ref (G.2.2.2.1 22)), (1, .int a1)] := hl
  refine r_iconst S dX4_priceOf_0 (by decide) (fun v1 z2 => ?_)
  have r3 := R_eq z2
  refine r_istore_n (lv' := [(2, .int v1), (0, .ref (G.2.2.2.1 22)), (1, .int a1)]) S dX4_priceOf_1 rfl hl (by decide) rfl (fun ls hl => ?_)
  refine r_iconst S dX4_priceOf_2 (by decide) (fun v4 z5 => ?_)
  have r6 := R_eq z5
  refine r_istore_n (lv' := [(3, .int v4), (2, .int v1), (0, .ref (G.2.2.2.1 22)), (1, .int a1)]) S dX4_priceOf_3 rfl hl (by decide) rfl (fun ls hl => ?_)
  have L808 : ∀ (n : Nat) (H : Heap) (lc : List Loc) (ls : Array Slot) (i803 : Int32) (i805 : Int32), Xd G s H lc τ → R (-2147483648) (2147483647) i803 → R (0) (10) i805 → lv_has ls 4 [(0, .ref (G.2.2.2.1 22)), (1, .int a1), (2, .int i803), (3, .int i805)] → (10 - i805.toInt).toNat < n → W p l e (Rm 1 21) s m ([.ref (G.2.2.2.1 22), .int a1] : List Value).toArray below meth c H lc 0 0 (MQ below (va_Qi (po_X4_priceOf τ  a1  ) (Bs G) G.2.2.2.2) ([.ref (G.2.2.2.1 22), .int a1] : List Value).toArray s 0 0 G.2.2.2.2) (F0 m 4 ls []) := by
    intro n
    induction n with
    | zero => intros; omega
    | succ n ih809 =>
      intro H lc ls i803 i805 X807 r804 r806 hl hm
      refine r_iload_n S dX4_priceOf_4 rfl (lv_at hl 3 rfl) ?_
      refine r_aload_n S dX4_priceOf_5 rfl (lv_at hl 0 rfl) ?_
      refine r_get (K := 22) (v := .ref (G.2.2.2.1 23)) S X807 (Nat.le_of_ble_eq_true rfl) rfl lk4_28_8 (fun _ => ⟨_, rfl, rfl⟩) dX4_priceOf_6 ?_
      refine r_getn (K := 4) S X807 (Nat.le_of_ble_eq_true rfl) rfl lk4_34_2 (fun _ => ⟨_, rfl, rfl⟩) dX4_priceOf_9 (fun v810 z811 => ?_)
      have r812 : R (0) (10) v810 := rd hI rfl z811
      refine r_icmp_ge (tgt := 42) S dX4_priceOf_12 (by decide) (fun c813 => ?_) (fun c813 => ?_)
      ·
        refine r_bipush S dX4_priceOf_42 (by decide) (fun v814 z815 => ?_)
        have r816 := R_eq z815
        refine r_iload_n S dX4_priceOf_44 rfl (lv_at hl 2 rfl) ?_
        refine r_imul S dX4_priceOf_45 (fun v817 z818 => ?_)
        have r819 := R_any v817
        refine r_iload_n S dX4_priceOf_46 rfl (lv_at hl 1 rfl) ?_
        refine r_ki (q_S (As := [.int a1]) (rest := [.int v817]) S X807 (c_J6_bitCount_0f7a4 l G τ hI a1 h_a1) ck4_52 ⟨Nat.le_of_ble_eq_true rfl, Nat.le_of_ble_eq_true rfl⟩ rfl hl.1 rfl (Nat.le_of_ble_eq_true rfl) dX4_priceOf_47 ⟨Nat.le_refl 0, Nat.le_refl 0⟩) X807 (fun v823 t822 H lc q820 X821 => ?_)
        unfold po_J6_bitCount_0f7a4 at q820
        obtain ⟨q824, q825⟩ := q820
        rw [q824] at X821
        refine r_iadd S dX4_priceOf_50 (fun v826 z827 => ?_)
        have r828 := R_any v826
        exact r_ret S hr hlk X821 rfl rfl dX4_priceOf_51
      ·
        have r829 : R (0) (9) i805 := ⟨by omega, by omega⟩
        have r830 : R (1) (10) v810 := ⟨by omega, by omega⟩
        refine r_iload_n S dX4_priceOf_15 rfl (lv_at hl 1 rfl) ?_
        refine r_iload_n S dX4_priceOf_16 rfl (lv_at hl 3 rfl) ?_
        refine r_ki (q_N (As := [.int a1, .int i805]) (rest := []) S X807 (c_X11_bit l G τ hI a1 i805 h_a1 (R_of (lo := -2147483648) (hi := 2147483647) r829 rfl)) ck4_118 ⟨Nat.le_of_ble_eq_true rfl, Nat.le_of_ble_eq_true rfl⟩ rfl hl.1 rfl (Nat.le_of_ble_eq_true rfl) dX4_priceOf_17 ⟨Nat.le_refl 0, Nat.le_refl 0⟩) X807 (fun v834 t833 H lc q831 X832 => ?_)
        unfold po_X11_bit at q831
        obtain ⟨q835, q836⟩ := q831
        rw [q835] at X832
        refine r_iconst S dX4_priceOf_20 (by decide) (fun v837 z838 => ?_)
        have r839 := R_eq z838
        refine r_icmp_ne (tgt := 36) S dX4_priceOf_21 (by decide) (fun c840 => ?_) (fun c840 => ?_)
        ·
          have r841 : R (0) (0) v834 := ⟨by omega, by omega⟩
          refine r_iinc (k := 3) S dX4_priceOf_36 hl rfl (by decide) (by decide) (fun v842 d843 ls z844 z845 hl => ?_)
          obtain ⟨e846, r847⟩ := i_add (lo := 1) (hi := 10) z844 r829 (R_eq z845) rfl
          have hl : lv_has ls 4 [(3, .int v842), (0, .ref (G.2.2.2.1 22)), (1, .int a1), (2, .int i803)] := hl
          refine r_goto (tgt := 4) S dX4_priceOf_39 (by decide) ?_
          exact ih809 _ _ _ i803 v842 X832 r804 (R_of r847 rfl) (lv_sub hl [1, 2, 3, 0] rfl) (by omega)
        ·
          have r848 : R (1) (1) v834 := ⟨by omega, by omega⟩
          refine r_iload_n S dX4_priceOf_24 rfl (lv_at hl 2 rfl) ?_
          refine r_aload_n S dX4_priceOf_25 rfl (lv_at hl 0 rfl) ?_
          refine r_get (K := 22) (v := .ref (G.2.2.2.1 23)) S X832 (Nat.le_of_ble_eq_true rfl) rfl lk4_28_8 (fun _ => ⟨_, rfl, rfl⟩) dX4_priceOf_26 ?_
          refine r_get (K := 4) (v := .ref (G.2.2.2.1 24)) S X832 (Nat.le_of_ble_eq_true rfl) rfl lk4_140_2 (fun _ => ⟨_, rfl, rfl⟩) dX4_priceOf_29 ?_
          refine r_iload_n S dX4_priceOf_32 rfl (lv_at hl 3 rfl) ?_
          refine r_aldn (n := 10) (K := 5) S X832 (Nat.le_of_ble_eq_true rfl) rfl (fun _ => rfl) (ix_of r829 rfl) dX4_priceOf_33 (fun v849 z850 => ?_)
          have r851 : R (0) (20) v849 := rd hI rfl z850
          refine r_iadd S dX4_priceOf_34 (fun v852 z853 => ?_)
          have r854 := R_any v852
          refine r_istore_n (lv' := [(2, .int v852), (0, .ref (G.2.2.2.1 22)), (1, .int a1), (3, .int i805)]) S dX4_priceOf_35 rfl hl (by decide) rfl (fun ls hl => ?_)
          refine r_iinc (k := 3) S dX4_priceOf_36 hl rfl (by decide) (by decide) (fun v855 d856 ls z857 z858 hl => ?_)
          obtain ⟨e859, r860⟩ := i_add (lo := 1) (hi := 10) z857 r829 (R_eq z858) rfl
          have hl : lv_has ls 4 [(3, .int v855), (2, .int v852), (0, .ref (G.2.2.2.1 22)), (1, .int a1)] := hl
          refine r_goto (tgt := 4) S dX4_priceOf_39 (by decide) ?_
          exact ih809 _ _ _ v852 v855 X832 r854 (R_of r860 rfl) (lv_sub hl [2, 3, 1, 0] rfl) (by omega)
  exact L808 _ _ _ _ v1 v4 X (R_of r3 rfl) (R_of r6 rfl) (lv_sub hl [2, 3, 1, 0] rfl) (Nat.lt_succ_self _)
def po_X4_cheapestDoubters (τ : Tau)  (a1 : Int32)   (r : Int32) (u : Tau) : Prop := Inv u ∧ Fr [] [46, 47, 48] τ u
set_option maxHeartbeats 4000000 in
set_option maxRecDepth 100000 in
theorem c_X4_cheapestDoubters (l : Launch) (G : Gx) (τ : Tau) (hI : Inv τ) (a1 : Int32) (h_a1 : R (0) (1023) a1) (hf_0 : R (1) (9) (τ 23 2)) (hWI : WI τ) : Ci l G yX4_cheapestDoubters cX4_cheapestDoubters 8 (some .int) 5 125 [.ref (G.2.2.2.1 45), .ref (G.2.2.2.1 22), .int a1] τ (po_X4_cheapestDoubters τ  a1  ) := by
  unfold Ci
  refine C_of (own := RX4) (by decide) rfl (Nat.le_of_ble_eq_true rfl) ?_
  intro p e s m below meth c ls S hr hlk X hl
  have hl : lv_has ls 8 [(0, .ref (G.2.2.2.1 45)), (1, .ref (G.2.2.2.1 22)), (2, .int a1)] := hl
  obtain ⟨v1, z2⟩ : ∃ x, τ 23 2 = x := ⟨_, rfl⟩
  rw [z2] at hf_0
  refine r_aload_n S dX4_cheapestDoubters_0 rfl (lv_at hl 0 rfl) ?_
  refine r_aload_n S dX4_cheapestDoubters_1 rfl (lv_at hl 1 rfl) ?_
  refine r_aload_n S dX4_cheapestDoubters_2 rfl (lv_at hl 1 rfl) ?_
  refine r_get (K := 22) (v := .ref (G.2.2.2.1 30)) S X (Nat.le_of_ble_eq_true rfl) rfl lk4_69_8 (fun _ => ⟨_, rfl, rfl⟩) dX4_cheapestDoubters_3 ?_
  refine r_getn (K := 23) S X (Nat.le_of_ble_eq_true rfl) rfl lk4_111_3 (fun _ => ⟨_, rfl, rfl⟩) dX4_cheapestDoubters_6 (fun v3 z4 => ?_)
  have r5 : R (-1) (8) v3 := rd hI rfl z4
  have r6 : R 0 8 v3 := WI_r hWI z2 z4 (R_of hf_0 rfl) (R_of r5 rfl)
  refine r_kv (q_V (As := [.ref (G.2.2.2.1 22), .int v3]) (rest := []) (K := 28) (ci := 4) S X (c_X4_load l G τ hI v3 r6) ck4_78 (Nat.le_of_ble_eq_true rfl) rfl (fun _ => ⟨_, rfl⟩) ⟨_, _, rfl⟩ ⟨Nat.le_of_ble_eq_true rfl, Nat.le_of_ble_eq_true rfl⟩ rfl hl.1 rfl (Nat.le_of_ble_eq_true rfl) dX4_cheapestDoubters_9 ⟨Nat.le_refl 0, Nat.le_refl 0⟩) X (fun t9 H lc q7 X8 => ?_)
  unfold po_X4_load at q7
  obtain ⟨q10, q11⟩ := q7
  have F12 : Fr [] [46, 47, 48] τ t9 := Fr_call Fr_rfl q11 (by decide)
  refine r_iload_n S dX4_cheapestDoubters_12 rfl (lv_at hl 2 rfl) ?_
  refine r_aload_n S dX4_cheapestDoubters_13 rfl (lv_at hl 1 rfl) ?_
  refine r_get (K := 22) (v := .ref (G.2.2.2.1 30)) S X8 (Nat.le_of_ble_eq_true rfl) rfl lk4_69_8 (fun _ => ⟨_, rfl, rfl⟩) dX4_cheapestDoubters_14 ?_
  refine r_getn (K := 23) S X8 (Nat.le_of_ble_eq_true rfl) rfl lk4_134_3 (fun _ => ⟨_, rfl, rfl⟩) dX4_cheapestDoubters_17 (fun v13 z14 => ?_)
  have r15 : R (0) (1023) v13 := rd q10 rfl z14
  refine r_iconst S dX4_cheapestDoubters_20 (by decide) (fun v16 z17 => ?_)
  have r18 := R_eq z17
  refine r_ixor S dX4_cheapestDoubters_21 (fun v19 z20 => ?_)
  have r21 := R_any v19
  refine r_iand S dX4_cheapestDoubters_22 (fun v22 z23 => ?_)
  have r25 : R (0) (1023) v22 := i_and1 z23 h_a1 r21 rfl
  have e26 := i_andle z23 h_a1 rfl
  refine r_istore_n (lv' := [(3, .int v22), (0, .ref (G.2.2.2.1 45)), (1, .ref (G.2.2.2.1 22)), (2, .int a1)]) S dX4_cheapestDoubters_23 rfl hl (by decide) rfl (fun ls hl => ?_)
  refine r_iload_n S dX4_cheapestDoubters_24 rfl (lv_at hl 0 rfl) ?_
  refine r_istore (lv' := [(4, .int v22), (3, .int v22), (0, .ref (G.2.2.2.1 45)), (1, .ref (G.2.2.2.1 22)), (2, .int a1)]) S dX4_cheapestDoubters_25 hl (by decide) rfl (fun ls hl => ?_)
  refine r_aload_n S dX4_cheapestDoubters_27 rfl (lv_at hl 3 rfl) ?_
  refine r_iload_n S dX4_cheapestDoubters_28 rfl (lv_at hl 1 rfl) ?_
  refine r_ki (q_S (As := [.ref (G.2.2.2.1 22), .int v22]) (rest := []) S X8 (c_X4_priceOf l G t9 q10 v22 (R_of (lo := -2147483648) (hi := 2147483647) r25 rfl)) ck4_137 ⟨Nat.le_of_ble_eq_true rfl, Nat.le_of_ble_eq_true rfl⟩ rfl hl.1 rfl (Nat.le_of_ble_eq_true rfl) dX4_cheapestDoubters_29 ⟨Nat.le_refl 0, Nat.le_refl 0⟩) X8 (fun v30 t29 H lc q27 X28 => ?_)
  unfold po_X4_priceOf at q27
  have q31 := q27
  rw [q31] at X28
  have r32 := R_any v30
  refine r_istore (lv' := [(5, .int v30), (4, .int v22), (3, .int v22), (0, .ref (G.2.2.2.1 45)), (1, .ref (G.2.2.2.1 22)), (2, .int a1)]) S dX4_cheapestDoubters_32 hl (by decide) rfl (fun ls hl => ?_)
  refine r_iconst S dX4_cheapestDoubters_34 (by decide) (fun v33 z34 => ?_)
  have r35 := R_eq z34
  refine r_istore (lv' := [(6, .int v33), (5, .int v30), (4, .int v22), (3, .int v22), (0, .ref (G.2.2.2.1 45)), (1, .ref (G.2.2.2.1 22)), (2, .int a1)]) S dX4_cheapestDoubters_35 hl (by decide) rfl (fun ls hl => ?_)
  have L2708 : ∀ (n : Nat) (H : Heap) (lc : List Loc) (ls : Array Slot) (i2701 : Int32) (i2703 : Int32) (i2705 : Int32), Xd G s H lc t9 → R (0) (1023) i2701 → R (-2147483648) (2147483647) i2703 → R (0) (1023) i2705 → lv_has ls 8 [(0, .ref (G.2.2.2.1 45)), (1, .ref (G.2.2.2.1 22)), (2, .int a1), (3, .int v22), (4, .int i2701), (5, .int i2703), (6, .int i2705)] → (1023 - i2705.toInt).toNat < n → W p l e (Rm 5 125) s m ([.ref (G.2.2.2.1 45), .ref (G.2.2.2.1 22), .int a1] : List Value).toArray below meth c H lc 0 0 (MQ below (va_Qi (po_X4_cheapestDoubters τ  a1  ) (Bs G) G.2.2.2.2) ([.ref (G.2.2.2.1 45), .ref (G.2.2.2.1 22), .int a1] : List Value).toArray s 0 0 G.2.2.2.2) (F0 m 37 ls []) := by
    intro n
    induction n with
    | zero => intros; omega
    | succ n ih2709 =>
      intro H lc ls i2701 i2703 i2705 X2707 r2702 r2704 r2706 hl hm
      refine r_iload S dX4_cheapestDoubters_37 (lv_at hl 6 rfl) ?_
      refine r_iload_n S dX4_cheapestDoubters_39 rfl (lv_at hl 3 rfl) ?_
      refine r_icmp_ge (tgt := 99) S dX4_cheapestDoubters_40 (by decide) (fun c2710 => ?_) (fun c2710 => ?_)
      ·
        refine r_iload S dX4_cheapestDoubters_99 (lv_at hl 4 rfl) ?_
        exact r_ret S hr hlk X2707 ⟨q10, F12⟩ rfl dX4_cheapestDoubters_101
      ·
        have r2711 : R (0) (1022) i2705 := ⟨by omega, by omega⟩
        have r2712 : R (1) (1023) v22 := ⟨by omega, by omega⟩
        refine r_iload S dX4_cheapestDoubters_43 (lv_at hl 6 rfl) ?_
        refine r_iload_n S dX4_cheapestDoubters_45 rfl (lv_at hl 3 rfl) ?_
        refine r_iconst S dX4_cheapestDoubters_46 (by decide) (fun v2713 z2714 => ?_)
        have r2715 := R_eq z2714
        refine r_ixor S dX4_cheapestDoubters_47 (fun v2716 z2717 => ?_)
        have r2718 := R_any v2716
        refine r_iand S dX4_cheapestDoubters_48 (fun v2719 z2720 => ?_)
        have r2722 : R (0) (1022) v2719 := i_and1 z2720 r2711 r2718 rfl
        have e2723 := i_andle z2720 r2711 rfl
        refine r_if_ne (tgt := 93) S dX4_cheapestDoubters_49 (by decide) (fun c2724 => ?_) (fun c2724 => ?_)
        ·
          have r2725 : R (1) (1022) v2719 := ⟨by omega, by omega⟩
          refine r_iinc (k := 6) S dX4_cheapestDoubters_93 hl rfl (by decide) (by decide) (fun v2726 d2727 ls z2728 z2729 hl => ?_)
          obtain ⟨e2730, r2731⟩ := i_add (lo := 1) (hi := 1023) z2728 r2711 (R_eq z2729) rfl
          have hl : lv_has ls 8 [(6, .int v2726), (0, .ref (G.2.2.2.1 45)), (1, .ref (G.2.2.2.1 22)), (2, .int a1), (3, .int v22), (4, .int i2701), (5, .int i2703)] := hl
          refine r_goto (tgt := 37) S dX4_cheapestDoubters_96 (by decide) ?_
          exact ih2709 _ _ _ i2701 i2703 v2726 X2707 r2702 r2704 (R_of r2731 rfl) (lv_sub hl [1, 2, 3, 4, 5, 6, 0] rfl) (by omega)
        ·
          have r2732 : R (0) (0) v2719 := ⟨by omega, by omega⟩
          refine r_aload_n S dX4_cheapestDoubters_52 rfl (lv_at hl 1 rfl) ?_
          refine r_aload_n S dX4_cheapestDoubters_53 rfl (lv_at hl 0 rfl) ?_
          refine r_get (K := 28) (v := .ref (G.2.2.2.1 46)) S X2707 (Nat.le_of_ble_eq_true rfl) rfl lk4_9_4 (fun _ => ⟨_, rfl, rfl⟩) dX4_cheapestDoubters_54 ?_
          refine r_iload_n S dX4_cheapestDoubters_57 rfl (lv_at hl 2 rfl) ?_
          refine r_iload S dX4_cheapestDoubters_58 (lv_at hl 6 rfl) ?_
          refine r_iconst S dX4_cheapestDoubters_60 (by decide) (fun v2733 z2734 => ?_)
          have r2735 := R_eq z2734
          refine r_ixor S dX4_cheapestDoubters_61 (fun v2736 z2737 => ?_)
          have r2738 := R_any v2736
          refine r_iand S dX4_cheapestDoubters_62 (fun v2739 z2740 => ?_)
          have r2742 : R (0) (1023) v2739 := i_and1 z2740 h_a1 r2738 rfl
          have e2743 := i_andle z2740 h_a1 rfl
          refine r_aldn (n := 1024) (K := 29) S X2707 (Nat.le_of_ble_eq_true rfl) rfl (fun _ => rfl) (ix_of r2742 rfl) dX4_cheapestDoubters_63 (fun v2744 z2745 => ?_)
          have r2747 := R_any v2744
          refine r_ki (q_V (As := [.int v2744]) (rest := []) (K := 22) (ci := 8) S X2707 (c_X10_isLevel l G t9 q10 v2744 r2747) ck4_48 (Nat.le_of_ble_eq_true rfl) rfl (fun _ => ⟨_, rfl⟩) ⟨_, _, rfl⟩ ⟨Nat.le_of_ble_eq_true rfl, Nat.le_of_ble_eq_true rfl⟩ rfl hl.1 rfl (Nat.le_of_ble_eq_true rfl) dX4_cheapestDoubters_64 ⟨Nat.le_refl 0, Nat.le_refl 0⟩) X2707 (fun v2751 t2750 H lc q2748 X2749 => ?_)
          unfold po_X10_isLevel at q2748
          obtain ⟨q2752, q2753⟩ := q2748
          rw [q2752] at X2749
          refine r_if_eq (tgt := 93) S dX4_cheapestDoubters_67 (by decide) (fun c2754 => ?_) (fun c2754 => ?_)
          ·
            have r2755 : R (0) (0) v2751 := ⟨by omega, by omega⟩
            refine r_iinc (k := 6) S dX4_cheapestDoubters_93 hl rfl (by decide) (by decide) (fun v2756 d2757 ls z2758 z2759 hl => ?_)
            obtain ⟨e2760, r2761⟩ := i_add (lo := 1) (hi := 1023) z2758 r2711 (R_eq z2759) rfl
            have hl : lv_has ls 8 [(6, .int v2756), (0, .ref (G.2.2.2.1 45)), (1, .ref (G.2.2.2.1 22)), (2, .int a1), (3, .int v22), (4, .int i2701), (5, .int i2703)] := hl
            refine r_goto (tgt := 37) S dX4_cheapestDoubters_96 (by decide) ?_
            exact ih2709 _ _ _ i2701 i2703 v2756 X2749 r2702 r2704 (R_of r2761 rfl) (lv_sub hl [1, 2, 3, 4, 5, 6, 0] rfl) (by omega)
          ·
            have r2762 : R (1) (1) v2751 := ⟨by omega, by omega⟩
            refine r_aload_n S dX4_cheapestDoubters_70 rfl (lv_at hl 1 rfl) ?_
            refine r_iload S dX4_cheapestDoubters_71 (lv_at hl 6 rfl) ?_
            refine r_ki (q_S (As := [.ref (G.2.2.2.1 22), .int i2705]) (rest := []) S X2749 (c_X4_priceOf l G t9 q10 i2705 (R_of (lo := -2147483648) (hi := 2147483647) r2711 rfl)) ck4_137 ⟨Nat.le_of_ble_eq_true rfl, Nat.le_of_ble_eq_true rfl⟩ rfl hl.1 rfl (Nat.le_of_ble_eq_true rfl) dX4_cheapestDoubters_73 ⟨Nat.le_refl 0, Nat.le_refl 0⟩) X2749 (fun v2766 t2765 H lc q2763 X2764 => ?_)
            unfold po_X4_priceOf at q2763
            have q2767 := q2763
            rw [q2767] at X2764
            have r2768 := R_any v2766
            refine r_istore (lv' := [(7, .int v2766), (0, .ref (G.2.2.2.1 45)), (1, .ref (G.2.2.2.1 22)), (2, .int a1), (3, .int v22), (4, .int i2701), (5, .int i2703), (6, .int i2705)]) S dX4_cheapestDoubters_76 hl (by decide) rfl (fun ls hl => ?_)
            refine r_iload S dX4_cheapestDoubters_78 (lv_at hl 0 rfl) ?_
            refine r_iload S dX4_cheapestDoubters_80 (lv_at hl 6 rfl) ?_
            refine r_icmp_ge (tgt := 93) S dX4_cheapestDoubters_82 (by decide) (fun c2769 => ?_) (fun c2769 => ?_)
            ·
              refine r_iinc (k := 7) S dX4_cheapestDoubters_93 hl rfl (by decide) (by decide) (fun v2770 d2771 ls z2772 z2773 hl => ?_)
              obtain ⟨e2774, r2775⟩ := i_add (lo := 1) (hi := 1023) z2772 r2711 (R_eq z2773) rfl
              have hl : lv_has ls 8 [(6, .int v2770), (7, .int v2766), (0, .ref (G.2.2.2.1 45)), (1, .ref (G.2.2.2.1 22)), (2, .int a1), (3, .int v22), (4, .int i2701), (5, .int i2703)] := hl
              refine r_goto (tgt := 37) S dX4_cheapestDoubters_96 (by decide) ?_
              exact ih2709 _ _ _ i2701 i2703 v2770 X2764 r2702 r2704 (R_of r2775 rfl) (lv_sub hl [2, 3, 4, 5, 6, 7, 0] rfl) (by omega)
            ·
              have r2776 : R (-2147483648) (2147483646) v2766 := ⟨by omega, by omega⟩
              have r2777 : R (-2147483647) (2147483647) i2703 := ⟨by omega, by omega⟩
              refine r_iload S dX4_cheapestDoubters_85 (lv_at hl 7 rfl) ?_
              refine r_istore (lv' := [(4, .int i2705), (7, .int v2766), (0, .ref (G.2.2.2.1 45)), (1, .ref (G.2.2.2.1 22)), (2, .int a1), (3, .int v22), (5, .int i2703), (6, .int i2705)]) S dX4_cheapestDoubters_87 hl (by decide) rfl (fun ls hl => ?_)
              refine r_iload S dX4_cheapestDoubters_89 (lv_at hl 1 rfl) ?_
              refine r_istore (lv' := [(5, .int v2766), (4, .int i2705), (7, .int v2766), (0, .ref (G.2.2.2.1 45)), (1, .ref (G.2.2.2.1 22)), (2, .int a1), (3, .int v22), (6, .int i2705)]) S dX4_cheapestDoubters_91 hl (by decide) rfl (fun ls hl => ?_)
              refine r_iinc (k := 7) S dX4_cheapestDoubters_93 hl rfl (by decide) (by decide) (fun v2778 d2779 ls z2780 z2781 hl => ?_)
              obtain ⟨e2782, r2783⟩ := i_add (lo := 1) (hi := 1023) z2780 r2711 (R_eq z2781) rfl
              have hl : lv_has ls 8 [(6, .int v2778), (5, .int v2766), (4, .int i2705), (7, .int v2766), (0, .ref (G.2.2.2.1 45)), (1, .ref (G.2.2.2.1 22)), (2, .int a1), (3, .int v22)] := hl
              refine r_goto (tgt := 37) S dX4_cheapestDoubters_96 (by decide) ?_
              exact ih2709 _ _ _ i2705 v2766 v2778 X2764 (R_of r2711 rfl) (R_of r2776 rfl) (R_of r2783 rfl) (lv_sub hl [4, 5, 6, 7, 2, 1, 0] rfl) (by omega)
  exact L2708 _ _ _ _ v22 v30 v33 X28 r25 r32 (R_of r35 rfl) (lv_sub hl [4, 5, 6, 3, 2, 1, 0] rfl) (Nat.lt_succ_self _)
