def po_X12_bitOf_x (τ : Tau)  (a0 a1 : Int32)   (r : Int32) (u : Tau) : Prop := u = τ ∧ R (0) (1) r ∧ (r.toInt = 0 → (a0 >>> (a1 &&& 31)) &&& 1 ≠ 1) ∧ (r.toInt = 1 → (a0 >>> (a1 &&& 31)) &&& 1 = 1)
set_option maxHeartbeats 4000000 in
set_option maxRecDepth 100000 in
theorem c_X12_bitOf_x (l : Launch) (G : Gx) (τ : Tau) (hI : Inv τ) (a0 : Int32) (a1 : Int32) (h_a0 : R (-2147483648) (2147483647) a0) (h_a1 : R (-2147483648) (2147483647) a1) : Ci l G yX12_bitOf cX12_bitOf 2 (some .boolean) 0 0 [.int a0, .int a1] τ (po_X12_bitOf_x τ  a0 a1  ) := by
  unfold Ci
  refine C_of (own := RX12) (by decide) rfl (Nat.le_of_ble_eq_true rfl) ?_
  intro p e s m below meth c ls S hr hlk X hl
  have hl : lv_has ls 2 [(0, .int a0), (1, .int a1)] := hl
  refine r_iload_n S dX12_bitOf_0 rfl (lv_at hl 0 rfl) ?_
  refine r_iload_n S dX12_bitOf_1 rfl (lv_at hl 1 rfl) ?_
  refine r_ishr S dX12_bitOf_2 (fun v1 z2 => ?_)
  have r3 := R_any v1
  refine r_iconst S dX12_bitOf_3 (by decide) (fun v4 z5 => ?_)
  have r6 := R_eq z5
  refine r_iand S dX12_bitOf_4 (fun v7 z8 => ?_)
  have r10 : R (0) (1) v7 := i_and2 z8 r3 r6 rfl
  refine r_iconst S dX12_bitOf_5 (by decide) (fun v11 z12 => ?_)
  have r13 := R_eq z12
  refine r_icmp_ne (tgt := 13) S dX12_bitOf_6 (by decide) (fun c14 => ?_) (fun c14 => ?_)
  ·
    have r15 : R (0) (0) v7 := ⟨by omega, by omega⟩
    refine r_iconst S dX12_bitOf_13 (by decide) (fun v16 z17 => ?_)
    have r18 := R_eq z17
    exact r_ret S hr hlk X ⟨rfl, (R_of r18 rfl), (fun _ => bit_no z2 (by omega) z8 (by omega) (by omega)), (fun h => by exfalso; omega)⟩ (nr_bool (R_of (lo := 0) (hi := 1) r18 rfl)) dX12_bitOf_14
  ·
    have r19 : R (1) (1) v7 := ⟨by omega, by omega⟩
    refine r_iconst S dX12_bitOf_9 (by decide) (fun v20 z21 => ?_)
    have r22 := R_eq z21
    refine r_goto (tgt := 14) S dX12_bitOf_10 (by decide) ?_
    exact r_ret S hr hlk X ⟨rfl, (R_of r22 rfl), (fun h => by exfalso; omega), (fun _ => bit_yes z2 (by omega) z8 (by omega) (by omega))⟩ (nr_bool (R_of (lo := 0) (hi := 1) r22 rfl)) dX12_bitOf_14
def po_X12_leastIn (τ : Tau)  (a0 : Int32)   (r : Int32) (u : Tau) : Prop := u = τ ∧ R (0) (9) r ∧ (a0 >>> (r &&& 31)) &&& 1 = 1
set_option maxHeartbeats 4000000 in
set_option maxRecDepth 100000 in
theorem c_X12_leastIn (l : Launch) (G : Gx) (τ : Tau) (hI : Inv τ) (a0 : Int32) (h_a0 : R (1) (1023) a0) : Ci l G yX12_leastIn cX12_leastIn 3 (some .int) 1 21 [.ref (G.2.2.2.1 131), .int a0] τ (po_X12_leastIn τ  a0  ) := by
  unfold Ci
  refine C_of (own := RX12) (by decide) rfl (Nat.le_of_ble_eq_true rfl) ?_
  intro p e s m below meth c ls S hr hlk X hl
  have hl : lv_has ls 3 [(0, .ref (G.2.2.2.1 131)), (1, .int a0)] := hl
  refine r_iconst S dX12_leastIn_0 (by decide) (fun v1 z2 => ?_)
  have r3 := R_eq z2
  refine r_istore_n (lv' := [(2, .int v1), (0, .ref (G.2.2.2.1 131)), (1, .int a0)]) S dX12_leastIn_1 rfl hl (by decide) rfl (fun ls hl => ?_)
  have L51 : ∀ (n : Nat) (H : Heap) (lc : List Loc) (ls : Array Slot) (i48 : Int32), Xd G s H lc τ → R (0) (10) i48 → LZ a0 i48 → lv_has ls 3 [(1, .int a0), (2, .int i48)] → (10 - i48.toInt).toNat < n → W p l e (Rm 1 21) s m ([.ref (G.2.2.2.1 131), .int a0] : List Value).toArray below meth c H lc 0 0 (MQ below (va_Qi (po_X12_leastIn τ  a0  ) (Bs G) G.2.2.2.2) ([.ref (G.2.2.2.1 131), .int a0] : List Value).toArray s 0 0 G.2.2.2.2) (F0 m 2 ls []) := by
    intro n
    induction n with
    | zero => intros; omega
    | succ n ih53 =>
      intro H lc ls i48 X50 r49 x52 hl hm
      have h54 := LZ_le x52 ⟨by omega, by omega⟩ (by omega)
      have r55 : R (0) (9) i48 := ⟨by omega, by omega⟩
      refine r_iload_n S dX12_leastIn_2 rfl (lv_at hl 0 rfl) ?_
      refine r_iload_n S dX12_leastIn_3 rfl (lv_at hl 1 rfl) ?_
      refine r_ki (q_S (As := [.int a0, .int i48]) (rest := []) S X50 (c_X12_bitOf_x l G τ hI a0 i48 (R_of (lo := -2147483648) (hi := 2147483647) h_a0 rfl) (R_of (lo := -2147483648) (hi := 2147483647) r55 rfl)) ck12_221 ⟨Nat.le_of_ble_eq_true rfl, Nat.le_of_ble_eq_true rfl⟩ rfl hl.1 rfl (Nat.le_of_ble_eq_true rfl) dX12_leastIn_4 ⟨Nat.le_refl 0, Nat.le_refl 0⟩) X50 (fun v59 t58 H lc q56 X57 => ?_)
      unfold po_X12_bitOf_x at q56
      obtain ⟨q60, q61, q62, q63⟩ := q56
      rw [q60] at X57
      refine r_if_ne (tgt := 16) S dX12_leastIn_7 (by decide) (fun c64 => ?_) (fun c64 => ?_)
      ·
        have r65 : R (1) (1) v59 := ⟨by omega, by omega⟩
        refine r_iload_n S dX12_leastIn_16 rfl (lv_at hl 1 rfl) ?_
        exact r_ret S hr hlk X57 ⟨rfl, r55, (q63 (by omega))⟩ rfl dX12_leastIn_17
      ·
        have r66 : R (0) (0) v59 := ⟨by omega, by omega⟩
        refine r_iinc (k := 1) S dX12_leastIn_10 hl rfl (by decide) (by decide) (fun v67 d68 ls z69 z70 hl => ?_)
        obtain ⟨e71, r72⟩ := i_add (lo := 1) (hi := 10) z69 r55 (R_eq z70) rfl
        have hl : lv_has ls 3 [(2, .int v67), (1, .int a0)] := hl
        refine r_goto (tgt := 2) S dX12_leastIn_13 (by decide) ?_
        exact ih53 _ _ _ v67 X57 (R_of r72 rfl) (LZ_step x52 ⟨by omega, by omega⟩ (by omega) (q62 (by omega)) (by omega)) (lv_sub hl [1, 0] rfl) (by omega)
  exact L51 _ _ _ _ v1 X (R_of r3 rfl) (LZ_0 (by omega)) (lv_sub hl [2, 0] rfl) (Nat.lt_succ_self _)
def po_X12_couples (τ : Tau)     (r : Int32) (u : Tau) : Prop := Inv u ∧ Fr [(131, 0), (131, 33)] [143, 144] τ u
set_option maxHeartbeats 4000000 in
set_option maxRecDepth 100000 in
theorem c_X12_couples (l : Launch) (G : Gx) (τ : Tau) (hI : Inv τ) : Ci l G yX12_couples cX12_couples 6 (some .int) 5 115 [.ref (G.2.2.2.1 131)] τ (po_X12_couples τ    ) := by
  unfold Ci
  refine C_of (own := RX12) (by decide) rfl (Nat.le_of_ble_eq_true rfl) ?_
  intro p e s m below meth c ls S hr hlk X hl
  have hl : lv_has ls 6 [(0, .ref (G.2.2.2.1 131))] := hl
  refine r_aload_n S dX12_couples_0 rfl (lv_at hl 0 rfl) ?_
  refine r_iconst S dX12_couples_1 (by decide) (fun v1 z2 => ?_)
  have r3 := R_eq z2
  refine r_put (K := 38) (ty := .int) S X (Nat.le_of_ble_eq_true rfl) rfl lk12_1_10 (fun _ => ⟨_, rfl, Nat.le_of_ble_eq_true rfl, rfl⟩) (fun _ _ _ h => by cases h; exact ⟨rfl, rfl⟩) rfl rfl dX12_couples_2 (fun t4 H lc M5 X6 => ?_)
  have I7 := Inv_mu hI M5 (R_any v1)
  have F8 : Fr [(131, 0), (131, 33)] [143, 144] τ t4 := Fr_mu Fr_rfl M5 (by decide)
  refine r_iconst S dX12_couples_5 (by decide) (fun v9 z10 => ?_)
  have r11 := R_eq z10
  refine r_aload_n S dX12_couples_6 rfl (lv_at hl 0 rfl) ?_
  refine r_get (K := 38) (v := .ref (G.2.2.2.1 133)) S X6 (Nat.le_of_ble_eq_true rfl) rfl lk12_33_10 (fun _ => ⟨_, rfl, rfl⟩) dX12_couples_7 ?_
  refine r_iconst S dX12_couples_10 (by decide) (fun v12 z13 => ?_)
  have r14 := R_eq z13
  refine r_aldn (n := 513) (K := 40) S X6 (Nat.le_of_ble_eq_true rfl) rfl (fun _ => rfl) (ix_of r14 rfl) dX12_couples_11 (fun v15 z16 => ?_)
  have r17 : R (0) (10) v15 := rds (K := 40) (a := 1) (n := 1) I7 rfl z16 (R_of r14 rfl) (by decide +kernel)
  refine r_ishl S dX12_couples_12 (fun v18 z19 => ?_)
  have r21 : R (1) (1024) v18 := i_shl z19 r11 r17 rfl
  refine r_iconst S dX12_couples_13 (by decide) (fun v22 z23 => ?_)
  have r24 := R_eq z23
  refine r_isub S dX12_couples_14 (fun v25 z26 => ?_)
  obtain ⟨e27, r28⟩ := i_sub (lo := 0) (hi := 1023) z26 r21 r24 rfl
  refine r_istore_n (lv' := [(1, .int v25), (0, .ref (G.2.2.2.1 131))]) S dX12_couples_15 rfl hl (by decide) rfl (fun ls hl => ?_)
  refine r_iconst S dX12_couples_16 (by decide) (fun v29 z30 => ?_)
  have r31 := R_eq z30
  refine r_istore_n (lv' := [(2, .int v29), (1, .int v25), (0, .ref (G.2.2.2.1 131))]) S dX12_couples_17 rfl hl (by decide) rfl (fun ls hl => ?_)
  have L40019 : ∀ (n : Nat) (t40013 : Tau) (H : Heap) (lc : List Loc) (ls : Array Slot) (i40011 : Int32), Xd G s H lc t40013 → Inv t40013 → Fr [(131, 0), (131, 33)] [143, 144] τ t40013 → R (1) (1024) i40011 → t40013 131 0 = v1 → t40013 133 1 = v15 → lv_has ls 6 [(0, .ref (G.2.2.2.1 131)), (1, .int v25), (2, .int i40011)] → (1024 - i40011.toInt).toNat < n → W p l e (Rm 5 115) s m ([.ref (G.2.2.2.1 131)] : List Value).toArray below meth c H lc 0 0 (MQ below (va_Qi (po_X12_couples τ    ) (Bs G) G.2.2.2.2) ([.ref (G.2.2.2.1 131)] : List Value).toArray s 0 0 G.2.2.2.2) (F0 m 18 ls []) := by
    intro n
    induction n with
    | zero => intros; omega
    | succ n ih40020 =>
      intro t40013 H lc ls i40011 X40016 I40014 F40015 r40012 z40017 z40018 hl hm
      refine r_iload_n S dX12_couples_18 rfl (lv_at hl 2 rfl) ?_
      refine r_iload_n S dX12_couples_19 rfl (lv_at hl 1 rfl) ?_
      refine r_icmp_gt (tgt := 144) S dX12_couples_20 (by decide) (fun c40021 => ?_) (fun c40021 => ?_)
      ·
        refine r_iload_n S dX12_couples_144 rfl (lv_at hl 1 rfl) ?_
        refine r_istore_n (lv' := [(2, .int v25), (0, .ref (G.2.2.2.1 131)), (1, .int v25)]) S dX12_couples_145 rfl hl (by decide) rfl (fun ls hl => ?_)
        have L42583 : ∀ (n : Nat) (t42577 : Tau) (H : Heap) (lc : List Loc) (ls : Array Slot) (i42575 : Int32), Xd G s H lc t42577 → Inv t42577 → Fr [(131, 0), (131, 33)] [143, 144] τ t42577 → R (0) (1023) i42575 → t42577 131 0 = v1 → t42577 133 1 = v15 → lv_has ls 6 [(0, .ref (G.2.2.2.1 131)), (1, .int v25), (2, .int i42575)] → (i42575.toInt).toNat < n → W p l e (Rm 5 115) s m ([.ref (G.2.2.2.1 131)] : List Value).toArray below meth c H lc 0 0 (MQ below (va_Qi (po_X12_couples τ    ) (Bs G) G.2.2.2.2) ([.ref (G.2.2.2.1 131)] : List Value).toArray s 0 0 G.2.2.2.2) (F0 m 146 ls []) := by
          intro n
          induction n with
          | zero => intros; omega
          | succ n ih42584 =>
            intro t42577 H lc ls i42575 X42580 I42578 F42579 r42576 z42581 z42582 hl hm
            refine r_iload_n S dX12_couples_146 rfl (lv_at hl 2 rfl) ?_
            refine r_if_eq (tgt := 278) S dX12_couples_147 (by decide) (fun c42585 => ?_) (fun c42585 => ?_)
            ·
              have r42586 : R (0) (0) i42575 := ⟨by omega, by omega⟩
              refine r_aload_n S dX12_couples_278 rfl (lv_at hl 0 rfl) ?_
              refine r_aload_n S dX12_couples_279 rfl (lv_at hl 0 rfl) ?_
              refine r_get (K := 38) (v := .ref (G.2.2.2.1 133)) S X42580 (Nat.le_of_ble_eq_true rfl) rfl lk12_33_10 (fun _ => ⟨_, rfl, rfl⟩) dX12_couples_280 ?_
              refine r_iconst S dX12_couples_283 (by decide) (fun v42587 z42588 => ?_)
              have r42589 := R_eq z42588
              refine r_aldi (x := v15) (n := 513) (K := 40) S X42580 (Nat.le_of_ble_eq_true rfl) rfl (fun _ => rfl) (ix_of r42589 rfl) (zc' (n := 1) (by omega) z42582) dX12_couples_284 ?_
              refine r_put (K := 38) (ty := .int) S X42580 (Nat.le_of_ble_eq_true rfl) rfl lk12_72_10 (fun _ => ⟨_, rfl, Nat.le_of_ble_eq_true rfl, rfl⟩) (fun _ _ _ h => by cases h; exact ⟨rfl, rfl⟩) rfl rfl dX12_couples_285 (fun t42591 H lc M42592 X42593 => ?_)
              have I42594 := Inv_mu I42578 M42592 (show Rg (kd 131) 33 v15 from (R_of (lo := -1) (hi := 10) r17 rfl))
              have F42595 : Fr [(131, 0), (131, 33)] [143, 144] τ t42591 := Fr_mu F42579 M42592 (by decide)
              refine r_aload_n S dX12_couples_288 rfl (lv_at hl 0 rfl) ?_
              refine r_get (K := 38) (v := .ref (G.2.2.2.1 143)) S X42593 (Nat.le_of_ble_eq_true rfl) rfl lk12_66_10 (fun _ => ⟨_, rfl, rfl⟩) dX12_couples_289 ?_
              refine r_iload_n S dX12_couples_292 rfl (lv_at hl 1 rfl) ?_
              refine r_aldn (n := 1024) (K := 50) S X42593 (Nat.le_of_ble_eq_true rfl) rfl (fun _ => rfl) (ix_of r28 rfl) dX12_couples_293 (fun v42596 z42597 => ?_)
              have r42599 := R_any v42596
              exact r_ret S hr hlk X42593 ⟨I42594, F42595⟩ rfl dX12_couples_294
            ·
              have r42600 : R (1) (1023) i42575 := ⟨by omega, by omega⟩
              refine r_aload_n S dX12_couples_150 rfl (lv_at hl 0 rfl) ?_
              refine r_iload_n S dX12_couples_151 rfl (lv_at hl 2 rfl) ?_
              refine r_ki (q_V (As := [.int i42575]) (rest := []) (K := 38) (ci := 10) S X42580 (c_X12_leastIn l G t42577 I42578 i42575 r42600) ck12_357 (Nat.le_of_ble_eq_true rfl) rfl (fun _ => ⟨_, rfl⟩) ⟨_, _, rfl⟩ ⟨Nat.le_of_ble_eq_true rfl, Nat.le_of_ble_eq_true rfl⟩ rfl hl.1 rfl (Nat.le_of_ble_eq_true rfl) dX12_couples_152 ⟨Nat.le_refl 0, Nat.le_refl 0⟩) X42580 (fun v42604 t42603 H lc q42601 X42602 => ?_)
              unfold po_X12_leastIn at q42601
              obtain ⟨q42605, q42606, q42607⟩ := q42601
              rw [q42605] at X42602
              refine r_istore_n (lv' := [(3, .int v42604), (0, .ref (G.2.2.2.1 131)), (1, .int v25), (2, .int i42575)]) S dX12_couples_155 rfl hl (by decide) rfl (fun ls hl => ?_)
              refine r_iload_n S dX12_couples_156 rfl (lv_at hl 3 rfl) ?_
              refine r_iconst S dX12_couples_157 (by decide) (fun v42608 z42609 => ?_)
              have r42610 := R_eq z42609
              refine r_iload_n S dX12_couples_158 rfl (lv_at hl 0 rfl) ?_
              refine r_ishl S dX12_couples_159 (fun v42611 z42612 => ?_)
              have r42614 : R (1) (512) v42611 := i_shl z42612 r42610 q42606 rfl
              refine r_iconst S dX12_couples_160 (by decide) (fun v42615 z42616 => ?_)
              have r42617 := R_eq z42616
              refine r_ixor S dX12_couples_161 (fun v42618 z42619 => ?_)
              have r42620 := R_any v42618
              refine r_iand S dX12_couples_162 (fun v42621 z42622 => ?_)
              have r42624 : R (0) (1023) v42621 := i_and1 z42622 r42600 r42620 rfl
              have e42625 := i_andle z42622 r42600 rfl
              have h42626 := and_clr (x := i42575) (m := v42604) (by omega) z42612 (by omega) z42619 z42622 ⟨by omega, by omega⟩ ⟨by omega, by omega⟩ q42607
              refine r_istore_n (lv' := [(2, .int v42621), (3, .int v42604), (0, .ref (G.2.2.2.1 131)), (1, .int v25)]) S dX12_couples_163 rfl hl (by decide) rfl (fun ls hl => ?_)
              refine r_aload_n S dX12_couples_164 rfl (lv_at hl 2 rfl) ?_
              refine r_get (K := 38) (v := .ref (G.2.2.2.1 144)) S X42602 (Nat.le_of_ble_eq_true rfl) rfl lk12_69_10 (fun _ => ⟨_, rfl, rfl⟩) dX12_couples_165 ?_
              refine r_iload_n S dX12_couples_168 rfl (lv_at hl 1 rfl) ?_
              refine r_iconst S dX12_couples_169 (by decide) (fun v42627 z42628 => ?_)
              have r42629 := R_eq z42628
              refine r_ast (n := 10) (K := 51) S X42602 (Nat.le_of_ble_eq_true rfl) rfl (fun _ _ => rfl) (ix_of q42606 rfl) dX12_couples_170 (fun t42630 H lc M42631 X42632 => ?_)
              have I42633 := Inv_mu I42578 M42631 (show Rg (kd 144) _ v42627 from (R_of (lo := -1) (hi := 9) r42629 rfl))
              have F42634 : Fr [(131, 0), (131, 33)] [143, 144] τ t42630 := Fr_cell F42579 M42631 (by decide)
              refine r_iconst S dX12_couples_171 (by decide) (fun v42635 z42636 => ?_)
              have r42637 := R_eq z42636
              refine r_istore (lv' := [(4, .int v42635), (2, .int v42621), (3, .int v42604), (0, .ref (G.2.2.2.1 131)), (1, .int v25)]) S dX12_couples_172 hl (by decide) rfl (fun ls hl => ?_)
              have L43739 : ∀ (n : Nat) (t43733 : Tau) (H : Heap) (lc : List Loc) (ls : Array Slot) (i43729 : Int32) (i43731 : Int32), Xd G s H lc t43733 → Inv t43733 → Fr [(131, 0), (131, 33)] [143, 144] τ t43733 → R (0) (1023) i43729 → R (0) (10) i43731 → t43733 131 0 = v1 → t43733 133 1 = v15 → i43729.toInt ≤ v42621.toInt → lv_has ls 6 [(0, .ref (G.2.2.2.1 131)), (1, .int v25), (2, .int i43729), (3, .int v42604), (4, .int i43731)] → (10 - i43731.toInt).toNat < n → W p l e (Rm 5 115) s m ([.ref (G.2.2.2.1 131)] : List Value).toArray below meth c H lc 0 0 (MQ below (va_Qi (po_X12_couples τ    ) (Bs G) G.2.2.2.2) ([.ref (G.2.2.2.1 131)] : List Value).toArray s 0 0 G.2.2.2.2) (F0 m 174 ls []) := by
                intro n
                induction n with
                | zero => intros; omega
                | succ n ih43741 =>
                  intro t43733 H lc ls i43729 i43731 X43736 I43734 F43735 r43730 r43732 z43737 z43738 x43740 hl hm
                  refine r_iload S dX12_couples_174 (lv_at hl 4 rfl) ?_
                  refine r_aload_n S dX12_couples_176 rfl (lv_at hl 0 rfl) ?_
                  refine r_get (K := 38) (v := .ref (G.2.2.2.1 133)) S X43736 (Nat.le_of_ble_eq_true rfl) rfl lk12_33_10 (fun _ => ⟨_, rfl, rfl⟩) dX12_couples_177 ?_
                  refine r_iconst S dX12_couples_180 (by decide) (fun v43742 z43743 => ?_)
                  have r43744 := R_eq z43743
                  refine r_aldi (x := v15) (n := 513) (K := 40) S X43736 (Nat.le_of_ble_eq_true rfl) rfl (fun _ => rfl) (ix_of r43744 rfl) (zc' (n := 1) (by omega) z43738) dX12_couples_181 ?_
                  refine r_icmp_ge (tgt := 275) S dX12_couples_182 (by decide) (fun c43746 => ?_) (fun c43746 => ?_)
                  ·
                    refine r_goto (tgt := 146) S dX12_couples_275 (by decide) ?_
                    exact ih42584 t43733 _ _ _ i43729 X43736 I43734 F43735 r43730 z43737 z43738 (lv_sub hl [0, 1, 2] rfl) (by omega)
                  ·
                    have r43747 : R (0) (9) i43731 := ⟨by omega, by omega⟩
                    have r43748 : R (1) (10) v15 := ⟨by omega, by omega⟩
                    refine r_aload_n S dX12_couples_185 rfl (lv_at hl 0 rfl) ?_
                    refine r_get (K := 38) (v := .ref (G.2.2.2.1 144)) S X43736 (Nat.le_of_ble_eq_true rfl) rfl lk12_69_10 (fun _ => ⟨_, rfl, rfl⟩) dX12_couples_186 ?_
                    refine r_iload_n S dX12_couples_189 rfl (lv_at hl 3 rfl) ?_
                    refine r_aldn (n := 10) (K := 51) S X43736 (Nat.le_of_ble_eq_true rfl) rfl (fun _ => rfl) (ix_of q42606 rfl) dX12_couples_190 (fun v43749 z43750 => ?_)
                    have r43751 : R (-1) (9) v43749 := rd I43734 rfl z43750
                    refine r_if_ge (tgt := 275) S dX12_couples_191 (by decide) (fun c43752 => ?_) (fun c43752 => ?_)
                    ·
                      have r43753 : R (0) (9) v43749 := ⟨by omega, by omega⟩
                      refine r_goto (tgt := 146) S dX12_couples_275 (by decide) ?_
                      exact ih42584 t43733 _ _ _ i43729 X43736 I43734 F43735 r43730 z43737 z43738 (lv_sub hl [0, 1, 2] rfl) (by omega)
                    ·
                      have r43754 : R (-1) (-1) v43749 := ⟨by omega, by omega⟩
                      refine r_iload_n S dX12_couples_194 rfl (lv_at hl 2 rfl) ?_
                      refine r_iload S dX12_couples_195 (lv_at hl 4 rfl) ?_
                      refine r_ki (q_S (As := [.int i43729, .int i43731]) (rest := []) S X43736 (c_X12_bitOf l G t43733 I43734 i43729 i43731 (R_of (lo := -2147483648) (hi := 2147483647) r43730 rfl) (R_of (lo := -2147483648) (hi := 2147483647) r43747 rfl)) ck12_221 ⟨Nat.le_of_ble_eq_true rfl, Nat.le_of_ble_eq_true rfl⟩ rfl hl.1 rfl (Nat.le_of_ble_eq_true rfl) dX12_couples_197 ⟨Nat.le_refl 0, Nat.le_refl 0⟩) X43736 (fun v43758 t43757 H lc q43755 X43756 => ?_)
                      unfold po_X12_bitOf at q43755
                      obtain ⟨q43759, q43760⟩ := q43755
                      rw [q43759] at X43756
                      refine r_if_eq (tgt := 269) S dX12_couples_200 (by decide) (fun c43761 => ?_) (fun c43761 => ?_)
                      ·
                        have r43762 : R (0) (0) v43758 := ⟨by omega, by omega⟩
                        refine r_iinc (k := 4) S dX12_couples_269 hl rfl (by decide) (by decide) (fun v43763 d43764 ls z43765 z43766 hl => ?_)
                        obtain ⟨e43767, r43768⟩ := i_add (lo := 1) (hi := 10) z43765 r43747 (R_eq z43766) rfl
                        have hl : lv_has ls 6 [(4, .int v43763), (0, .ref (G.2.2.2.1 131)), (1, .int v25), (2, .int i43729), (3, .int v42604)] := hl
                        refine r_goto (tgt := 174) S dX12_couples_272 (by decide) ?_
                        exact ih43741 t43733 _ _ _ i43729 v43763 X43756 I43734 F43735 r43730 (R_of r43768 rfl) z43737 z43738 (by omega) (lv_sub hl [1, 2, 3, 4, 0] rfl) (by omega)
                      ·
                        have r43769 : R (1) (1) v43758 := ⟨by omega, by omega⟩
                        refine r_iconst S dX12_couples_203 (by decide) (fun v43770 z43771 => ?_)
                        have r43772 := R_eq z43771
                        refine r_aload_n S dX12_couples_204 rfl (lv_at hl 0 rfl) ?_
                        refine r_get (K := 38) (v := .ref (G.2.2.2.1 143)) S X43756 (Nat.le_of_ble_eq_true rfl) rfl lk12_66_10 (fun _ => ⟨_, rfl, rfl⟩) dX12_couples_205 ?_
                        refine r_iload_n S dX12_couples_208 rfl (lv_at hl 2 rfl) ?_
                        refine r_iconst S dX12_couples_209 (by decide) (fun v43773 z43774 => ?_)
                        have r43775 := R_eq z43774
                        refine r_iload S dX12_couples_210 (lv_at hl 4 rfl) ?_
                        refine r_ishl S dX12_couples_212 (fun v43776 z43777 => ?_)
                        have r43779 : R (1) (512) v43776 := i_shl z43777 r43775 r43747 rfl
                        refine r_iconst S dX12_couples_213 (by decide) (fun v43780 z43781 => ?_)
                        have r43782 := R_eq z43781
                        refine r_ixor S dX12_couples_214 (fun v43783 z43784 => ?_)
                        have r43785 := R_any v43783
                        refine r_iand S dX12_couples_215 (fun v43786 z43787 => ?_)
                        have r43789 : R (0) (1023) v43786 := i_and1 z43787 r43730 r43785 rfl
                        have e43790 := i_andle z43787 r43730 rfl
                        refine r_aldn (n := 1024) (K := 50) S X43756 (Nat.le_of_ble_eq_true rfl) rfl (fun _ => rfl) (ix_of r43789 rfl) dX12_couples_216 (fun v43791 z43792 => ?_)
                        have r43794 := R_any v43791
                        refine r_iadd S dX12_couples_217 (fun v43795 z43796 => ?_)
                        have r43797 := R_any v43795
                        refine r_aload_n S dX12_couples_218 rfl (lv_at hl 0 rfl) ?_
                        refine r_get (K := 38) (v := .ref (G.2.2.2.1 143)) S X43756 (Nat.le_of_ble_eq_true rfl) rfl lk12_66_10 (fun _ => ⟨_, rfl, rfl⟩) dX12_couples_219 ?_
                        refine r_iload_n S dX12_couples_222 rfl (lv_at hl 2 rfl) ?_
                        refine r_iconst S dX12_couples_223 (by decide) (fun v43798 z43799 => ?_)
                        have r43800 := R_eq z43799
                        refine r_iload_n S dX12_couples_224 rfl (lv_at hl 3 rfl) ?_
                        refine r_ishl S dX12_couples_225 (fun v43801 z43802 => ?_)
                        have r43804 : R (1) (512) v43801 := i_shl z43802 r43800 q42606 rfl
                        refine r_ior S dX12_couples_226 (fun v43805 z43806 => ?_)
                        have r43808 : R (0) (1023) v43805 := i_or 10 z43806 r43730 r43804 rfl
                        refine r_aldn (n := 1024) (K := 50) S X43756 (Nat.le_of_ble_eq_true rfl) rfl (fun _ => rfl) (ix_of r43808 rfl) dX12_couples_227 (fun v43809 z43810 => ?_)
                        have r43812 := R_any v43809
                        refine r_icmp_ne (tgt := 269) S dX12_couples_228 (by decide) (fun c43813 => ?_) (fun c43813 => ?_)
                        ·
                          refine r_iinc (k := 4) S dX12_couples_269 hl rfl (by decide) (by decide) (fun v43814 d43815 ls z43816 z43817 hl => ?_)
                          obtain ⟨e43818, r43819⟩ := i_add (lo := 1) (hi := 10) z43816 r43747 (R_eq z43817) rfl
                          have hl : lv_has ls 6 [(4, .int v43814), (0, .ref (G.2.2.2.1 131)), (1, .int v25), (2, .int i43729), (3, .int v42604)] := hl
                          refine r_goto (tgt := 174) S dX12_couples_272 (by decide) ?_
                          exact ih43741 t43733 _ _ _ i43729 v43814 X43756 I43734 F43735 r43730 (R_of r43819 rfl) z43737 z43738 (by omega) (lv_sub hl [1, 2, 3, 4, 0] rfl) (by omega)
                        ·
                          refine r_aload_n S dX12_couples_231 rfl (lv_at hl 0 rfl) ?_
                          refine r_iload_n S dX12_couples_232 rfl (lv_at hl 3 rfl) ?_
                          refine r_iload S dX12_couples_233 (lv_at hl 4 rfl) ?_
                          refine r_ki (q_V (As := [.int v42604, .int i43731]) (rest := []) (K := 38) (ci := 10) S X43756 (c_X12_canPair l G t43733 I43734 v42604 i43731 q42606 r43747) ck12_360 (Nat.le_of_ble_eq_true rfl) rfl (fun _ => ⟨_, rfl⟩) ⟨_, _, rfl⟩ ⟨Nat.le_of_ble_eq_true rfl, Nat.le_of_ble_eq_true rfl⟩ rfl hl.1 rfl (Nat.le_of_ble_eq_true rfl) dX12_couples_235 ⟨Nat.le_refl 0, Nat.le_refl 0⟩) X43756 (fun v43823 t43822 H lc q43820 X43821 => ?_)
                          unfold po_X12_canPair at q43820
                          obtain ⟨q43824, q43825⟩ := q43820
                          rw [q43824] at X43821
                          refine r_if_ne (tgt := 244) S dX12_couples_238 (by decide) (fun c43826 => ?_) (fun c43826 => ?_)
                          ·
                            have r43827 : R (1) (1) v43823 := ⟨by omega, by omega⟩
                            refine r_aload_n S dX12_couples_244 rfl (lv_at hl 0 rfl) ?_
                            refine r_get (K := 38) (v := .ref (G.2.2.2.1 144)) S X43821 (Nat.le_of_ble_eq_true rfl) rfl lk12_69_10 (fun _ => ⟨_, rfl, rfl⟩) dX12_couples_245 ?_
                            refine r_iload_n S dX12_couples_248 rfl (lv_at hl 3 rfl) ?_
                            refine r_iload S dX12_couples_249 (lv_at hl 4 rfl) ?_
                            refine r_ast (n := 10) (K := 51) S X43821 (Nat.le_of_ble_eq_true rfl) rfl (fun _ _ => rfl) (ix_of q42606 rfl) dX12_couples_251 (fun t43828 H lc M43829 X43830 => ?_)
                            have I43831 := Inv_mu I43734 M43829 (show Rg (kd 144) _ i43731 from (R_of (lo := -1) (hi := 9) r43747 rfl))
                            have F43832 : Fr [(131, 0), (131, 33)] [143, 144] τ t43828 := Fr_cell F43735 M43829 (by decide)
                            refine r_aload_n S dX12_couples_252 rfl (lv_at hl 0 rfl) ?_
                            refine r_get (K := 38) (v := .ref (G.2.2.2.1 144)) S X43830 (Nat.le_of_ble_eq_true rfl) rfl lk12_69_10 (fun _ => ⟨_, rfl, rfl⟩) dX12_couples_253 ?_
                            refine r_iload S dX12_couples_256 (lv_at hl 4 rfl) ?_
                            refine r_iload_n S dX12_couples_258 rfl (lv_at hl 3 rfl) ?_
                            refine r_ast (n := 10) (K := 51) S X43830 (Nat.le_of_ble_eq_true rfl) rfl (fun _ _ => rfl) (ix_of r43747 rfl) dX12_couples_259 (fun t43833 H lc M43834 X43835 => ?_)
                            have I43836 := Inv_mu I43831 M43834 (show Rg (kd 144) _ v42604 from (R_of (lo := -1) (hi := 9) q42606 rfl))
                            have F43837 : Fr [(131, 0), (131, 33)] [143, 144] τ t43833 := Fr_cell F43832 M43834 (by decide)
                            refine r_iload_n S dX12_couples_260 rfl (lv_at hl 2 rfl) ?_
                            refine r_iconst S dX12_couples_261 (by decide) (fun v43838 z43839 => ?_)
                            have r43840 := R_eq z43839
                            refine r_iload S dX12_couples_262 (lv_at hl 4 rfl) ?_
                            refine r_ishl S dX12_couples_264 (fun v43841 z43842 => ?_)
                            have r43844 : R (1) (512) v43841 := i_shl z43842 r43840 r43747 rfl
                            refine r_iconst S dX12_couples_265 (by decide) (fun v43845 z43846 => ?_)
                            have r43847 := R_eq z43846
                            refine r_ixor S dX12_couples_266 (fun v43848 z43849 => ?_)
                            have r43850 := R_any v43848
                            refine r_iand S dX12_couples_267 (fun v43851 z43852 => ?_)
                            have r43854 : R (0) (1023) v43851 := i_and1 z43852 r43730 r43850 rfl
                            have e43855 := i_andle z43852 r43730 rfl
                            refine r_istore_n (lv' := [(2, .int v43851), (0, .ref (G.2.2.2.1 131)), (1, .int v25), (3, .int v42604), (4, .int i43731)]) S dX12_couples_268 rfl hl (by decide) rfl (fun ls hl => ?_)
                            refine r_iinc (k := 4) S dX12_couples_269 hl rfl (by decide) (by decide) (fun v43856 d43857 ls z43858 z43859 hl => ?_)
                            obtain ⟨e43860, r43861⟩ := i_add (lo := 1) (hi := 10) z43858 r43747 (R_eq z43859) rfl
                            have hl : lv_has ls 6 [(4, .int v43856), (2, .int v43851), (0, .ref (G.2.2.2.1 131)), (1, .int v25), (3, .int v42604)] := hl
                            refine r_goto (tgt := 174) S dX12_couples_272 (by decide) ?_
                            exact ih43741 t43833 _ _ _ v43851 v43856 X43835 I43836 F43837 r43854 (R_of r43861 rfl) ((M43834.2 131 0 (Or.inl (by decide))).trans ((M43829.2 131 0 (Or.inl (by decide))).trans z43737)) ((M43834.2 133 1 (Or.inl (by decide))).trans ((M43829.2 133 1 (Or.inl (by decide))).trans z43738)) (by omega) (lv_sub hl [2, 3, 1, 4, 0] rfl) (by omega)
                          ·
                            have r43862 : R (0) (0) v43823 := ⟨by omega, by omega⟩
                            refine r_goto (tgt := 269) S dX12_couples_241 (by decide) ?_
                            refine r_iinc (k := 4) S dX12_couples_269 hl rfl (by decide) (by decide) (fun v43863 d43864 ls z43865 z43866 hl => ?_)
                            obtain ⟨e43867, r43868⟩ := i_add (lo := 1) (hi := 10) z43865 r43747 (R_eq z43866) rfl
                            have hl : lv_has ls 6 [(4, .int v43863), (0, .ref (G.2.2.2.1 131)), (1, .int v25), (2, .int i43729), (3, .int v42604)] := hl
                            refine r_goto (tgt := 174) S dX12_couples_272 (by decide) ?_
                            exact ih43741 t43733 _ _ _ i43729 v43863 X43821 I43734 F43735 r43730 (R_of r43868 rfl) z43737 z43738 (by omega) (lv_sub hl [1, 2, 3, 4, 0] rfl) (by omega)
              exact L43739 _ t42630 _ _ _ v42621 v42635 X42632 I42633 F42634 r42624 (R_of r42637 rfl) ((M42631.2 131 0 (Or.inl (by decide))).trans z42581) ((M42631.2 133 1 (Or.inl (by decide))).trans z42582) (by omega) (lv_sub hl [3, 4, 1, 2, 0] rfl) (Nat.lt_succ_self _)
        exact L42583 _ t40013 _ _ _ v25 X40016 I40014 F40015 r28 z40017 z40018 (lv_sub hl [1, 2, 0] rfl) (Nat.lt_succ_self _)
      ·
        have r43869 : R (1) (1023) i40011 := ⟨by omega, by omega⟩
        have r43870 : R (1) (1023) v25 := ⟨by omega, by omega⟩
        refine r_aload_n S dX12_couples_23 rfl (lv_at hl 0 rfl) ?_
        refine r_iload_n S dX12_couples_24 rfl (lv_at hl 2 rfl) ?_
        refine r_ki (q_V (As := [.int i40011]) (rest := []) (K := 38) (ci := 10) S X40016 (c_X12_leastIn l G t40013 I40014 i40011 r43869) ck12_357 (Nat.le_of_ble_eq_true rfl) rfl (fun _ => ⟨_, rfl⟩) ⟨_, _, rfl⟩ ⟨Nat.le_of_ble_eq_true rfl, Nat.le_of_ble_eq_true rfl⟩ rfl hl.1 rfl (Nat.le_of_ble_eq_true rfl) dX12_couples_25 ⟨Nat.le_refl 0, Nat.le_refl 0⟩) X40016 (fun v43874 t43873 H lc q43871 X43872 => ?_)
        unfold po_X12_leastIn at q43871
        obtain ⟨q43875, q43876, q43877⟩ := q43871
        rw [q43875] at X43872
        refine r_istore_n (lv' := [(3, .int v43874), (0, .ref (G.2.2.2.1 131)), (1, .int v25), (2, .int i40011)]) S dX12_couples_28 rfl hl (by decide) rfl (fun ls hl => ?_)
        refine r_iload_n S dX12_couples_29 rfl (lv_at hl 3 rfl) ?_
        refine r_iconst S dX12_couples_30 (by decide) (fun v43878 z43879 => ?_)
        have r43880 := R_eq z43879
        refine r_iload_n S dX12_couples_31 rfl (lv_at hl 0 rfl) ?_
        refine r_ishl S dX12_couples_32 (fun v43881 z43882 => ?_)
        have r43884 : R (1) (512) v43881 := i_shl z43882 r43880 q43876 rfl
        refine r_iconst S dX12_couples_33 (by decide) (fun v43885 z43886 => ?_)
        have r43887 := R_eq z43886
        refine r_ixor S dX12_couples_34 (fun v43888 z43889 => ?_)
        have r43890 := R_any v43888
        refine r_iand S dX12_couples_35 (fun v43891 z43892 => ?_)
        have r43894 : R (0) (1023) v43891 := i_and1 z43892 r43869 r43890 rfl
        have e43895 := i_andle z43892 r43869 rfl
        refine r_istore (lv' := [(4, .int v43891), (3, .int v43874), (0, .ref (G.2.2.2.1 131)), (1, .int v25), (2, .int i40011)]) S dX12_couples_36 hl (by decide) rfl (fun ls hl => ?_)
        refine r_aload_n S dX12_couples_38 rfl (lv_at hl 2 rfl) ?_
        refine r_get (K := 38) (v := .ref (G.2.2.2.1 143)) S X43872 (Nat.le_of_ble_eq_true rfl) rfl lk12_66_10 (fun _ => ⟨_, rfl, rfl⟩) dX12_couples_39 ?_
        refine r_iload_n S dX12_couples_42 rfl (lv_at hl 4 rfl) ?_
        refine r_aload_n S dX12_couples_43 rfl (lv_at hl 2 rfl) ?_
        refine r_get (K := 38) (v := .ref (G.2.2.2.1 143)) S X43872 (Nat.le_of_ble_eq_true rfl) rfl lk12_66_10 (fun _ => ⟨_, rfl, rfl⟩) dX12_couples_44 ?_
        refine r_iload S dX12_couples_47 (lv_at hl 0 rfl) ?_
        refine r_aldn (n := 1024) (K := 50) S X43872 (Nat.le_of_ble_eq_true rfl) rfl (fun _ => rfl) (ix_of r43894 rfl) dX12_couples_49 (fun v43896 z43897 => ?_)
        have r43899 := R_any v43896
        refine r_ast (n := 1024) (K := 50) S X43872 (Nat.le_of_ble_eq_true rfl) rfl (fun _ _ => rfl) (ix_of r43869 rfl) dX12_couples_50 (fun t43900 H lc M43901 X43902 => ?_)
        have I43903 := Inv_mu I40014 M43901 (R_any v43896)
        have F43904 : Fr [(131, 0), (131, 33)] [143, 144] τ t43900 := Fr_cell F40015 M43901 (by decide)
        refine r_iconst S dX12_couples_51 (by decide) (fun v43905 z43906 => ?_)
        have r43907 := R_eq z43906
        refine r_istore (lv' := [(5, .int v43905), (4, .int v43891), (3, .int v43874), (0, .ref (G.2.2.2.1 131)), (1, .int v25), (2, .int i40011)]) S dX12_couples_52 hl (by decide) rfl (fun ls hl => ?_)
        have L44911 : ∀ (n : Nat) (t44905 : Tau) (H : Heap) (lc : List Loc) (ls : Array Slot) (i44903 : Int32), Xd G s H lc t44905 → Inv t44905 → Fr [(131, 0), (131, 33)] [143, 144] τ t44905 → R (0) (10) i44903 → t44905 131 0 = v1 → t44905 133 1 = v15 → lv_has ls 6 [(0, .ref (G.2.2.2.1 131)), (1, .int v25), (2, .int i40011), (3, .int v43874), (4, .int v43891), (5, .int i44903)] → (10 - i44903.toInt).toNat < n → W p l e (Rm 5 115) s m ([.ref (G.2.2.2.1 131)] : List Value).toArray below meth c H lc 0 0 (MQ below (va_Qi (po_X12_couples τ    ) (Bs G) G.2.2.2.2) ([.ref (G.2.2.2.1 131)] : List Value).toArray s 0 0 G.2.2.2.2) (F0 m 54 ls []) := by
          intro n
          induction n with
          | zero => intros; omega
          | succ n ih44912 =>
            intro t44905 H lc ls i44903 X44908 I44906 F44907 r44904 z44909 z44910 hl hm
            refine r_iload S dX12_couples_54 (lv_at hl 5 rfl) ?_
            refine r_aload_n S dX12_couples_56 rfl (lv_at hl 0 rfl) ?_
            refine r_get (K := 38) (v := .ref (G.2.2.2.1 133)) S X44908 (Nat.le_of_ble_eq_true rfl) rfl lk12_33_10 (fun _ => ⟨_, rfl, rfl⟩) dX12_couples_57 ?_
            refine r_iconst S dX12_couples_60 (by decide) (fun v44913 z44914 => ?_)
            have r44915 := R_eq z44914
            refine r_aldi (x := v15) (n := 513) (K := 40) S X44908 (Nat.le_of_ble_eq_true rfl) rfl (fun _ => rfl) (ix_of r44915 rfl) (zc' (n := 1) (by omega) z44910) dX12_couples_61 ?_
            refine r_icmp_ge (tgt := 138) S dX12_couples_62 (by decide) (fun c44917 => ?_) (fun c44917 => ?_)
            ·
              refine r_iinc (k := 2) S dX12_couples_138 hl rfl (by decide) (by decide) (fun v44918 d44919 ls z44920 z44921 hl => ?_)
              obtain ⟨e44922, r44923⟩ := i_add (lo := 2) (hi := 1024) z44920 r43869 (R_eq z44921) rfl
              have hl : lv_has ls 6 [(2, .int v44918), (0, .ref (G.2.2.2.1 131)), (1, .int v25), (3, .int v43874), (4, .int v43891), (5, .int i44903)] := hl
              refine r_goto (tgt := 18) S dX12_couples_141 (by decide) ?_
              exact ih40020 t44905 _ _ _ v44918 X44908 I44906 F44907 (R_of r44923 rfl) z44909 z44910 (lv_sub hl [1, 2, 0] rfl) (by omega)
            ·
              have r44924 : R (0) (9) i44903 := ⟨by omega, by omega⟩
              have r44925 : R (1) (10) v15 := ⟨by omega, by omega⟩
              refine r_iload S dX12_couples_65 (lv_at hl 4 rfl) ?_
              refine r_iload S dX12_couples_67 (lv_at hl 5 rfl) ?_
              refine r_ki (q_S (As := [.int v43891, .int i44903]) (rest := []) S X44908 (c_X12_bitOf l G t44905 I44906 v43891 i44903 (R_of (lo := -2147483648) (hi := 2147483647) r43894 rfl) (R_of (lo := -2147483648) (hi := 2147483647) r44924 rfl)) ck12_221 ⟨Nat.le_of_ble_eq_true rfl, Nat.le_of_ble_eq_true rfl⟩ rfl hl.1 rfl (Nat.le_of_ble_eq_true rfl) dX12_couples_69 ⟨Nat.le_refl 0, Nat.le_refl 0⟩) X44908 (fun v44929 t44928 H lc q44926 X44927 => ?_)
              unfold po_X12_bitOf at q44926
              obtain ⟨q44930, q44931⟩ := q44926
              rw [q44930] at X44927
              refine r_if_eq (tgt := 132) S dX12_couples_72 (by decide) (fun c44932 => ?_) (fun c44932 => ?_)
              ·
                have r44933 : R (0) (0) v44929 := ⟨by omega, by omega⟩
                refine r_iinc (k := 5) S dX12_couples_132 hl rfl (by decide) (by decide) (fun v44934 d44935 ls z44936 z44937 hl => ?_)
                obtain ⟨e44938, r44939⟩ := i_add (lo := 1) (hi := 10) z44936 r44924 (R_eq z44937) rfl
                have hl : lv_has ls 6 [(5, .int v44934), (0, .ref (G.2.2.2.1 131)), (1, .int v25), (2, .int i40011), (3, .int v43874), (4, .int v43891)] := hl
                refine r_goto (tgt := 54) S dX12_couples_135 (by decide) ?_
                exact ih44912 t44905 _ _ _ v44934 X44927 I44906 F44907 (R_of r44939 rfl) z44909 z44910 (lv_sub hl [1, 2, 3, 4, 5, 0] rfl) (by omega)
              ·
                have r44940 : R (1) (1) v44929 := ⟨by omega, by omega⟩
                refine r_iconst S dX12_couples_75 (by decide) (fun v44941 z44942 => ?_)
                have r44943 := R_eq z44942
                refine r_aload_n S dX12_couples_76 rfl (lv_at hl 0 rfl) ?_
                refine r_get (K := 38) (v := .ref (G.2.2.2.1 143)) S X44927 (Nat.le_of_ble_eq_true rfl) rfl lk12_66_10 (fun _ => ⟨_, rfl, rfl⟩) dX12_couples_77 ?_
                refine r_iload S dX12_couples_80 (lv_at hl 4 rfl) ?_
                refine r_iconst S dX12_couples_82 (by decide) (fun v44944 z44945 => ?_)
                have r44946 := R_eq z44945
                refine r_iload S dX12_couples_83 (lv_at hl 5 rfl) ?_
                refine r_ishl S dX12_couples_85 (fun v44947 z44948 => ?_)
                have r44950 : R (1) (512) v44947 := i_shl z44948 r44946 r44924 rfl
                refine r_iconst S dX12_couples_86 (by decide) (fun v44951 z44952 => ?_)
                have r44953 := R_eq z44952
                refine r_ixor S dX12_couples_87 (fun v44954 z44955 => ?_)
                have r44956 := R_any v44954
                refine r_iand S dX12_couples_88 (fun v44957 z44958 => ?_)
                have r44960 : R (0) (1023) v44957 := i_and1 z44958 r43894 r44956 rfl
                have e44961 := i_andle z44958 r43894 rfl
                refine r_aldn (n := 1024) (K := 50) S X44927 (Nat.le_of_ble_eq_true rfl) rfl (fun _ => rfl) (ix_of r44960 rfl) dX12_couples_89 (fun v44962 z44963 => ?_)
                have r44965 := R_any v44962
                refine r_iadd S dX12_couples_90 (fun v44966 z44967 => ?_)
                have r44968 := R_any v44966
                refine r_aload_n S dX12_couples_91 rfl (lv_at hl 0 rfl) ?_
                refine r_get (K := 38) (v := .ref (G.2.2.2.1 143)) S X44927 (Nat.le_of_ble_eq_true rfl) rfl lk12_66_10 (fun _ => ⟨_, rfl, rfl⟩) dX12_couples_92 ?_
                refine r_iload_n S dX12_couples_95 rfl (lv_at hl 2 rfl) ?_
                refine r_aldn (n := 1024) (K := 50) S X44927 (Nat.le_of_ble_eq_true rfl) rfl (fun _ => rfl) (ix_of r43869 rfl) dX12_couples_96 (fun v44969 z44970 => ?_)
                have r44972 := R_any v44969
                refine r_icmp_le (tgt := 132) S dX12_couples_97 (by decide) (fun c44973 => ?_) (fun c44973 => ?_)
                ·
                  refine r_iinc (k := 5) S dX12_couples_132 hl rfl (by decide) (by decide) (fun v44974 d44975 ls z44976 z44977 hl => ?_)
                  obtain ⟨e44978, r44979⟩ := i_add (lo := 1) (hi := 10) z44976 r44924 (R_eq z44977) rfl
                  have hl : lv_has ls 6 [(5, .int v44974), (0, .ref (G.2.2.2.1 131)), (1, .int v25), (2, .int i40011), (3, .int v43874), (4, .int v43891)] := hl
                  refine r_goto (tgt := 54) S dX12_couples_135 (by decide) ?_
                  exact ih44912 t44905 _ _ _ v44974 X44927 I44906 F44907 (R_of r44979 rfl) z44909 z44910 (lv_sub hl [1, 2, 3, 4, 5, 0] rfl) (by omega)
                ·
                  have r44980 : R (-2147483648) (2147483646) v44969 := ⟨by omega, by omega⟩
                  have r44981 : R (-2147483647) (2147483647) v44966 := ⟨by omega, by omega⟩
                  refine r_aload_n S dX12_couples_100 rfl (lv_at hl 0 rfl) ?_
                  refine r_iload_n S dX12_couples_101 rfl (lv_at hl 3 rfl) ?_
                  refine r_iload S dX12_couples_102 (lv_at hl 5 rfl) ?_
                  refine r_ki (q_V (As := [.int v43874, .int i44903]) (rest := []) (K := 38) (ci := 10) S X44927 (c_X12_canPair l G t44905 I44906 v43874 i44903 q43876 r44924) ck12_360 (Nat.le_of_ble_eq_true rfl) rfl (fun _ => ⟨_, rfl⟩) ⟨_, _, rfl⟩ ⟨Nat.le_of_ble_eq_true rfl, Nat.le_of_ble_eq_true rfl⟩ rfl hl.1 rfl (Nat.le_of_ble_eq_true rfl) dX12_couples_104 ⟨Nat.le_refl 0, Nat.le_refl 0⟩) X44927 (fun v44985 t44984 H lc q44982 X44983 => ?_)
                  unfold po_X12_canPair at q44982
                  obtain ⟨q44986, q44987⟩ := q44982
                  rw [q44986] at X44983
                  refine r_if_eq (tgt := 132) S dX12_couples_107 (by decide) (fun c44988 => ?_) (fun c44988 => ?_)
                  ·
                    have r44989 : R (0) (0) v44985 := ⟨by omega, by omega⟩
                    refine r_iinc (k := 5) S dX12_couples_132 hl rfl (by decide) (by decide) (fun v44990 d44991 ls z44992 z44993 hl => ?_)
                    obtain ⟨e44994, r44995⟩ := i_add (lo := 1) (hi := 10) z44992 r44924 (R_eq z44993) rfl
                    have hl : lv_has ls 6 [(5, .int v44990), (0, .ref (G.2.2.2.1 131)), (1, .int v25), (2, .int i40011), (3, .int v43874), (4, .int v43891)] := hl
                    refine r_goto (tgt := 54) S dX12_couples_135 (by decide) ?_
                    exact ih44912 t44905 _ _ _ v44990 X44983 I44906 F44907 (R_of r44995 rfl) z44909 z44910 (lv_sub hl [1, 2, 3, 4, 5, 0] rfl) (by omega)
                  ·
                    have r44996 : R (1) (1) v44985 := ⟨by omega, by omega⟩
                    refine r_aload_n S dX12_couples_110 rfl (lv_at hl 0 rfl) ?_
                    refine r_get (K := 38) (v := .ref (G.2.2.2.1 143)) S X44983 (Nat.le_of_ble_eq_true rfl) rfl lk12_66_10 (fun _ => ⟨_, rfl, rfl⟩) dX12_couples_111 ?_
                    refine r_iload_n S dX12_couples_114 rfl (lv_at hl 2 rfl) ?_
                    refine r_iconst S dX12_couples_115 (by decide) (fun v44997 z44998 => ?_)
                    have r44999 := R_eq z44998
                    refine r_aload_n S dX12_couples_116 rfl (lv_at hl 0 rfl) ?_
                    refine r_get (K := 38) (v := .ref (G.2.2.2.1 143)) S X44983 (Nat.le_of_ble_eq_true rfl) rfl lk12_66_10 (fun _ => ⟨_, rfl, rfl⟩) dX12_couples_117 ?_
                    refine r_iload S dX12_couples_120 (lv_at hl 4 rfl) ?_
                    refine r_iconst S dX12_couples_122 (by decide) (fun v45000 z45001 => ?_)
                    have r45002 := R_eq z45001
                    refine r_iload S dX12_couples_123 (lv_at hl 5 rfl) ?_
                    refine r_ishl S dX12_couples_125 (fun v45003 z45004 => ?_)
                    have r45006 : R (1) (512) v45003 := i_shl z45004 r45002 r44924 rfl
                    refine r_iconst S dX12_couples_126 (by decide) (fun v45007 z45008 => ?_)
                    have r45009 := R_eq z45008
                    refine r_ixor S dX12_couples_127 (fun v45010 z45011 => ?_)
                    have r45012 := R_any v45010
                    refine r_iand S dX12_couples_128 (fun v45013 z45014 => ?_)
                    have r45016 : R (0) (1023) v45013 := i_and1 z45014 r43894 r45012 rfl
                    have e45017 := i_andle z45014 r43894 rfl
                    refine r_aldn (n := 1024) (K := 50) S X44983 (Nat.le_of_ble_eq_true rfl) rfl (fun _ => rfl) (ix_of r45016 rfl) dX12_couples_129 (fun v45018 z45019 => ?_)
                    have r45021 := R_any v45018
                    refine r_iadd S dX12_couples_130 (fun v45022 z45023 => ?_)
                    have r45024 := R_any v45022
                    refine r_ast (n := 1024) (K := 50) S X44983 (Nat.le_of_ble_eq_true rfl) rfl (fun _ _ => rfl) (ix_of r43869 rfl) dX12_couples_131 (fun t45025 H lc M45026 X45027 => ?_)
                    have I45028 := Inv_mu I44906 M45026 (R_any v45022)
                    have F45029 : Fr [(131, 0), (131, 33)] [143, 144] τ t45025 := Fr_cell F44907 M45026 (by decide)
                    refine r_iinc (k := 5) S dX12_couples_132 hl rfl (by decide) (by decide) (fun v45030 d45031 ls z45032 z45033 hl => ?_)
                    obtain ⟨e45034, r45035⟩ := i_add (lo := 1) (hi := 10) z45032 r44924 (R_eq z45033) rfl
                    have hl : lv_has ls 6 [(5, .int v45030), (0, .ref (G.2.2.2.1 131)), (1, .int v25), (2, .int i40011), (3, .int v43874), (4, .int v43891)] := hl
                    refine r_goto (tgt := 54) S dX12_couples_135 (by decide) ?_
                    exact ih44912 t45025 _ _ _ v45030 X45027 I45028 F45029 (R_of r45035 rfl) ((M45026.2 131 0 (Or.inl (by decide))).trans z44909) ((M45026.2 133 1 (Or.inl (by decide))).trans z44910) (lv_sub hl [1, 2, 3, 4, 5, 0] rfl) (by omega)
        exact L44911 _ t43900 _ _ _ v43905 X43902 I43903 F43904 (R_of r43907 rfl) ((M43901.2 131 0 (Or.inl (by decide))).trans z40017) ((M43901.2 133 1 (Or.inl (by decide))).trans z40018) (lv_sub hl [3, 4, 5, 2, 1, 0] rfl) (Nat.lt_succ_self _)
  exact L40019 _ t4 _ _ _ v29 X6 I7 F8 (R_of r31 rfl) M5.1 (zc (n := 1) (by omega) z16) (lv_sub hl [2, 1, 0] rfl) (Nat.lt_succ_self _)
def po_X12_part (τ : Tau)  (a0 a1 a2 : Int32)   (r : Int32) (u : Tau) : Prop := u = τ
set_option maxHeartbeats 4000000 in
set_option maxRecDepth 100000 in
theorem c_X12_part (l : Launch) (G : Gx) (τ : Tau) (hI : Inv τ) (a0 : Int32) (a1 : Int32) (a2 : Int32) (h_a0 : R (-2147483648) (2147483647) a0) (h_a1 : R (1) (2147483647) a1) (h_a2 : R (-2147483648) (2147483647) a2) : Ci l G yX12_part cX12_part 6 (some .int) 0 0 [.int a0, .int a1, .int a2] τ (po_X12_part τ  a0 a1 a2  ) := by
  unfold Ci
  refine C_of (own := RX12) (by decide) rfl (Nat.le_of_ble_eq_true rfl) ?_
  intro p e s m below meth c ls S hr hlk X hl
  have hl : lv_has ls 6 [(0, .int a0), (1, .int a1), (2, .int a2)] := hl
  refine r_iload_n S dX12_part_0 rfl (lv_at hl 0 rfl) ?_
  refine r_istore_n (lv' := [(3, .int a0), (0, .int a0), (1, .int a1), (2, .int a2)]) S dX12_part_1 rfl hl (by decide) rfl (fun ls hl => ?_)
  refine r_iload_n S dX12_part_2 rfl (lv_at hl 2 rfl) ?_
  refine r_istore (lv' := [(4, .int a1), (3, .int a0), (0, .int a0), (1, .int a1), (2, .int a2)]) S dX12_part_3 hl (by decide) rfl (fun ls hl => ?_)
  have L27 : ∀ (n : Nat) (H : Heap) (lc : List Loc) (ls : Array Slot) (i22 : Int32) (i24 : Int32), Xd G s H lc τ → R (-2147483648) (2147483647) i22 → R (-2147483648) (2147483647) i24 → (i22.toInt ≠ 0 ∨ i24.toInt ≠ 0) → lv_has ls 6 [(0, .int a0), (1, .int a1), (2, .int a2), (3, .int i22), (4, .int i24)] → i24.toInt.natAbs < n → W p l e (Rm 0 0) s m ([.int a0, .int a1, .int a2] : List Value).toArray below meth c H lc 0 0 (MQ below (va_Qi (po_X12_part τ  a0 a1 a2  ) (Bs G) G.2.2.2.2) ([.int a0, .int a1, .int a2] : List Value).toArray s 0 0 G.2.2.2.2) (F0 m 5 ls []) := by
    intro n
    induction n with
    | zero => intros; omega
    | succ n ih29 =>
      intro H lc ls i22 i24 X26 r23 r25 x28 hl hm
      refine r_iload S dX12_part_5 (lv_at hl 4 rfl) ?_
      refine r_if_eq (tgt := 26) S dX12_part_7 (by decide) (fun c30 => ?_) (fun c30 => ?_)
      ·
        have r31 : R (0) (0) i24 := ⟨by omega, by omega⟩
        refine r_iload_n S dX12_part_26 rfl (lv_at hl 2 rfl) ?_
        refine r_if_ne (tgt := 34) S dX12_part_27 (by decide) (fun c32 => ?_) (fun c32 => ?_)
        ·
          refine r_iload_n S dX12_part_34 rfl (lv_at hl 1 rfl) ?_
          refine r_iload_n S dX12_part_35 rfl (lv_at hl 3 rfl) ?_
          refine r_idiv S dX12_part_36 (by omega) (fun v33 z34 => ?_)
          have r35 := R_any v33
          exact r_ret S hr hlk X26 rfl rfl dX12_part_37
        ·
          have r36 : R (0) (0) a2 := ⟨by omega, by omega⟩
          refine r_iload_n S dX12_part_30 rfl (lv_at hl 0 rfl) ?_
          refine r_goto (tgt := 35) S dX12_part_31 (by decide) ?_
          refine r_iload_n S dX12_part_35 rfl (lv_at hl 3 rfl) ?_
          refine r_idiv S dX12_part_36 (by omega) (fun v37 z38 => ?_)
          have r39 := R_any v37
          exact r_ret S hr hlk X26 rfl rfl dX12_part_37
      ·
        refine r_iload_n S dX12_part_10 rfl (lv_at hl 3 rfl) ?_
        refine r_iload S dX12_part_11 (lv_at hl 4 rfl) ?_
        refine r_irem S dX12_part_13 (by omega) (fun v40 z41 => ?_)
        have r42 := R_any v40
        have h43 := i_remabs z41 (by omega)
        refine r_istore (lv' := [(5, .int v40), (0, .int a0), (1, .int a1), (2, .int a2), (3, .int i22), (4, .int i24)]) S dX12_part_14 hl (by decide) rfl (fun ls hl => ?_)
        refine r_iload S dX12_part_16 (lv_at hl 5 rfl) ?_
        refine r_istore_n (lv' := [(3, .int i24), (5, .int v40), (0, .int a0), (1, .int a1), (2, .int a2), (4, .int i24)]) S dX12_part_18 rfl hl (by decide) rfl (fun ls hl => ?_)
        refine r_iload S dX12_part_19 (lv_at hl 1 rfl) ?_
        refine r_istore (lv' := [(4, .int v40), (3, .int i24), (5, .int v40), (0, .int a0), (1, .int a1), (2, .int a2)]) S dX12_part_21 hl (by decide) rfl (fun ls hl => ?_)
        refine r_goto (tgt := 5) S dX12_part_23 (by decide) ?_
        exact ih29 _ _ _ i24 v40 X26 r25 r42 (by omega) (lv_sub hl [3, 4, 5, 1, 0] rfl) (by omega)
  exact L27 _ _ _ _ a0 a1 X h_a0 (R_of h_a1 rfl) (by omega) (lv_sub hl [2, 3, 4, 1, 0] rfl) (Nat.lt_succ_self _)
def po_X12_jokes (τ : Tau)  (a0 a1 : Int32)   (r : Int32) (u : Tau) : Prop := Inv u ∧ Fr [(131, 0)] [145, 146] τ u
set_option maxHeartbeats 4000000 in
set_option maxRecDepth 100000 in
theorem c_X12_jokes (l : Launch) (G : Gx) (τ : Tau) (hI : Inv τ) (a0 : Int32) (a1 : Int32) (h_a0 : R (-2147483648) (2147483647) a0) (h_a1 : R (-2147483648) (2147483647) a1) : Ci l G yX12_jokes cX12_jokes 7 (some .int) 3 66 [.ref (G.2.2.2.1 131), .int a0, .int a1] τ (po_X12_jokes τ  a0 a1  ) := by
  unfold Ci
  refine C_of (own := RX12) (by decide) rfl (Nat.le_of_ble_eq_true rfl) ?_
  intro p e s m below meth c ls S hr hlk X hl
  have hl : lv_has ls 7 [(0, .ref (G.2.2.2.1 131)), (1, .int a0), (2, .int a1)] := hl
  refine r_aload_n S dX12_jokes_0 rfl (lv_at hl 0 rfl) ?_
  refine r_aload_n S dX12_jokes_1 rfl (lv_at hl 0 rfl) ?_
  refine r_iload_n S dX12_jokes_2 rfl (lv_at hl 1 rfl) ?_
  refine r_ki (q_V (As := [.int a0]) (rest := [.ref (G.2.2.2.1 131)]) (K := 38) (ci := 10) S X (c_X12_isSet l G τ hI a0 h_a0) ck12_296 (Nat.le_of_ble_eq_true rfl) rfl (fun _ => ⟨_, rfl⟩) ⟨_, _, rfl⟩ ⟨Nat.le_of_ble_eq_true rfl, Nat.le_of_ble_eq_true rfl⟩ rfl hl.1 rfl (Nat.le_of_ble_eq_true rfl) dX12_jokes_3 ⟨Nat.le_refl 0, Nat.le_refl 0⟩) X (fun v4 t3 H lc q1 X2 => ?_)
  unfold po_X12_isSet at q1
  obtain ⟨q5, q6, q7⟩ := q1
  rw [q5] at X2
  refine r_if_eq (tgt := 27) S dX12_jokes_6 (by decide) (fun c8 => ?_) (fun c8 => ?_)
  ·
    have r9 : R (0) (0) v4 := ⟨by omega, by omega⟩
    refine r_iconst S dX12_jokes_27 (by decide) (fun v10 z11 => ?_)
    have r12 := R_eq z11
    refine r_goto (tgt := 32) S dX12_jokes_28 (by decide) ?_
    refine r_ki (q_V (As := [.int v10]) (rest := []) (K := 38) (ci := 10) S X2 (c_X12_throwsIf l G τ hI v10 (R_of (lo := 0) (hi := 1) r12 rfl)) ck12_255 (Nat.le_of_ble_eq_true rfl) rfl (fun _ => ⟨_, rfl⟩) ⟨_, _, rfl⟩ ⟨Nat.le_of_ble_eq_true rfl, Nat.le_of_ble_eq_true rfl⟩ rfl hl.1 rfl (Nat.le_of_ble_eq_true rfl) dX12_jokes_32 ⟨Nat.le_refl 0, Nat.le_refl 0⟩) X2 (fun v16 t15 H lc q13 X14 => ?_)
    unfold po_X12_throwsIf at q13
    obtain ⟨q17, q18, q19, q20, q21⟩ := q13
    have F22 : Fr [(131, 0)] [145, 146] τ t15 := Fr_call Fr_rfl q18 (by decide)
    refine r_if_eq (tgt := 40) S dX12_jokes_35 (by decide) (fun c23 => ?_) (fun c23 => ?_)
    ·
      exfalso; omega
    ·
      have r26 : R (1) (1) v16 := ⟨by omega, by omega⟩
      have p27 := q20 (by omega)
      have r28 : R (1) (1) v10 := ⟨by omega, by omega⟩
      refine r_iconst S dX12_jokes_38 (by decide) (fun v29 z30 => ?_)
      have r31 := R_eq z30
      exact r_ret S hr hlk X14 ⟨q17, F22⟩ rfl dX12_jokes_39
  ·
    have r32 : R (1) (1) v4 := ⟨by omega, by omega⟩
    have p33 := q7 (by omega)
    have r34 : R (0) (1023) a0 := ⟨by omega, by omega⟩
    refine r_aload_n S dX12_jokes_9 rfl (lv_at hl 0 rfl) ?_
    refine r_get (K := 38) (v := .ref (G.2.2.2.1 133)) S X2 (Nat.le_of_ble_eq_true rfl) rfl lk12_33_10 (fun _ => ⟨_, rfl, rfl⟩) dX12_jokes_10 ?_
    refine r_iconst S dX12_jokes_13 (by decide) (fun v35 z36 => ?_)
    have r37 := R_eq z36
    refine r_aldn (n := 513) (K := 40) S X2 (Nat.le_of_ble_eq_true rfl) rfl (fun _ => rfl) (ix_of r37 rfl) dX12_jokes_14 (fun v38 z39 => ?_)
    have r40 : R (0) (9) v38 := rds (K := 40) (a := 0) (n := 1) hI rfl z39 (R_of r37 rfl) (by decide +kernel)
    refine r_if_eq (tgt := 27) S dX12_jokes_15 (by decide) (fun c41 => ?_) (fun c41 => ?_)
    ·
      have r42 : R (0) (0) v38 := ⟨by omega, by omega⟩
      refine r_iconst S dX12_jokes_27 (by decide) (fun v43 z44 => ?_)
      have r45 := R_eq z44
      refine r_goto (tgt := 32) S dX12_jokes_28 (by decide) ?_
      refine r_ki (q_V (As := [.int v43]) (rest := []) (K := 38) (ci := 10) S X2 (c_X12_throwsIf l G τ hI v43 (R_of (lo := 0) (hi := 1) r45 rfl)) ck12_255 (Nat.le_of_ble_eq_true rfl) rfl (fun _ => ⟨_, rfl⟩) ⟨_, _, rfl⟩ ⟨Nat.le_of_ble_eq_true rfl, Nat.le_of_ble_eq_true rfl⟩ rfl hl.1 rfl (Nat.le_of_ble_eq_true rfl) dX12_jokes_32 ⟨Nat.le_refl 0, Nat.le_refl 0⟩) X2 (fun v49 t48 H lc q46 X47 => ?_)
      unfold po_X12_throwsIf at q46
      obtain ⟨q50, q51, q52, q53, q54⟩ := q46
      have F55 : Fr [(131, 0)] [145, 146] τ t48 := Fr_call Fr_rfl q51 (by decide)
      refine r_if_eq (tgt := 40) S dX12_jokes_35 (by decide) (fun c56 => ?_) (fun c56 => ?_)
      ·
        exfalso; omega
      ·
        have r59 : R (1) (1) v49 := ⟨by omega, by omega⟩
        have p60 := q53 (by omega)
        have r61 : R (1) (1) v43 := ⟨by omega, by omega⟩
        refine r_iconst S dX12_jokes_38 (by decide) (fun v62 z63 => ?_)
        have r64 := R_eq z63
        exact r_ret S hr hlk X47 ⟨q50, F55⟩ rfl dX12_jokes_39
    ·
      have r65 : R (1) (9) v38 := ⟨by omega, by omega⟩
      refine r_iload_n S dX12_jokes_18 rfl (lv_at hl 2 rfl) ?_
      refine r_iconst S dX12_jokes_19 (by decide) (fun v66 z67 => ?_)
      have r68 := R_eq z67
      refine r_iconst S dX12_jokes_20 (by decide) (fun v69 z70 => ?_)
      have r71 := R_eq z70
      refine r_ki (q_S (As := [.int a1, .int v66, .int v69]) (rest := [.ref (G.2.2.2.1 131)]) S X2 (c_X12_isIn l G τ hI a1 v66 v69 h_a1 (R_of (lo := -2147483648) (hi := 2147483647) r68 rfl) (R_of (lo := -2147483648) (hi := 2147483647) r71 rfl)) ck12_189 ⟨Nat.le_of_ble_eq_true rfl, Nat.le_of_ble_eq_true rfl⟩ rfl hl.1 rfl (Nat.le_of_ble_eq_true rfl) dX12_jokes_21 ⟨Nat.le_refl 0, Nat.le_refl 0⟩) X2 (fun v75 t74 H lc q72 X73 => ?_)
      unfold po_X12_isIn at q72
      obtain ⟨q76, q77, q78⟩ := q72
      rw [q76] at X73
      refine r_if_ne (tgt := 31) S dX12_jokes_24 (by decide) (fun c79 => ?_) (fun c79 => ?_)
      ·
        have r80 : R (1) (1) v75 := ⟨by omega, by omega⟩
        obtain ⟨p81, p82⟩ := q78 (by omega)
        have r83 : R (0) (1) a1 := ⟨by omega, by omega⟩
        refine r_iconst S dX12_jokes_31 (by decide) (fun v84 z85 => ?_)
        have r86 := R_eq z85
        refine r_ki (q_V (As := [.int v84]) (rest := []) (K := 38) (ci := 10) S X73 (c_X12_throwsIf l G τ hI v84 (R_of (lo := 0) (hi := 1) r86 rfl)) ck12_255 (Nat.le_of_ble_eq_true rfl) rfl (fun _ => ⟨_, rfl⟩) ⟨_, _, rfl⟩ ⟨Nat.le_of_ble_eq_true rfl, Nat.le_of_ble_eq_true rfl⟩ rfl hl.1 rfl (Nat.le_of_ble_eq_true rfl) dX12_jokes_32 ⟨Nat.le_refl 0, Nat.le_refl 0⟩) X73 (fun v90 t89 H lc q87 X88 => ?_)
        unfold po_X12_throwsIf at q87
        obtain ⟨q91, q92, q93, q94, q95⟩ := q87
        have F96 : Fr [(131, 0)] [145, 146] τ t89 := Fr_call Fr_rfl q92 (by decide)
        refine r_if_eq (tgt := 40) S dX12_jokes_35 (by decide) (fun c97 => ?_) (fun c97 => ?_)
        ·
          have r98 : R (0) (0) v90 := ⟨by omega, by omega⟩
          have p99 := q95 (by omega)
          have r100 : R (0) (0) v84 := ⟨by omega, by omega⟩
          refine r_iconst S dX12_jokes_40 (by decide) (fun v101 z102 => ?_)
          have r103 := R_eq z102
          refine r_istore_n (lv' := [(3, .int v101), (0, .ref (G.2.2.2.1 131)), (1, .int a0), (2, .int a1)]) S dX12_jokes_41 rfl hl (by decide) rfl (fun ls hl => ?_)
          have L983 : ∀ (n : Nat) (t978 : Tau) (H : Heap) (lc : List Loc) (ls : Array Slot) (i976 : Int32), Xd G s H lc t978 → Inv t978 → Fr [(131, 0)] [145, 146] τ t978 → R (0) (221) i976 → t978 133 0 = v38 → (∀ j : Nat, (j : Int) < i976.toInt → (t978 145 j).toInt ≠ 0 → j = 110) → lv_has ls 7 [(0, .ref (G.2.2.2.1 131)), (1, .int a0), (2, .int a1), (3, .int i976)] → (221 - i976.toInt).toNat < n → W p l e (Rm 3 66) s m ([.ref (G.2.2.2.1 131), .int a0, .int a1] : List Value).toArray below meth c H lc 0 0 (MQ below (va_Qi (po_X12_jokes τ  a0 a1  ) (Bs G) G.2.2.2.2) ([.ref (G.2.2.2.1 131), .int a0, .int a1] : List Value).toArray s 0 0 G.2.2.2.2) (F0 m 42 ls []) := by
            intro n
            induction n with
            | zero => intros; omega
            | succ n ih985 =>
              intro t978 H lc ls i976 X981 I979 F980 r977 z982 x984 hl hm
              refine r_iload_n S dX12_jokes_42 rfl (lv_at hl 3 rfl) ?_
              refine r_sipush S dX12_jokes_43 (by decide) (fun v986 z987 => ?_)
              have r988 := R_eq z987
              refine r_icmp_ge (tgt := 72) S dX12_jokes_46 (by decide) (fun c989 => ?_) (fun c989 => ?_)
              ·
                have r990 : R (221) (221) i976 := ⟨by omega, by omega⟩
                refine r_iconst S dX12_jokes_72 (by decide) (fun v991 z992 => ?_)
                have r993 := R_eq z992
                refine r_istore_n (lv' := [(3, .int v991), (0, .ref (G.2.2.2.1 131)), (1, .int a0), (2, .int a1)]) S dX12_jokes_73 rfl hl (by decide) rfl (fun ls hl => ?_)
                refine r_iconst S dX12_jokes_74 (by decide) (fun v994 z995 => ?_)
                have r996 := R_eq z995
                refine r_istore (lv' := [(4, .int v994), (3, .int v991), (0, .ref (G.2.2.2.1 131)), (1, .int a0), (2, .int a1)]) S dX12_jokes_75 hl (by decide) rfl (fun ls hl => ?_)
                have L32642 : ∀ (n : Nat) (t32637 : Tau) (H : Heap) (lc : List Loc) (ls : Array Slot) (i32633 : Int32) (i32635 : Int32), Xd G s H lc t32637 → Inv t32637 → Fr [(131, 0)] [145, 146] τ t32637 → R (1) (2147483647) i32633 → R (0) (10) i32635 → t32637 133 0 = v38 → WS t32637 145 (10 * i32635.toInt) → P4 i32633 i32635 → lv_has ls 7 [(0, .ref (G.2.2.2.1 131)), (1, .int a0), (2, .int a1), (3, .int i32633), (4, .int i32635)] → (10 - i32635.toInt).toNat < n → W p l e (Rm 3 66) s m ([.ref (G.2.2.2.1 131), .int a0, .int a1] : List Value).toArray below meth c H lc 0 0 (MQ below (va_Qi (po_X12_jokes τ  a0 a1  ) (Bs G) G.2.2.2.2) ([.ref (G.2.2.2.1 131), .int a0, .int a1] : List Value).toArray s 0 0 G.2.2.2.2) (F0 m 77 ls []) := by
                  intro n
                  induction n with
                  | zero => intros; omega
                  | succ n ih32645 =>
                    intro t32637 H lc ls i32633 i32635 X32640 I32638 F32639 r32634 r32636 z32641 x32643 x32644 hl hm
                    refine r_iload S dX12_jokes_77 (lv_at hl 4 rfl) ?_
                    refine r_aload_n S dX12_jokes_79 rfl (lv_at hl 0 rfl) ?_
                    refine r_get (K := 38) (v := .ref (G.2.2.2.1 133)) S X32640 (Nat.le_of_ble_eq_true rfl) rfl lk12_33_10 (fun _ => ⟨_, rfl, rfl⟩) dX12_jokes_80 ?_
                    refine r_iconst S dX12_jokes_83 (by decide) (fun v32646 z32647 => ?_)
                    have r32648 := R_eq z32647
                    refine r_aldn (n := 513) (K := 40) S X32640 (Nat.le_of_ble_eq_true rfl) rfl (fun _ => rfl) (ix_of r32648 rfl) dX12_jokes_84 (fun v32649 z32650 => ?_)
                    have r32651 : R (0) (10) v32649 := rds (K := 40) (a := 1) (n := 1) I32638 rfl z32650 (R_of r32648 rfl) (by decide +kernel)
                    refine r_icmp_ge (tgt := 288) S dX12_jokes_85 (by decide) (fun c32652 => ?_) (fun c32652 => ?_)
                    ·
                      refine r_iconst S dX12_jokes_288 (by decide) (fun v32653 z32654 => ?_)
                      have r32655 := R_eq z32654
                      refine r_istore (lv' := [(4, .int v32653), (0, .ref (G.2.2.2.1 131)), (1, .int a0), (2, .int a1), (3, .int i32633)]) S dX12_jokes_289 hl (by decide) rfl (fun ls hl => ?_)
                      refine r_iconst S dX12_jokes_291 (by decide) (fun v32656 z32657 => ?_)
                      have r32658 := R_eq z32657
                      refine r_istore (lv' := [(5, .int v32656), (4, .int v32653), (0, .ref (G.2.2.2.1 131)), (1, .int a0), (2, .int a1), (3, .int i32633)]) S dX12_jokes_292 hl (by decide) rfl (fun ls hl => ?_)
                      have L33942 : ∀ (n : Nat) (H : Heap) (lc : List Loc) (ls : Array Slot) (i33937 : Int32) (i33939 : Int32), Xd G s H lc t32637 → R (-2147483648) (2147483647) i33937 → R (0) (221) i33939 → lv_has ls 7 [(0, .ref (G.2.2.2.1 131)), (2, .int a1), (3, .int i32633), (4, .int i33937), (5, .int i33939)] → (221 - i33939.toInt).toNat < n → W p l e (Rm 3 66) s m ([.ref (G.2.2.2.1 131), .int a0, .int a1] : List Value).toArray below meth c H lc 0 0 (MQ below (va_Qi (po_X12_jokes τ  a0 a1  ) (Bs G) G.2.2.2.2) ([.ref (G.2.2.2.1 131), .int a0, .int a1] : List Value).toArray s 0 0 G.2.2.2.2) (F0 m 294 ls []) := by
                        intro n
                        induction n with
                        | zero => intros; omega
                        | succ n ih33943 =>
                          intro H lc ls i33937 i33939 X33941 r33938 r33940 hl hm
                          refine r_iload S dX12_jokes_294 (lv_at hl 4 rfl) ?_
                          refine r_sipush S dX12_jokes_296 (by decide) (fun v33944 z33945 => ?_)
                          have r33946 := R_eq z33945
                          refine r_icmp_ge (tgt := 336) S dX12_jokes_299 (by decide) (fun c33947 => ?_) (fun c33947 => ?_)
                          ·
                            have r33948 : R (221) (221) i33939 := ⟨by omega, by omega⟩
                            refine r_iload S dX12_jokes_336 (lv_at hl 3 rfl) ?_
                            refine r_iload_n S dX12_jokes_338 rfl (lv_at hl 2 rfl) ?_
                            refine r_iload_n S dX12_jokes_339 rfl (lv_at hl 1 rfl) ?_
                            refine r_ki (q_S (As := [.int i33937, .int i32633, .int a1]) (rest := []) S X33941 (c_X12_part l G t32637 I32638 i33937 i32633 a1 r33938 r32634 (R_of (lo := -2147483648) (hi := 2147483647) r83 rfl)) ck12_366 ⟨Nat.le_of_ble_eq_true rfl, Nat.le_of_ble_eq_true rfl⟩ rfl hl.1 rfl (Nat.le_of_ble_eq_true rfl) dX12_jokes_340 ⟨Nat.le_refl 0, Nat.le_refl 0⟩) X33941 (fun v33952 t33951 H lc q33949 X33950 => ?_)
                            unfold po_X12_part at q33949
                            have q33953 := q33949
                            rw [q33953] at X33950
                            have r33954 := R_any v33952
                            exact r_ret S hr hlk X33950 ⟨I32638, F32639⟩ rfl dX12_jokes_343
                          ·
                            have r33955 : R (0) (220) i33939 := ⟨by omega, by omega⟩
                            refine r_iload S dX12_jokes_302 (lv_at hl 3 rfl) ?_
                            refine r_aload_n S dX12_jokes_304 rfl (lv_at hl 0 rfl) ?_
                            refine r_iload S dX12_jokes_305 (lv_at hl 4 rfl) ?_
                            refine r_bipush S dX12_jokes_307 (by decide) (fun v33956 z33957 => ?_)
                            have r33958 := R_eq z33957
                            refine r_isub S dX12_jokes_309 (fun v33959 z33960 => ?_)
                            obtain ⟨e33961, r33962⟩ := i_sub (lo := -110) (hi := 110) z33960 r33955 r33958 rfl
                            refine r_ki (q_V (As := [.int v33959]) (rest := [.int i33937]) (K := 38) (ci := 10) S X33941 (c_X12_balances l G t32637 I32638 v33959 (R_of (lo := -2147483648) (hi := 2147483647) r33962 rfl)) ck12_290 (Nat.le_of_ble_eq_true rfl) rfl (fun _ => ⟨_, rfl⟩) ⟨_, _, rfl⟩ ⟨Nat.le_of_ble_eq_true rfl, Nat.le_of_ble_eq_true rfl⟩ rfl hl.1 rfl (Nat.le_of_ble_eq_true rfl) dX12_jokes_310 ⟨Nat.le_refl 0, Nat.le_refl 0⟩) X33941 (fun v33966 t33965 H lc q33963 X33964 => ?_)
                            unfold po_X12_balances at q33963
                            obtain ⟨q33967, q33968⟩ := q33963
                            rw [q33967] at X33964
                            refine r_if_eq (tgt := 326) S dX12_jokes_313 (by decide) (fun c33969 => ?_) (fun c33969 => ?_)
                            ·
                              have r33970 : R (0) (0) v33966 := ⟨by omega, by omega⟩
                              refine r_iconst S dX12_jokes_326 (by decide) (fun v33971 z33972 => ?_)
                              have r33973 := R_eq z33972
                              refine r_iadd S dX12_jokes_327 (fun v33974 z33975 => ?_)
                              obtain ⟨e33976, r33977⟩ := i_add (lo := -2147483648) (hi := 2147483647) z33975 r33938 r33973 rfl
                              refine r_istore (lv' := [(4, .int v33974), (0, .ref (G.2.2.2.1 131)), (2, .int a1), (3, .int i32633), (5, .int i33939)]) S dX12_jokes_328 hl (by decide) rfl (fun ls hl => ?_)
                              refine r_iinc (k := 4) S dX12_jokes_330 hl rfl (by decide) (by decide) (fun v33978 d33979 ls z33980 z33981 hl => ?_)
                              obtain ⟨e33982, r33983⟩ := i_add (lo := 1) (hi := 221) z33980 r33955 (R_eq z33981) rfl
                              have hl : lv_has ls 7 [(5, .int v33978), (4, .int v33974), (0, .ref (G.2.2.2.1 131)), (2, .int a1), (3, .int i32633)] := hl
                              refine r_goto (tgt := 294) S dX12_jokes_333 (by decide) ?_
                              exact ih33943 _ _ _ v33974 v33978 X33964 r33977 (R_of r33983 rfl) (lv_sub hl [2, 3, 4, 1, 0] rfl) (by omega)
                            ·
                              have r33984 : R (1) (1) v33966 := ⟨by omega, by omega⟩
                              refine r_aload_n S dX12_jokes_316 rfl (lv_at hl 0 rfl) ?_
                              refine r_get (K := 38) (v := .ref (G.2.2.2.1 145)) S X33964 (Nat.le_of_ble_eq_true rfl) rfl lk12_75_10 (fun _ => ⟨_, rfl, rfl⟩) dX12_jokes_317 ?_
                              refine r_iload S dX12_jokes_320 (lv_at hl 4 rfl) ?_
                              refine r_aldn (n := 221) (K := 52) S X33964 (Nat.le_of_ble_eq_true rfl) rfl (fun _ => rfl) (ix_of r33955 rfl) dX12_jokes_322 (fun v33985 z33986 => ?_)
                              have r33988 := R_any v33985
                              refine r_goto (tgt := 327) S dX12_jokes_323 (by decide) ?_
                              refine r_iadd S dX12_jokes_327 (fun v33989 z33990 => ?_)
                              have r33991 := R_any v33989
                              refine r_istore (lv' := [(4, .int v33989), (0, .ref (G.2.2.2.1 131)), (2, .int a1), (3, .int i32633), (5, .int i33939)]) S dX12_jokes_328 hl (by decide) rfl (fun ls hl => ?_)
                              refine r_iinc (k := 4) S dX12_jokes_330 hl rfl (by decide) (by decide) (fun v33992 d33993 ls z33994 z33995 hl => ?_)
                              obtain ⟨e33996, r33997⟩ := i_add (lo := 1) (hi := 221) z33994 r33955 (R_eq z33995) rfl
                              have hl : lv_has ls 7 [(5, .int v33992), (4, .int v33989), (0, .ref (G.2.2.2.1 131)), (2, .int a1), (3, .int i32633)] := hl
                              refine r_goto (tgt := 294) S dX12_jokes_333 (by decide) ?_
                              exact ih33943 _ _ _ v33989 v33992 X33964 r33991 (R_of r33997 rfl) (lv_sub hl [2, 3, 4, 1, 0] rfl) (by omega)
                      exact L33942 _ _ _ _ v32653 v32656 X32640 (R_of r32655 rfl) (R_of r32658 rfl) (lv_sub hl [2, 4, 5, 1, 0] rfl) (Nat.lt_succ_self _)
                    ·
                      have r33998 : R (0) (9) i32635 := ⟨by omega, by omega⟩
                      have r33999 : R (1) (10) v32649 := ⟨by omega, by omega⟩
                      refine r_iload_n S dX12_jokes_88 rfl (lv_at hl 1 rfl) ?_
                      refine r_aload_n S dX12_jokes_89 rfl (lv_at hl 0 rfl) ?_
                      refine r_get (K := 38) (v := .ref (G.2.2.2.1 133)) S X32640 (Nat.le_of_ble_eq_true rfl) rfl lk12_33_10 (fun _ => ⟨_, rfl, rfl⟩) dX12_jokes_90 ?_
                      refine r_sipush S dX12_jokes_93 (by decide) (fun v34000 z34001 => ?_)
                      have r34002 := R_eq z34001
                      refine r_aldn (n := 513) (K := 40) S X32640 (Nat.le_of_ble_eq_true rfl) rfl (fun _ => rfl) (ix_of r34002 rfl) dX12_jokes_96 (fun v34003 z34004 => ?_)
                      have r34005 : R (0) (1023) v34003 := rds (K := 40) (a := 131) (n := 1) I32638 rfl z34004 (R_of r34002 rfl) (by decide +kernel)
                      refine r_iconst S dX12_jokes_97 (by decide) (fun v34006 z34007 => ?_)
                      have r34008 := R_eq z34007
                      refine r_ixor S dX12_jokes_98 (fun v34009 z34010 => ?_)
                      have r34011 := R_any v34009
                      refine r_iand S dX12_jokes_99 (fun v34012 z34013 => ?_)
                      have r34015 : R (0) (1023) v34012 := i_and1 z34013 r34 r34011 rfl
                      have e34016 := i_andle z34013 r34 rfl
                      refine r_iload S dX12_jokes_100 (lv_at hl 4 rfl) ?_
                      refine r_ki (q_S (As := [.int v34012, .int i32635]) (rest := []) S X32640 (c_X12_bitOf l G t32637 I32638 v34012 i32635 (R_of (lo := -2147483648) (hi := 2147483647) r34015 rfl) (R_of (lo := -2147483648) (hi := 2147483647) r33998 rfl)) ck12_221 ⟨Nat.le_of_ble_eq_true rfl, Nat.le_of_ble_eq_true rfl⟩ rfl hl.1 rfl (Nat.le_of_ble_eq_true rfl) dX12_jokes_102 ⟨Nat.le_refl 0, Nat.le_refl 0⟩) X32640 (fun v34020 t34019 H lc q34017 X34018 => ?_)
                      unfold po_X12_bitOf at q34017
                      obtain ⟨q34021, q34022⟩ := q34017
                      rw [q34021] at X34018
                      refine r_if_ne (tgt := 111) S dX12_jokes_105 (by decide) (fun c34023 => ?_) (fun c34023 => ?_)
                      ·
                        have r34024 : R (1) (1) v34020 := ⟨by omega, by omega⟩
                        refine r_aload_n S dX12_jokes_111 rfl (lv_at hl 0 rfl) ?_
                        refine r_iload S dX12_jokes_112 (lv_at hl 4 rfl) ?_
                        refine r_aload_n S dX12_jokes_114 rfl (lv_at hl 0 rfl) ?_
                        refine r_get (K := 38) (v := .ref (G.2.2.2.1 133)) S X34018 (Nat.le_of_ble_eq_true rfl) rfl lk12_33_10 (fun _ => ⟨_, rfl, rfl⟩) dX12_jokes_115 ?_
                        refine r_bipush S dX12_jokes_118 (by decide) (fun v34025 z34026 => ?_)
                        have r34027 := R_eq z34026
                        refine r_aldn (n := 513) (K := 40) S X34018 (Nat.le_of_ble_eq_true rfl) rfl (fun _ => rfl) (ix_of r34027 rfl) dX12_jokes_120 (fun v34028 z34029 => ?_)
                        have r34030 : R (0) (8) v34028 := rds (K := 40) (a := 126) (n := 1) I32638 rfl z34029 (R_of r34027 rfl) (by decide +kernel)
                        refine r_ki (q_V (As := [.int i32635, .int v34028]) (rest := []) (K := 38) (ci := 10) S X34018 (c_X12_saysOf l G t32637 I32638 i32635 v34028 r33998 r34030) ck12_269 (Nat.le_of_ble_eq_true rfl) rfl (fun _ => ⟨_, rfl⟩) ⟨_, _, rfl⟩ ⟨Nat.le_of_ble_eq_true rfl, Nat.le_of_ble_eq_true rfl⟩ rfl hl.1 rfl (Nat.le_of_ble_eq_true rfl) dX12_jokes_121 ⟨Nat.le_refl 0, Nat.le_refl 0⟩) X34018 (fun v34034 t34033 H lc q34031 X34032 => ?_)
                        unfold po_X12_saysOf at q34031
                        obtain ⟨q34035, q34036⟩ := q34031
                        rw [q34035] at X34032
                        refine r_istore (lv' := [(5, .int v34034), (0, .ref (G.2.2.2.1 131)), (1, .int a0), (2, .int a1), (3, .int i32633), (4, .int i32635)]) S dX12_jokes_124 hl (by decide) rfl (fun ls hl => ?_)
                        refine r_iconst S dX12_jokes_126 (by decide) (fun v34037 z34038 => ?_)
                        have r34039 := R_eq z34038
                        refine r_istore (lv' := [(6, .int v34037), (5, .int v34034), (0, .ref (G.2.2.2.1 131)), (1, .int a0), (2, .int a1), (3, .int i32633), (4, .int i32635)]) S dX12_jokes_127 hl (by decide) rfl (fun ls hl => ?_)
                        have L34773 : ∀ (n : Nat) (t34765 : Tau) (H : Heap) (lc : List Loc) (ls : Array Slot) (i34763 : Int32), Xd G s H lc t34765 → Inv t34765 → Fr [(131, 0)] [145, 146] τ t34765 → R (0) (221) i34763 → t34765 133 0 = v38 → t34765 133 1 = v32649 → t34765 133 131 = v34003 → t34765 133 126 = v34028 → (∀ j : Nat, (j : Int) < i34763.toInt → (t34765 146 j).toInt = 0) → WS t34765 145 (10 * i32635.toInt) → lv_has ls 7 [(0, .ref (G.2.2.2.1 131)), (1, .int a0), (2, .int a1), (3, .int i32633), (4, .int i32635), (5, .int v34034), (6, .int i34763)] → (221 - i34763.toInt).toNat < n → W p l e (Rm 3 66) s m ([.ref (G.2.2.2.1 131), .int a0, .int a1] : List Value).toArray below meth c H lc 0 0 (MQ below (va_Qi (po_X12_jokes τ  a0 a1  ) (Bs G) G.2.2.2.2) ([.ref (G.2.2.2.1 131), .int a0, .int a1] : List Value).toArray s 0 0 G.2.2.2.2) (F0 m 129 ls []) := by
                          intro n
                          induction n with
                          | zero => intros; omega
                          | succ n ih34776 =>
                            intro t34765 H lc ls i34763 X34768 I34766 F34767 r34764 z34769 z34770 z34771 z34772 x34774 x34775 hl hm
                            refine r_iload S dX12_jokes_129 (lv_at hl 6 rfl) ?_
                            refine r_sipush S dX12_jokes_131 (by decide) (fun v34777 z34778 => ?_)
                            have r34779 := R_eq z34778
                            refine r_icmp_ge (tgt := 151) S dX12_jokes_134 (by decide) (fun c34780 => ?_) (fun c34780 => ?_)
                            ·
                              have r34781 : R (221) (221) i34763 := ⟨by omega, by omega⟩
                              refine r_iconst S dX12_jokes_151 (by decide) (fun v34782 z34783 => ?_)
                              have r34784 := R_eq z34783
                              refine r_istore (lv' := [(6, .int v34782), (0, .ref (G.2.2.2.1 131)), (1, .int a0), (2, .int a1), (3, .int i32633), (4, .int i32635), (5, .int v34034)]) S dX12_jokes_152 hl (by decide) rfl (fun ls hl => ?_)
                              have L37002 : ∀ (n : Nat) (t36994 : Tau) (H : Heap) (lc : List Loc) (ls : Array Slot) (i36992 : Int32), Xd G s H lc t36994 → Inv t36994 → Fr [(131, 0)] [145, 146] τ t36994 → R (0) (221) i36992 → t36994 133 0 = v38 → t36994 133 1 = v32649 → t36994 133 131 = v34003 → t36994 133 126 = v34028 → WS t36994 145 (10 * i32635.toInt) → WS t36994 146 (10 * i32635.toInt + 10) → lv_has ls 7 [(0, .ref (G.2.2.2.1 131)), (1, .int a0), (2, .int a1), (3, .int i32633), (4, .int i32635), (5, .int v34034), (6, .int i36992)] → (221 - i36992.toInt).toNat < n → W p l e (Rm 3 66) s m ([.ref (G.2.2.2.1 131), .int a0, .int a1] : List Value).toArray below meth c H lc 0 0 (MQ below (va_Qi (po_X12_jokes τ  a0 a1  ) (Bs G) G.2.2.2.2) ([.ref (G.2.2.2.1 131), .int a0, .int a1] : List Value).toArray s 0 0 G.2.2.2.2) (F0 m 154 ls []) := by
                                intro n
                                induction n with
                                | zero => intros; omega
                                | succ n ih37005 =>
                                  intro t36994 H lc ls i36992 X36997 I36995 F36996 r36993 z36998 z36999 z37000 z37001 x37003 x37004 hl hm
                                  refine r_iload S dX12_jokes_154 (lv_at hl 6 rfl) ?_
                                  refine r_sipush S dX12_jokes_156 (by decide) (fun v37006 z37007 => ?_)
                                  have r37008 := R_eq z37007
                                  refine r_icmp_ge (tgt := 247) S dX12_jokes_159 (by decide) (fun c37009 => ?_) (fun c37009 => ?_)
                                  ·
                                    have r37010 : R (221) (221) i36992 := ⟨by omega, by omega⟩
                                    refine r_iconst S dX12_jokes_247 (by decide) (fun v37011 z37012 => ?_)
                                    have r37013 := R_eq z37012
                                    refine r_istore (lv' := [(6, .int v37011), (0, .ref (G.2.2.2.1 131)), (1, .int a0), (2, .int a1), (3, .int i32633), (4, .int i32635), (5, .int v34034)]) S dX12_jokes_248 hl (by decide) rfl (fun ls hl => ?_)
                                    have L37773 : ∀ (n : Nat) (t37765 : Tau) (H : Heap) (lc : List Loc) (ls : Array Slot) (i37763 : Int32), Xd G s H lc t37765 → Inv t37765 → Fr [(131, 0)] [145, 146] τ t37765 → R (0) (221) i37763 → t37765 133 0 = v38 → t37765 133 1 = v32649 → t37765 133 131 = v34003 → t37765 133 126 = v34028 → WS t37765 145 (10 * i32635.toInt + 10) → WS t37765 146 (10 * i32635.toInt + 10) → lv_has ls 7 [(0, .ref (G.2.2.2.1 131)), (1, .int a0), (2, .int a1), (3, .int i32633), (4, .int i32635), (6, .int i37763)] → (221 - i37763.toInt).toNat < n → W p l e (Rm 3 66) s m ([.ref (G.2.2.2.1 131), .int a0, .int a1] : List Value).toArray below meth c H lc 0 0 (MQ below (va_Qi (po_X12_jokes τ  a0 a1  ) (Bs G) G.2.2.2.2) ([.ref (G.2.2.2.1 131), .int a0, .int a1] : List Value).toArray s 0 0 G.2.2.2.2) (F0 m 250 ls []) := by
                                      intro n
                                      induction n with
                                      | zero => intros; omega
                                      | succ n ih37776 =>
                                        intro t37765 H lc ls i37763 X37768 I37766 F37767 r37764 z37769 z37770 z37771 z37772 x37774 x37775 hl hm
                                        refine r_iload S dX12_jokes_250 (lv_at hl 5 rfl) ?_
                                        refine r_sipush S dX12_jokes_252 (by decide) (fun v37777 z37778 => ?_)
                                        have r37779 := R_eq z37778
                                        refine r_icmp_ge (tgt := 278) S dX12_jokes_255 (by decide) (fun c37780 => ?_) (fun c37780 => ?_)
                                        ·
                                          have r37781 : R (221) (221) i37763 := ⟨by omega, by omega⟩
                                          have h37782 := P4_le x32644 (by omega)
                                          have r37783 : R (1) (262144) i32633 := ⟨by omega, by omega⟩
                                          refine r_iload_n S dX12_jokes_278 rfl (lv_at hl 3 rfl) ?_
                                          refine r_iconst S dX12_jokes_279 (by decide) (fun v37784 z37785 => ?_)
                                          have r37786 := R_eq z37785
                                          refine r_imul S dX12_jokes_280 (fun v37787 z37788 => ?_)
                                          obtain ⟨e37789, r37790⟩ := i_mul (lo := 4) (hi := 1048576) z37788 r37783 r37786 rfl rfl
                                          have e37791 : v37787.toInt = i32633.toInt * 4 := by rw [e37789, show v37784.toInt = 4 by omega]
                                          refine r_istore_n (lv' := [(3, .int v37787), (0, .ref (G.2.2.2.1 131)), (1, .int a0), (2, .int a1), (4, .int i32635), (6, .int i37763)]) S dX12_jokes_281 rfl hl (by decide) rfl (fun ls hl => ?_)
                                          refine r_iinc (k := 4) S dX12_jokes_282 hl rfl (by decide) (by decide) (fun v37792 d37793 ls z37794 z37795 hl => ?_)
                                          obtain ⟨e37796, r37797⟩ := i_add (lo := 1) (hi := 10) z37794 r33998 (R_eq z37795) rfl
                                          have hl : lv_has ls 7 [(4, .int v37792), (3, .int v37787), (0, .ref (G.2.2.2.1 131)), (1, .int a0), (2, .int a1), (6, .int i37763)] := hl
                                          refine r_goto (tgt := 77) S dX12_jokes_285 (by decide) ?_
                                          exact ih32645 t37765 _ _ _ v37787 v37792 X37768 I37766 F37767 (R_of r37790 rfl) (R_of r37797 rfl) z37769 (WS_mono x37774 (by omega)) (P4_step x32644 (by omega) (by omega) (by omega)) (lv_sub hl [2, 3, 4, 1, 0] rfl) (by omega)
                                        ·
                                          have r37798 : R (0) (220) i37763 := ⟨by omega, by omega⟩
                                          refine r_aload_n S dX12_jokes_258 rfl (lv_at hl 0 rfl) ?_
                                          refine r_get (K := 38) (v := .ref (G.2.2.2.1 145)) S X37768 (Nat.le_of_ble_eq_true rfl) rfl lk12_75_10 (fun _ => ⟨_, rfl, rfl⟩) dX12_jokes_259 ?_
                                          refine r_iload S dX12_jokes_262 (lv_at hl 5 rfl) ?_
                                          refine r_aload_n S dX12_jokes_264 rfl (lv_at hl 0 rfl) ?_
                                          refine r_get (K := 38) (v := .ref (G.2.2.2.1 146)) S X37768 (Nat.le_of_ble_eq_true rfl) rfl lk12_78_10 (fun _ => ⟨_, rfl, rfl⟩) dX12_jokes_265 ?_
                                          refine r_iload S dX12_jokes_268 (lv_at hl 5 rfl) ?_
                                          refine r_aldn (n := 221) (K := 53) S X37768 (Nat.le_of_ble_eq_true rfl) rfl (fun _ => rfl) (ix_of r37798 rfl) dX12_jokes_270 (fun v37799 z37800 => ?_)
                                          have r37802 := R_any v37799
                                          refine r_ast (n := 221) (K := 52) S X37768 (Nat.le_of_ble_eq_true rfl) rfl (fun _ _ => rfl) (ix_of r37798 rfl) dX12_jokes_271 (fun t37803 H lc M37804 X37805 => ?_)
                                          have I37806 := Inv_mu I37766 M37804 (R_any v37799)
                                          have F37807 : Fr [(131, 0)] [145, 146] τ t37803 := Fr_cell F37767 M37804 (by decide)
                                          refine r_iinc (k := 5) S dX12_jokes_272 hl rfl (by decide) (by decide) (fun v37808 d37809 ls z37810 z37811 hl => ?_)
                                          obtain ⟨e37812, r37813⟩ := i_add (lo := 1) (hi := 221) z37810 r37798 (R_eq z37811) rfl
                                          have hl : lv_has ls 7 [(6, .int v37808), (0, .ref (G.2.2.2.1 131)), (1, .int a0), (2, .int a1), (3, .int i32633), (4, .int i32635)] := hl
                                          refine r_goto (tgt := 250) S dX12_jokes_275 (by decide) ?_
                                          exact ih37776 t37803 _ _ _ v37808 X37805 I37806 F37807 (R_of r37813 rfl) ((M37804.2 133 0 (Or.inl (by decide))).trans z37769) ((M37804.2 133 1 (Or.inl (by decide))).trans z37770) ((M37804.2 133 131 (Or.inl (by decide))).trans z37771) ((M37804.2 133 126 (Or.inl (by decide))).trans z37772) (WS_st x37774 M37804 (by omega) (fun hn => WS_at x37775 ⟨by omega, by omega⟩ z37800 hn)) (WS_ot x37775 M37804 (by decide)) (lv_sub hl [1, 2, 3, 4, 5, 0] rfl) (by omega)
                                    exact L37773 _ t36994 _ _ _ v37011 X36997 I36995 F36996 (R_of r37013 rfl) z36998 z36999 z37000 z37001 (WS_mono x37003 (by omega)) x37004 (lv_sub hl [1, 2, 3, 4, 5, 0] rfl) (Nat.lt_succ_self _)
                                  ·
                                    have r37814 : R (0) (220) i36992 := ⟨by omega, by omega⟩
                                    refine r_aload_n S dX12_jokes_162 rfl (lv_at hl 0 rfl) ?_
                                    refine r_get (K := 38) (v := .ref (G.2.2.2.1 145)) S X36997 (Nat.le_of_ble_eq_true rfl) rfl lk12_75_10 (fun _ => ⟨_, rfl, rfl⟩) dX12_jokes_163 ?_
                                    refine r_iload S dX12_jokes_166 (lv_at hl 6 rfl) ?_
                                    refine r_aldn (n := 221) (K := 52) S X36997 (Nat.le_of_ble_eq_true rfl) rfl (fun _ => rfl) (ix_of r37814 rfl) dX12_jokes_168 (fun v37815 z37816 => ?_)
                                    have r37818 := R_any v37815
                                    refine r_if_ne (tgt := 175) S dX12_jokes_169 (by decide) (fun c37819 => ?_) (fun c37819 => ?_)
                                    ·
                                      have h37820 := WS_at x37003 ⟨by omega, by omega⟩ z37816 (by omega)
                                      have r37821 : R (20) (200) i36992 := ⟨by omega, by omega⟩
                                      refine r_aload_n S dX12_jokes_175 rfl (lv_at hl 0 rfl) ?_
                                      refine r_get (K := 38) (v := .ref (G.2.2.2.1 146)) S X36997 (Nat.le_of_ble_eq_true rfl) rfl lk12_78_10 (fun _ => ⟨_, rfl, rfl⟩) dX12_jokes_176 ?_
                                      refine r_iload S dX12_jokes_179 (lv_at hl 6 rfl) ?_
                                      refine r_iload S dX12_jokes_181 (lv_at hl 5 rfl) ?_
                                      refine r_iadd S dX12_jokes_183 (fun v37822 z37823 => ?_)
                                      obtain ⟨e37824, r37825⟩ := i_add (lo := 11) (hi := 209) z37823 r37821 q34036 rfl
                                      refine r_iconst S dX12_jokes_184 (by decide) (fun v37826 z37827 => ?_)
                                      have r37828 := R_eq z37827
                                      refine r_isub S dX12_jokes_185 (fun v37829 z37830 => ?_)
                                      obtain ⟨e37831, r37832⟩ := i_sub (lo := 10) (hi := 208) z37830 r37825 r37828 rfl
                                      refine r_dup2 S dX12_jokes_186 rfl rfl ?_
                                      refine r_aldn (n := 221) (K := 53) S X36997 (Nat.le_of_ble_eq_true rfl) rfl (fun _ => rfl) (ix_of r37832 rfl) dX12_jokes_187 (fun v37833 z37834 => ?_)
                                      have r37836 := R_any v37833
                                      refine r_aload_n S dX12_jokes_188 rfl (lv_at hl 0 rfl) ?_
                                      refine r_get (K := 38) (v := .ref (G.2.2.2.1 145)) S X36997 (Nat.le_of_ble_eq_true rfl) rfl lk12_75_10 (fun _ => ⟨_, rfl, rfl⟩) dX12_jokes_189 ?_
                                      refine r_iload S dX12_jokes_192 (lv_at hl 6 rfl) ?_
                                      refine r_aldn (n := 221) (K := 52) S X36997 (Nat.le_of_ble_eq_true rfl) rfl (fun _ => rfl) (ix_of r37821 rfl) dX12_jokes_194 (fun v37837 z37838 => ?_)
                                      have r37840 := R_any v37837
                                      refine r_iadd S dX12_jokes_195 (fun v37841 z37842 => ?_)
                                      have r37843 := R_any v37841
                                      refine r_ast (n := 221) (K := 53) S X36997 (Nat.le_of_ble_eq_true rfl) rfl (fun _ _ => rfl) (ix_of r37832 rfl) dX12_jokes_196 (fun t37844 H lc M37845 X37846 => ?_)
                                      have I37847 := Inv_mu I36995 M37845 (R_any v37841)
                                      have F37848 : Fr [(131, 0)] [145, 146] τ t37844 := Fr_cell F36996 M37845 (by decide)
                                      refine r_aload_n S dX12_jokes_197 rfl (lv_at hl 0 rfl) ?_
                                      refine r_get (K := 38) (v := .ref (G.2.2.2.1 146)) S X37846 (Nat.le_of_ble_eq_true rfl) rfl lk12_78_10 (fun _ => ⟨_, rfl, rfl⟩) dX12_jokes_198 ?_
                                      refine r_iload S dX12_jokes_201 (lv_at hl 6 rfl) ?_
                                      refine r_iload S dX12_jokes_203 (lv_at hl 5 rfl) ?_
                                      refine r_iadd S dX12_jokes_205 (fun v37849 z37850 => ?_)
                                      obtain ⟨e37851, r37852⟩ := i_add (lo := 11) (hi := 209) z37850 r37821 q34036 rfl
                                      refine r_dup2 S dX12_jokes_206 rfl rfl ?_
                                      refine r_aldn (n := 221) (K := 53) S X37846 (Nat.le_of_ble_eq_true rfl) rfl (fun _ => rfl) (ix_of r37852 rfl) dX12_jokes_207 (fun v37853 z37854 => ?_)
                                      have r37856 := R_any v37853
                                      refine r_iconst S dX12_jokes_208 (by decide) (fun v37857 z37858 => ?_)
                                      have r37859 := R_eq z37858
                                      refine r_aload_n S dX12_jokes_209 rfl (lv_at hl 0 rfl) ?_
                                      refine r_get (K := 38) (v := .ref (G.2.2.2.1 145)) S X37846 (Nat.le_of_ble_eq_true rfl) rfl lk12_75_10 (fun _ => ⟨_, rfl, rfl⟩) dX12_jokes_210 ?_
                                      refine r_iload S dX12_jokes_213 (lv_at hl 6 rfl) ?_
                                      refine r_aldn (n := 221) (K := 52) S X37846 (Nat.le_of_ble_eq_true rfl) rfl (fun _ => rfl) (ix_of r37821 rfl) dX12_jokes_215 (fun v37860 z37861 => ?_)
                                      have r37863 := R_any v37860
                                      refine r_imul S dX12_jokes_216 (fun v37864 z37865 => ?_)
                                      have r37866 := R_any v37864
                                      refine r_iadd S dX12_jokes_217 (fun v37867 z37868 => ?_)
                                      have r37869 := R_any v37867
                                      refine r_ast (n := 221) (K := 53) S X37846 (Nat.le_of_ble_eq_true rfl) rfl (fun _ _ => rfl) (ix_of r37852 rfl) dX12_jokes_218 (fun t37870 H lc M37871 X37872 => ?_)
                                      have I37873 := Inv_mu I37847 M37871 (R_any v37867)
                                      have F37874 : Fr [(131, 0)] [145, 146] τ t37870 := Fr_cell F37848 M37871 (by decide)
                                      refine r_aload_n S dX12_jokes_219 rfl (lv_at hl 0 rfl) ?_
                                      refine r_get (K := 38) (v := .ref (G.2.2.2.1 146)) S X37872 (Nat.le_of_ble_eq_true rfl) rfl lk12_78_10 (fun _ => ⟨_, rfl, rfl⟩) dX12_jokes_220 ?_
                                      refine r_iload S dX12_jokes_223 (lv_at hl 6 rfl) ?_
                                      refine r_iload S dX12_jokes_225 (lv_at hl 5 rfl) ?_
                                      refine r_iadd S dX12_jokes_227 (fun v37875 z37876 => ?_)
                                      obtain ⟨e37877, r37878⟩ := i_add (lo := 11) (hi := 209) z37876 r37821 q34036 rfl
                                      refine r_iconst S dX12_jokes_228 (by decide) (fun v37879 z37880 => ?_)
                                      have r37881 := R_eq z37880
                                      refine r_iadd S dX12_jokes_229 (fun v37882 z37883 => ?_)
                                      obtain ⟨e37884, r37885⟩ := i_add (lo := 12) (hi := 210) z37883 r37878 r37881 rfl
                                      refine r_dup2 S dX12_jokes_230 rfl rfl ?_
                                      refine r_aldn (n := 221) (K := 53) S X37872 (Nat.le_of_ble_eq_true rfl) rfl (fun _ => rfl) (ix_of r37885 rfl) dX12_jokes_231 (fun v37886 z37887 => ?_)
                                      have r37889 := R_any v37886
                                      refine r_aload_n S dX12_jokes_232 rfl (lv_at hl 0 rfl) ?_
                                      refine r_get (K := 38) (v := .ref (G.2.2.2.1 145)) S X37872 (Nat.le_of_ble_eq_true rfl) rfl lk12_75_10 (fun _ => ⟨_, rfl, rfl⟩) dX12_jokes_233 ?_
                                      refine r_iload S dX12_jokes_236 (lv_at hl 6 rfl) ?_
                                      refine r_aldn (n := 221) (K := 52) S X37872 (Nat.le_of_ble_eq_true rfl) rfl (fun _ => rfl) (ix_of r37821 rfl) dX12_jokes_238 (fun v37890 z37891 => ?_)
                                      have r37893 := R_any v37890
                                      refine r_iadd S dX12_jokes_239 (fun v37894 z37895 => ?_)
                                      have r37896 := R_any v37894
                                      refine r_ast (n := 221) (K := 53) S X37872 (Nat.le_of_ble_eq_true rfl) rfl (fun _ _ => rfl) (ix_of r37885 rfl) dX12_jokes_240 (fun t37897 H lc M37898 X37899 => ?_)
                                      have I37900 := Inv_mu I37873 M37898 (R_any v37894)
                                      have F37901 : Fr [(131, 0)] [145, 146] τ t37897 := Fr_cell F37874 M37898 (by decide)
                                      refine r_iinc (k := 6) S dX12_jokes_241 hl rfl (by decide) (by decide) (fun v37902 d37903 ls z37904 z37905 hl => ?_)
                                      obtain ⟨e37906, r37907⟩ := i_add (lo := 21) (hi := 201) z37904 r37821 (R_eq z37905) rfl
                                      have hl : lv_has ls 7 [(6, .int v37902), (0, .ref (G.2.2.2.1 131)), (1, .int a0), (2, .int a1), (3, .int i32633), (4, .int i32635), (5, .int v34034)] := hl
                                      refine r_goto (tgt := 154) S dX12_jokes_244 (by decide) ?_
                                      exact ih37005 t37897 _ _ _ v37902 X37899 I37900 F37901 (R_of r37907 rfl) ((M37898.2 133 0 (Or.inl (by decide))).trans ((M37871.2 133 0 (Or.inl (by decide))).trans ((M37845.2 133 0 (Or.inl (by decide))).trans z36998))) ((M37898.2 133 1 (Or.inl (by decide))).trans ((M37871.2 133 1 (Or.inl (by decide))).trans ((M37845.2 133 1 (Or.inl (by decide))).trans z36999))) ((M37898.2 133 131 (Or.inl (by decide))).trans ((M37871.2 133 131 (Or.inl (by decide))).trans ((M37845.2 133 131 (Or.inl (by decide))).trans z37000))) ((M37898.2 133 126 (Or.inl (by decide))).trans ((M37871.2 133 126 (Or.inl (by decide))).trans ((M37845.2 133 126 (Or.inl (by decide))).trans z37001))) (WS_ot (WS_ot (WS_ot x37003 M37845 (by decide)) M37871 (by decide)) M37898 (by decide)) (WS_st (WS_st (WS_st x37004 M37845 (by omega) (fun _ => ⟨by omega, by omega⟩)) M37871 (by omega) (fun _ => ⟨by omega, by omega⟩)) M37898 (by omega) (fun _ => ⟨by omega, by omega⟩)) (lv_sub hl [1, 2, 3, 4, 5, 6, 0] rfl) (by omega)
                                    ·
                                      have r37908 : R (0) (0) v37815 := ⟨by omega, by omega⟩
                                      refine r_goto (tgt := 241) S dX12_jokes_172 (by decide) ?_
                                      refine r_iinc (k := 6) S dX12_jokes_241 hl rfl (by decide) (by decide) (fun v37909 d37910 ls z37911 z37912 hl => ?_)
                                      obtain ⟨e37913, r37914⟩ := i_add (lo := 1) (hi := 221) z37911 r37814 (R_eq z37912) rfl
                                      have hl : lv_has ls 7 [(6, .int v37909), (0, .ref (G.2.2.2.1 131)), (1, .int a0), (2, .int a1), (3, .int i32633), (4, .int i32635), (5, .int v34034)] := hl
                                      refine r_goto (tgt := 154) S dX12_jokes_244 (by decide) ?_
                                      exact ih37005 t36994 _ _ _ v37909 X36997 I36995 F36996 (R_of r37914 rfl) z36998 z36999 z37000 z37001 x37003 x37004 (lv_sub hl [1, 2, 3, 4, 5, 6, 0] rfl) (by omega)
                              exact L37002 _ t34765 _ _ _ v34782 X34768 I34766 F34767 (R_of r34784 rfl) z34769 z34770 z34771 z34772 x34775 (WS_0 (fun j hj => x34774 j (by omega))) (lv_sub hl [1, 2, 3, 4, 5, 6, 0] rfl) (Nat.lt_succ_self _)
                            ·
                              have r37915 : R (0) (220) i34763 := ⟨by omega, by omega⟩
                              refine r_aload_n S dX12_jokes_137 rfl (lv_at hl 0 rfl) ?_
                              refine r_get (K := 38) (v := .ref (G.2.2.2.1 146)) S X34768 (Nat.le_of_ble_eq_true rfl) rfl lk12_78_10 (fun _ => ⟨_, rfl, rfl⟩) dX12_jokes_138 ?_
                              refine r_iload S dX12_jokes_141 (lv_at hl 6 rfl) ?_
                              refine r_iconst S dX12_jokes_143 (by decide) (fun v37916 z37917 => ?_)
                              have r37918 := R_eq z37917
                              refine r_ast (n := 221) (K := 53) S X34768 (Nat.le_of_ble_eq_true rfl) rfl (fun _ _ => rfl) (ix_of r37915 rfl) dX12_jokes_144 (fun t37919 H lc M37920 X37921 => ?_)
                              have I37922 := Inv_mu I34766 M37920 (R_any v37916)
                              have F37923 : Fr [(131, 0)] [145, 146] τ t37919 := Fr_cell F34767 M37920 (by decide)
                              refine r_iinc (k := 6) S dX12_jokes_145 hl rfl (by decide) (by decide) (fun v37924 d37925 ls z37926 z37927 hl => ?_)
                              obtain ⟨e37928, r37929⟩ := i_add (lo := 1) (hi := 221) z37926 r37915 (R_eq z37927) rfl
                              have hl : lv_has ls 7 [(6, .int v37924), (0, .ref (G.2.2.2.1 131)), (1, .int a0), (2, .int a1), (3, .int i32633), (4, .int i32635), (5, .int v34034)] := hl
                              refine r_goto (tgt := 129) S dX12_jokes_148 (by decide) ?_
                              exact ih34776 t37919 _ _ _ v37924 X37921 I37922 F37923 (R_of r37929 rfl) ((M37920.2 133 0 (Or.inl (by decide))).trans z34769) ((M37920.2 133 1 (Or.inl (by decide))).trans z34770) ((M37920.2 133 131 (Or.inl (by decide))).trans z34771) ((M37920.2 133 126 (Or.inl (by decide))).trans z34772) (fill_step x34774 M37920 (by omega) (by omega) (by omega)) (WS_ot x34775 M37920 (by decide)) (lv_sub hl [1, 2, 3, 4, 5, 6, 0] rfl) (by omega)
                        exact L34773 _ t32637 _ _ _ v34037 X34032 I32638 F32639 (R_of r34039 rfl) z32641 (zc (n := 1) (by omega) z32650) (zc (n := 131) (by omega) z34004) (zc (n := 126) (by omega) z34029) (fun j hj => by exfalso; omega) x32643 (lv_sub hl [2, 3, 4, 5, 6, 1, 0] rfl) (Nat.lt_succ_self _)
                      ·
                        have r37930 : R (0) (0) v34020 := ⟨by omega, by omega⟩
                        refine r_goto (tgt := 282) S dX12_jokes_108 (by decide) ?_
                        refine r_iinc (k := 4) S dX12_jokes_282 hl rfl (by decide) (by decide) (fun v37931 d37932 ls z37933 z37934 hl => ?_)
                        obtain ⟨e37935, r37936⟩ := i_add (lo := 1) (hi := 10) z37933 r33998 (R_eq z37934) rfl
                        have hl : lv_has ls 7 [(4, .int v37931), (0, .ref (G.2.2.2.1 131)), (1, .int a0), (2, .int a1), (3, .int i32633)] := hl
                        refine r_goto (tgt := 77) S dX12_jokes_285 (by decide) ?_
                        exact ih32645 t32637 _ _ _ i32633 v37931 X34018 I32638 F32639 r32634 (R_of r37936 rfl) z32641 (WS_mono x32643 (by omega)) (P4_mono x32644 (by omega)) (lv_sub hl [1, 2, 3, 4, 0] rfl) (by omega)
                exact L32642 _ t978 _ _ _ v991 v994 X981 I979 F980 (R_of r993 rfl) (R_of r996 rfl) z982 (fun i hi hn => by have q := x984 i (by omega) hn; omega) (P4_0 (by omega) (by omega)) (lv_sub hl [2, 3, 4, 1, 0] rfl) (Nat.lt_succ_self _)
              ·
                have r37937 : R (0) (220) i976 := ⟨by omega, by omega⟩
                refine r_aload_n S dX12_jokes_49 rfl (lv_at hl 0 rfl) ?_
                refine r_get (K := 38) (v := .ref (G.2.2.2.1 145)) S X981 (Nat.le_of_ble_eq_true rfl) rfl lk12_75_10 (fun _ => ⟨_, rfl, rfl⟩) dX12_jokes_50 ?_
                refine r_iload_n S dX12_jokes_53 rfl (lv_at hl 3 rfl) ?_
                refine r_iload_n S dX12_jokes_54 rfl (lv_at hl 3 rfl) ?_
                refine r_bipush S dX12_jokes_55 (by decide) (fun v37938 z37939 => ?_)
                have r37940 := R_eq z37939
                refine r_icmp_ne (tgt := 64) S dX12_jokes_57 (by decide) (fun c37941 => ?_) (fun c37941 => ?_)
                ·
                  refine r_iconst S dX12_jokes_64 (by decide) (fun v37942 z37943 => ?_)
                  have r37944 := R_eq z37943
                  refine r_ast (n := 221) (K := 52) S X981 (Nat.le_of_ble_eq_true rfl) rfl (fun _ _ => rfl) (ix_of r37937 rfl) dX12_jokes_65 (fun t37945 H lc M37946 X37947 => ?_)
                  have I37948 := Inv_mu I979 M37946 (R_any v37942)
                  have F37949 : Fr [(131, 0)] [145, 146] τ t37945 := Fr_cell F980 M37946 (by decide)
                  refine r_iinc (k := 3) S dX12_jokes_66 hl rfl (by decide) (by decide) (fun v37950 d37951 ls z37952 z37953 hl => ?_)
                  obtain ⟨e37954, r37955⟩ := i_add (lo := 1) (hi := 221) z37952 r37937 (R_eq z37953) rfl
                  have hl : lv_has ls 7 [(3, .int v37950), (0, .ref (G.2.2.2.1 131)), (1, .int a0), (2, .int a1)] := hl
                  refine r_goto (tgt := 42) S dX12_jokes_69 (by decide) ?_
                  exact ih985 t37945 _ _ _ v37950 X37947 I37948 F37949 (R_of r37955 rfl) ((M37946.2 133 0 (Or.inl (by decide))).trans z982) (ws_step x984 M37946 (by omega) (by omega) (by omega)) (lv_sub hl [1, 2, 3, 0] rfl) (by omega)
                ·
                  have r37956 : R (110) (110) i976 := ⟨by omega, by omega⟩
                  refine r_iconst S dX12_jokes_60 (by decide) (fun v37957 z37958 => ?_)
                  have r37959 := R_eq z37958
                  refine r_goto (tgt := 65) S dX12_jokes_61 (by decide) ?_
                  refine r_ast (n := 221) (K := 52) S X981 (Nat.le_of_ble_eq_true rfl) rfl (fun _ _ => rfl) (ix_of r37956 rfl) dX12_jokes_65 (fun t37960 H lc M37961 X37962 => ?_)
                  have I37963 := Inv_mu I979 M37961 (R_any v37957)
                  have F37964 : Fr [(131, 0)] [145, 146] τ t37960 := Fr_cell F980 M37961 (by decide)
                  refine r_iinc (k := 3) S dX12_jokes_66 hl rfl (by decide) (by decide) (fun v37965 d37966 ls z37967 z37968 hl => ?_)
                  obtain ⟨e37969, r37970⟩ := i_add (lo := 111) (hi := 111) z37967 r37956 (R_eq z37968) rfl
                  have hl : lv_has ls 7 [(3, .int v37965), (0, .ref (G.2.2.2.1 131)), (1, .int a0), (2, .int a1)] := hl
                  refine r_goto (tgt := 42) S dX12_jokes_69 (by decide) ?_
                  exact ih985 t37960 _ _ _ v37965 X37962 I37963 F37964 (R_of r37970 rfl) ((M37961.2 133 0 (Or.inl (by decide))).trans z982) (ws_step x984 M37961 (by omega) (by omega) (by omega)) (lv_sub hl [1, 2, 3, 0] rfl) (by omega)
          exact L983 _ t89 _ _ _ v101 X88 q91 F96 (R_of r103 rfl) ((q92 133 0 (by decide)).trans (zc (n := 0) (by omega) z39)) (fun j hj => by exfalso; omega) (lv_sub hl [1, 2, 3, 0] rfl) (Nat.lt_succ_self _)
        ·
          exfalso; omega
      ·
        have r37973 : R (0) (0) v75 := ⟨by omega, by omega⟩
        refine r_iconst S dX12_jokes_27 (by decide) (fun v37974 z37975 => ?_)
        have r37976 := R_eq z37975
        refine r_goto (tgt := 32) S dX12_jokes_28 (by decide) ?_
        refine r_ki (q_V (As := [.int v37974]) (rest := []) (K := 38) (ci := 10) S X73 (c_X12_throwsIf l G τ hI v37974 (R_of (lo := 0) (hi := 1) r37976 rfl)) ck12_255 (Nat.le_of_ble_eq_true rfl) rfl (fun _ => ⟨_, rfl⟩) ⟨_, _, rfl⟩ ⟨Nat.le_of_ble_eq_true rfl, Nat.le_of_ble_eq_true rfl⟩ rfl hl.1 rfl (Nat.le_of_ble_eq_true rfl) dX12_jokes_32 ⟨Nat.le_refl 0, Nat.le_refl 0⟩) X73 (fun v37980 t37979 H lc q37977 X37978 => ?_)
        unfold po_X12_throwsIf at q37977
        obtain ⟨q37981, q37982, q37983, q37984, q37985⟩ := q37977
        have F37986 : Fr [(131, 0)] [145, 146] τ t37979 := Fr_call Fr_rfl q37982 (by decide)
        refine r_if_eq (tgt := 40) S dX12_jokes_35 (by decide) (fun c37987 => ?_) (fun c37987 => ?_)
        ·
          exfalso; omega
        ·
          have r37990 : R (1) (1) v37980 := ⟨by omega, by omega⟩
          have p37991 := q37984 (by omega)
          have r37992 : R (1) (1) v37974 := ⟨by omega, by omega⟩
          refine r_iconst S dX12_jokes_38 (by decide) (fun v37993 z37994 => ?_)
          have r37995 := R_eq z37994
          exact r_ret S hr hlk X37978 ⟨q37981, F37986⟩ rfl dX12_jokes_39
