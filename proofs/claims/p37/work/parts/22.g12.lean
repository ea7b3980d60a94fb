def po_X12_bad (τ : Tau)  (a0 : Int32)   (r : Int32) (u : Tau) : Prop := Inv u ∧ Fr [(131, 15), (131, 16)] [] τ u ∧ R (0) (0) r
set_option maxHeartbeats 4000000 in
set_option maxRecDepth 100000 in
theorem c_X12_bad (l : Launch) (G : Gx) (τ : Tau) (hI : Inv τ) (a0 : Int32) (h_a0 : R (-2147483648) (2147483647) a0) : Ci l G yX12_bad cX12_bad 2 (some .boolean) 0 0 [.ref (G.2.2.2.1 131), .int a0] τ (po_X12_bad τ  a0  ) := by
  unfold Ci
  refine C_of (own := RX12) (by decide) rfl (Nat.le_of_ble_eq_true rfl) ?_
  intro p e s m below meth c ls S hr hlk X hl
  have hl : lv_has ls 2 [(0, .ref (G.2.2.2.1 131)), (1, .int a0)] := hl
  refine r_aload_n S dX12_bad_0 rfl (lv_at hl 0 rfl) ?_
  refine r_iload_n S dX12_bad_1 rfl (lv_at hl 1 rfl) ?_
  refine r_put (K := 38) (ty := .int) S X (Nat.le_of_ble_eq_true rfl) rfl lk12_174_10 (fun _ => ⟨_, rfl, Nat.le_of_ble_eq_true rfl, rfl⟩) (fun _ _ _ h => by cases h; exact ⟨rfl, rfl⟩) rfl rfl dX12_bad_2 (fun t1 H lc M2 X3 => ?_)
  have I4 := Inv_mu hI M2 (R_any a0)
  have F5 : Fr [(131, 15), (131, 16)] [] τ t1 := Fr_mu Fr_rfl M2 (by decide)
  refine r_aload_n S dX12_bad_5 rfl (lv_at hl 0 rfl) ?_
  refine r_aload_n S dX12_bad_6 rfl (lv_at hl 0 rfl) ?_
  refine r_getn (K := 38) S X3 (Nat.le_of_ble_eq_true rfl) rfl lk12_151_10 (fun _ => ⟨_, rfl, rfl⟩) dX12_bad_7 (fun v6 z7 => ?_)
  have r8 : R (0) (940) v6 := rd I4 rfl z7
  refine r_put (K := 38) (ty := .int) S X3 (Nat.le_of_ble_eq_true rfl) rfl lk12_177_10 (fun _ => ⟨_, rfl, Nat.le_of_ble_eq_true rfl, rfl⟩) (fun _ _ _ h => by cases h; exact ⟨rfl, rfl⟩) rfl rfl dX12_bad_10 (fun t9 H lc M10 X11 => ?_)
  have I12 := Inv_mu I4 M10 (R_any v6)
  have F13 : Fr [(131, 15), (131, 16)] [] τ t9 := Fr_mu F5 M10 (by decide)
  refine r_iconst S dX12_bad_13 (by decide) (fun v14 z15 => ?_)
  have r16 := R_eq z15
  exact r_ret S hr hlk X11 ⟨I12, F13, r16⟩ (nr_bool (R_of (lo := 0) (hi := 1) r16 rfl)) dX12_bad_14
def po_X12_isWord (τ : Tau)     (r : Int32) (u : Tau) : Prop := u = τ ∧ R (0) (1) r ∧ (r.toInt = 1 → R (1) (1) (u 131 11))
set_option maxHeartbeats 4000000 in
set_option maxRecDepth 100000 in
theorem c_X12_isWord (l : Launch) (G : Gx) (τ : Tau) (hI : Inv τ) (a0 : Int64) : Ci l G yX12_isWord cX12_isWord 3 (some .boolean) 0 0 [.ref (G.2.2.2.1 131), .long a0] τ (po_X12_isWord τ    ) := by
  unfold Ci
  refine C_of (own := RX12) (by decide) rfl (Nat.le_of_ble_eq_true rfl) ?_
  intro p e s m below meth c ls S hr hlk X hl
  have hl : lv_has ls 3 [(0, .ref (G.2.2.2.1 131)), (1, .long a0)] := hl
  refine r_aload_n S dX12_isWord_0 rfl (lv_at hl 0 rfl) ?_
  refine r_getn (K := 38) S X (Nat.le_of_ble_eq_true rfl) rfl lk12_157_10 (fun _ => ⟨_, rfl, rfl⟩) dX12_isWord_1 (fun v1 z2 => ?_)
  have r3 : R (0) (4) v1 := rd hI rfl z2
  refine r_iconst S dX12_isWord_4 (by decide) (fun v4 z5 => ?_)
  have r6 := R_eq z5
  refine r_icmp_ne (tgt := 21) S dX12_isWord_5 (by decide) (fun c7 => ?_) (fun c7 => ?_)
  ·
    refine r_iconst S dX12_isWord_21 (by decide) (fun v8 z9 => ?_)
    have r10 := R_eq z9
    exact r_ret S hr hlk X ⟨rfl, (R_of r10 rfl), (fun h => by exfalso; omega)⟩ (nr_bool (R_of (lo := 0) (hi := 1) r10 rfl)) dX12_isWord_22
  ·
    have r11 : R (1) (1) v1 := ⟨by omega, by omega⟩
    refine r_aload_n S dX12_isWord_8 rfl (lv_at hl 0 rfl) ?_
    refine r_getJ (K := 38) S X (Nat.le_of_ble_eq_true rfl) rfl lk12_170_10 (fun _ => ⟨_, rfl, rfl⟩) dX12_isWord_9 (fun j12 z13 => ?_)
    refine lv_lload_n S.1.1 S.1.2.1 dX12_isWord_12 rfl (lv_at hl 1 rfl) ?_
    refine r_lcmp S dX12_isWord_13 (fun v14 r15 e16 => ?_)
    refine r_if_ne (tgt := 21) S dX12_isWord_14 (by decide) (fun c17 => ?_) (fun c17 => ?_)
    ·
      refine r_iconst S dX12_isWord_21 (by decide) (fun v18 z19 => ?_)
      have r20 := R_eq z19
      exact r_ret S hr hlk X ⟨rfl, (R_of r20 rfl), (fun h => by exfalso; omega)⟩ (nr_bool (R_of (lo := 0) (hi := 1) r20 rfl)) dX12_isWord_22
    ·
      have r21 : R (0) (0) v14 := ⟨by omega, by omega⟩
      refine r_iconst S dX12_isWord_17 (by decide) (fun v22 z23 => ?_)
      have r24 := R_eq z23
      refine r_goto (tgt := 22) S dX12_isWord_18 (by decide) ?_
      exact r_ret S hr hlk X ⟨rfl, (R_of r24 rfl), (fun h => (by rw [z2]; exact R_of r11 rfl))⟩ (nr_bool (R_of (lo := 0) (hi := 1) r24 rfl)) dX12_isWord_22
def po_X12_isSign (τ : Tau)  (a0 : Int32)   (r : Int32) (u : Tau) : Prop := u = τ ∧ R (0) (1) r ∧ (r.toInt = 1 → R (3) (3) (u 131 11))
set_option maxHeartbeats 4000000 in
set_option maxRecDepth 100000 in
theorem c_X12_isSign (l : Launch) (G : Gx) (τ : Tau) (hI : Inv τ) (a0 : Int32) (h_a0 : R (-2147483648) (2147483647) a0) : Ci l G yX12_isSign cX12_isSign 2 (some .boolean) 0 0 [.ref (G.2.2.2.1 131), .int a0] τ (po_X12_isSign τ  a0  ) := by
  unfold Ci
  refine C_of (own := RX12) (by decide) rfl (Nat.le_of_ble_eq_true rfl) ?_
  intro p e s m below meth c ls S hr hlk X hl
  have hl : lv_has ls 2 [(0, .ref (G.2.2.2.1 131)), (1, .int a0)] := hl
  refine r_aload_n S dX12_isSign_0 rfl (lv_at hl 0 rfl) ?_
  refine r_getn (K := 38) S X (Nat.le_of_ble_eq_true rfl) rfl lk12_157_10 (fun _ => ⟨_, rfl, rfl⟩) dX12_isSign_1 (fun v1 z2 => ?_)
  have r3 : R (0) (4) v1 := rd hI rfl z2
  refine r_iconst S dX12_isSign_4 (by decide) (fun v4 z5 => ?_)
  have r6 := R_eq z5
  refine r_icmp_ne (tgt := 20) S dX12_isSign_5 (by decide) (fun c7 => ?_) (fun c7 => ?_)
  ·
    refine r_iconst S dX12_isSign_20 (by decide) (fun v8 z9 => ?_)
    have r10 := R_eq z9
    exact r_ret S hr hlk X ⟨rfl, (R_of r10 rfl), (fun h => by exfalso; omega)⟩ (nr_bool (R_of (lo := 0) (hi := 1) r10 rfl)) dX12_isSign_21
  ·
    have r11 : R (3) (3) v1 := ⟨by omega, by omega⟩
    refine r_aload_n S dX12_isSign_8 rfl (lv_at hl 0 rfl) ?_
    refine r_getn (K := 38) S X (Nat.le_of_ble_eq_true rfl) rfl lk12_167_10 (fun _ => ⟨_, rfl, rfl⟩) dX12_isSign_9 (fun v12 z13 => ?_)
    have r15 := R_any v12
    refine r_iload_n S dX12_isSign_12 rfl (lv_at hl 1 rfl) ?_
    refine r_icmp_ne (tgt := 20) S dX12_isSign_13 (by decide) (fun c16 => ?_) (fun c16 => ?_)
    ·
      refine r_iconst S dX12_isSign_20 (by decide) (fun v17 z18 => ?_)
      have r19 := R_eq z18
      exact r_ret S hr hlk X ⟨rfl, (R_of r19 rfl), (fun h => by exfalso; omega)⟩ (nr_bool (R_of (lo := 0) (hi := 1) r19 rfl)) dX12_isSign_21
    ·
      refine r_iconst S dX12_isSign_16 (by decide) (fun v20 z21 => ?_)
      have r22 := R_eq z21
      refine r_goto (tgt := 21) S dX12_isSign_17 (by decide) ?_
      exact r_ret S hr hlk X ⟨rfl, (R_of r22 rfl), (fun h => (by rw [z2]; exact R_of r11 rfl))⟩ (nr_bool (R_of (lo := 0) (hi := 1) r22 rfl)) dX12_isSign_21
def po_X12_sign (τ : Tau)  (a0 : Int32)   (r : Int32) (u : Tau) : Prop := Inv u ∧ Fr [(131, 15), (131, 16), (131, 4), (131, 11), (131, 12), (131, 13), (131, 14)] [331] τ u ∧ R (0) (1) r ∧ R (0) (940) (u 131 4) ∧ R (0) (4) (u 131 11) ∧ (τ 131 4).toInt ≤ (u 131 4).toInt
set_option maxHeartbeats 4000000 in
set_option maxRecDepth 100000 in
theorem c_X12_sign (l : Launch) (G : Gx) (τ : Tau) (hI : Inv τ) (a0 : Int32) (h_a0 : R (-2147483648) (2147483647) a0) : Ci l G yX12_sign cX12_sign 2 (some .boolean) 2 43 [.ref (G.2.2.2.1 131), .int a0] τ (po_X12_sign τ  a0  ) := by
  unfold Ci
  refine C_of (own := RX12) (by decide) rfl (Nat.le_of_ble_eq_true rfl) ?_
  intro p e s m below meth c ls S hr hlk X hl
  have hl : lv_has ls 2 [(0, .ref (G.2.2.2.1 131)), (1, .int a0)] := hl
  obtain ⟨v1, z2⟩ : ∃ x, τ 131 4 = x := ⟨_, rfl⟩
  have r3 : R (0) (940) v1 := rd hI rfl z2
  obtain ⟨v4, z5⟩ : ∃ x, τ 131 11 = x := ⟨_, rfl⟩
  have r6 : R (0) (4) v4 := rd hI rfl z5
  refine r_aload_n S dX12_sign_0 rfl (lv_at hl 0 rfl) ?_
  refine r_iload_n S dX12_sign_1 rfl (lv_at hl 1 rfl) ?_
  refine r_ki (q_V (As := [.int a0]) (rest := []) (K := 38) (ci := 10) S X (c_X12_isSign l G τ hI a0 h_a0) ck12_180 (Nat.le_of_ble_eq_true rfl) rfl (fun _ => ⟨_, rfl⟩) ⟨_, _, rfl⟩ ⟨Nat.le_of_ble_eq_true rfl, Nat.le_of_ble_eq_true rfl⟩ rfl hl.1 rfl (Nat.le_of_ble_eq_true rfl) dX12_sign_2 ⟨Nat.le_refl 0, Nat.le_refl 0⟩) X (fun v10 t9 H lc q7 X8 => ?_)
  unfold po_X12_isSign at q7
  obtain ⟨q11, q12, q13⟩ := q7
  rw [q11] at X8
  rw [q11] at q13
  refine r_if_ne (tgt := 14) S dX12_sign_5 (by decide) (fun c14 => ?_) (fun c14 => ?_)
  ·
    have r15 : R (1) (1) v10 := ⟨by omega, by omega⟩
    have p16 := q13 (by omega)
    have r17 : R (3) (3) v4 := z5 ▸ p16
    have r18 : R (3) (3) v4 := ⟨by omega, by omega⟩
    refine r_aload_n S dX12_sign_14 rfl (lv_at hl 0 rfl) ?_
    refine r_kv (q_V (As := []) (rest := []) (K := 38) (ci := 10) S X8 (c_X12_skip l G τ hI ) ck12_186 (Nat.le_of_ble_eq_true rfl) rfl (fun _ => ⟨_, rfl⟩) ⟨_, _, rfl⟩ ⟨Nat.le_of_ble_eq_true rfl, Nat.le_of_ble_eq_true rfl⟩ rfl hl.1 rfl (Nat.le_of_ble_eq_true rfl) dX12_sign_15 ⟨Nat.le_refl 0, Nat.le_refl 0⟩) X8 (fun t21 H lc q19 X20 => ?_)
    unfold po_X12_skip at q19
    obtain ⟨q22, q23, q24, q25, q26, q27⟩ := q19
    have F28 : Fr [(131, 15), (131, 16), (131, 4), (131, 11), (131, 12), (131, 13), (131, 14)] [331] τ t21 := Fr_call Fr_rfl q23 (by decide)
    obtain ⟨v29, z30⟩ : ∃ x, t21 131 4 = x := ⟨_, rfl⟩
    rw [z30] at q24
    obtain ⟨v31, z32⟩ : ∃ x, t21 131 11 = x := ⟨_, rfl⟩
    rw [z32] at q25
    have e33 := congrArg Int32.toInt z2
    have e34 := congrArg Int32.toInt z30
    have e35 := congrArg Int32.toInt z2
    have e36 := congrArg Int32.toInt z30
    have e37 := congrArg Int32.toInt z5
    have e38 := congrArg Int32.toInt z32
    refine r_iconst S dX12_sign_18 (by decide) (fun v39 z40 => ?_)
    have r41 := R_eq z40
    exact r_ret S hr hlk X20 ⟨q22, F28, (R_of r41 rfl), (by rw [z30]; exact R_of q24 rfl), (by rw [z32]; exact R_of q25 rfl), (by have h1_0 := congrArg Int32.toInt z30; have h2_0 := congrArg Int32.toInt z2; omega)⟩ (nr_bool (R_of (lo := 0) (hi := 1) r41 rfl)) dX12_sign_19
  ·
    have r42 : R (0) (0) v10 := ⟨by omega, by omega⟩
    refine r_aload_n S dX12_sign_8 rfl (lv_at hl 0 rfl) ?_
    refine r_iconst S dX12_sign_9 (by decide) (fun v43 z44 => ?_)
    have r45 := R_eq z44
    refine r_ki (q_V (As := [.int v43]) (rest := []) (K := 38) (ci := 10) S X8 (c_X12_bad l G τ hI v43 (R_of (lo := -2147483648) (hi := 2147483647) r45 rfl)) ck12_183 (Nat.le_of_ble_eq_true rfl) rfl (fun _ => ⟨_, rfl⟩) ⟨_, _, rfl⟩ ⟨Nat.le_of_ble_eq_true rfl, Nat.le_of_ble_eq_true rfl⟩ rfl hl.1 rfl (Nat.le_of_ble_eq_true rfl) dX12_sign_10 ⟨Nat.le_refl 0, Nat.le_refl 0⟩) X8 (fun v49 t48 H lc q46 X47 => ?_)
    unfold po_X12_bad at q46
    obtain ⟨q50, q51, q52⟩ := q46
    have F53 : Fr [(131, 15), (131, 16), (131, 4), (131, 11), (131, 12), (131, 13), (131, 14)] [331] τ t48 := Fr_call Fr_rfl q51 (by decide)
    exact r_ret S hr hlk X47 ⟨q50, F53, (R_of q52 rfl), (by rw [((q51 131 4 (by decide)).trans z2)]; exact R_of r3 rfl), (by rw [((q51 131 11 (by decide)).trans z5)]; exact R_of r6 rfl), (by have h1_0 := congrArg Int32.toInt ((q51 131 4 (by decide)).trans z2); have h2_0 := congrArg Int32.toInt z2; omega)⟩ (nr_bool (R_of (lo := 0) (hi := 1) q52 rfl)) dX12_sign_13
def po_X12_isName (τ : Tau)     (r : Int32) (u : Tau) : Prop := u = τ ∧ R (0) (1) r ∧ (r.toInt = 1 → R (1) (1) (u 131 11))
set_option maxHeartbeats 4000000 in
set_option maxRecDepth 100000 in
theorem c_X12_isName (l : Launch) (G : Gx) (τ : Tau) (hI : Inv τ) : Ci l G yX12_isName cX12_isName 3 (some .boolean) 0 0 [.ref (G.2.2.2.1 131)] τ (po_X12_isName τ    ) := by
  unfold Ci
  refine C_of (own := RX12) (by decide) rfl (Nat.le_of_ble_eq_true rfl) ?_
  intro p e s m below meth c ls S hr hlk X hl
  have hl : lv_has ls 3 [(0, .ref (G.2.2.2.1 131))] := hl
  obtain ⟨v1, z2⟩ : ∃ x, τ 131 11 = x := ⟨_, rfl⟩
  have r3 : R (0) (4) v1 := rd hI rfl z2
  refine r_aload_n S dX12_isName_0 rfl (lv_at hl 0 rfl) ?_
  refine r_geti (K := 38) S X (Nat.le_of_ble_eq_true rfl) rfl lk12_157_10 (fun _ => ⟨_, rfl, rfl⟩) z2 dX12_isName_1 ?_
  refine r_iconst S dX12_isName_4 (by decide) (fun v4 z5 => ?_)
  have r6 := R_eq z5
  refine r_icmp_ne (tgt := 12) S dX12_isName_5 (by decide) (fun c7 => ?_) (fun c7 => ?_)
  ·
    refine r_iconst S dX12_isName_12 (by decide) (fun v8 z9 => ?_)
    have r10 := R_eq z9
    refine r_istore_n (lv' := [(1, .int v8), (0, .ref (G.2.2.2.1 131))]) S dX12_isName_13 rfl hl (by decide) rfl (fun ls hl => ?_)
    refine r_iconst S dX12_isName_14 (by decide) (fun v11 z12 => ?_)
    have r13 := R_eq z12
    refine r_istore_n (lv' := [(2, .int v11), (1, .int v8), (0, .ref (G.2.2.2.1 131))]) S dX12_isName_15 rfl hl (by decide) rfl (fun ls hl => ?_)
    have L211 : ∀ (n : Nat) (H : Heap) (lc : List Loc) (ls : Array Slot) (i206 : Int32) (i208 : Int32), Xd G s H lc τ → R (0) (0) i206 → R (0) (24) i208 → lv_has ls 3 [(0, .ref (G.2.2.2.1 131)), (1, .int i206), (2, .int i208)] → (24 - i208.toInt).toNat < n → W p l e (Rm 0 0) s m ([.ref (G.2.2.2.1 131)] : List Value).toArray below meth c H lc 0 0 (MQ below (va_Qi (po_X12_isName τ    ) (Bs G) G.2.2.2.2) ([.ref (G.2.2.2.1 131)] : List Value).toArray s 0 0 G.2.2.2.2) (F0 m 16 ls []) := by
      intro n
      induction n with
      | zero => intros; omega
      | succ n ih212 =>
        intro H lc ls i206 i208 X210 r207 r209 hl hm
        refine r_iload_n S dX12_isName_16 rfl (lv_at hl 2 rfl) ?_
        refine r_bipush S dX12_isName_17 (by decide) (fun v213 z214 => ?_)
        have r215 := R_eq z214
        refine r_icmp_ge (tgt := 52) S dX12_isName_19 (by decide) (fun c216 => ?_) (fun c216 => ?_)
        ·
          have r217 : R (24) (24) i208 := ⟨by omega, by omega⟩
          refine r_iload_n S dX12_isName_52 rfl (lv_at hl 1 rfl) ?_
          exact r_ret S hr hlk X210 ⟨rfl, (R_of r207 rfl), (fun h => by exfalso; omega)⟩ (nr_bool (R_of (lo := 0) (hi := 1) r207 rfl)) dX12_isName_53
        ·
          have r218 : R (0) (23) i208 := ⟨by omega, by omega⟩
          refine r_iload_n S dX12_isName_22 rfl (lv_at hl 1 rfl) ?_
          refine r_if_eq (tgt := 44) S dX12_isName_23 (by decide) (fun c219 => ?_) (fun c219 => ?_)
          ·
            refine r_iconst S dX12_isName_44 (by decide) (fun v220 z221 => ?_)
            have r222 := R_eq z221
            refine r_istore_n (lv' := [(1, .int v220), (0, .ref (G.2.2.2.1 131)), (2, .int i208)]) S dX12_isName_45 rfl hl (by decide) rfl (fun ls hl => ?_)
            refine r_iinc (k := 2) S dX12_isName_46 hl rfl (by decide) (by decide) (fun v223 d224 ls z225 z226 hl => ?_)
            obtain ⟨e227, r228⟩ := i_add (lo := 1) (hi := 24) z225 r218 (R_eq z226) rfl
            have hl : lv_has ls 3 [(2, .int v223), (1, .int v220), (0, .ref (G.2.2.2.1 131))] := hl
            refine r_goto (tgt := 16) S dX12_isName_49 (by decide) ?_
            exact ih212 _ _ _ v220 v223 X210 r222 (R_of r228 rfl) (lv_sub hl [2, 1, 0] rfl) (by omega)
          ·
            exfalso; omega
    exact L211 _ _ _ _ v8 v11 X r10 (R_of r13 rfl) (lv_sub hl [2, 1, 0] rfl) (Nat.lt_succ_self _)
  ·
    have r229 : R (1) (1) v1 := ⟨by omega, by omega⟩
    refine r_iconst S dX12_isName_8 (by decide) (fun v230 z231 => ?_)
    have r232 := R_eq z231
    refine r_goto (tgt := 13) S dX12_isName_9 (by decide) ?_
    refine r_istore_n (lv' := [(1, .int v230), (0, .ref (G.2.2.2.1 131))]) S dX12_isName_13 rfl hl (by decide) rfl (fun ls hl => ?_)
    refine r_iconst S dX12_isName_14 (by decide) (fun v233 z234 => ?_)
    have r235 := R_eq z234
    refine r_istore_n (lv' := [(2, .int v233), (1, .int v230), (0, .ref (G.2.2.2.1 131))]) S dX12_isName_15 rfl hl (by decide) rfl (fun ls hl => ?_)
    have L712 : ∀ (n : Nat) (H : Heap) (lc : List Loc) (ls : Array Slot) (i707 : Int32) (i709 : Int32), Xd G s H lc τ → R (0) (1) i707 → R (0) (24) i709 → lv_has ls 3 [(0, .ref (G.2.2.2.1 131)), (1, .int i707), (2, .int i709)] → (24 - i709.toInt).toNat < n → W p l e (Rm 0 0) s m ([.ref (G.2.2.2.1 131)] : List Value).toArray below meth c H lc 0 0 (MQ below (va_Qi (po_X12_isName τ    ) (Bs G) G.2.2.2.2) ([.ref (G.2.2.2.1 131)] : List Value).toArray s 0 0 G.2.2.2.2) (F0 m 16 ls []) := by
      intro n
      induction n with
      | zero => intros; omega
      | succ n ih713 =>
        intro H lc ls i707 i709 X711 r708 r710 hl hm
        refine r_iload_n S dX12_isName_16 rfl (lv_at hl 2 rfl) ?_
        refine r_bipush S dX12_isName_17 (by decide) (fun v714 z715 => ?_)
        have r716 := R_eq z715
        refine r_icmp_ge (tgt := 52) S dX12_isName_19 (by decide) (fun c717 => ?_) (fun c717 => ?_)
        ·
          have r718 : R (24) (24) i709 := ⟨by omega, by omega⟩
          refine r_iload_n S dX12_isName_52 rfl (lv_at hl 1 rfl) ?_
          exact r_ret S hr hlk X711 ⟨rfl, r708, (fun h => (by rw [z2]; exact R_of r229 rfl))⟩ (nr_bool (R_of (lo := 0) (hi := 1) r708 rfl)) dX12_isName_53
        ·
          have r719 : R (0) (23) i709 := ⟨by omega, by omega⟩
          refine r_iload_n S dX12_isName_22 rfl (lv_at hl 1 rfl) ?_
          refine r_if_eq (tgt := 44) S dX12_isName_23 (by decide) (fun c720 => ?_) (fun c720 => ?_)
          ·
            have r721 : R (0) (0) i707 := ⟨by omega, by omega⟩
            refine r_iconst S dX12_isName_44 (by decide) (fun v722 z723 => ?_)
            have r724 := R_eq z723
            refine r_istore_n (lv' := [(1, .int v722), (0, .ref (G.2.2.2.1 131)), (2, .int i709)]) S dX12_isName_45 rfl hl (by decide) rfl (fun ls hl => ?_)
            refine r_iinc (k := 2) S dX12_isName_46 hl rfl (by decide) (by decide) (fun v725 d726 ls z727 z728 hl => ?_)
            obtain ⟨e729, r730⟩ := i_add (lo := 1) (hi := 24) z727 r719 (R_eq z728) rfl
            have hl : lv_has ls 3 [(2, .int v725), (1, .int v722), (0, .ref (G.2.2.2.1 131))] := hl
            refine r_goto (tgt := 16) S dX12_isName_49 (by decide) ?_
            exact ih713 _ _ _ v722 v725 X711 (R_of r724 rfl) (R_of r730 rfl) (lv_sub hl [2, 1, 0] rfl) (by omega)
          ·
            have r731 : R (1) (1) i707 := ⟨by omega, by omega⟩
            refine r_aload_n S dX12_isName_26 rfl (lv_at hl 0 rfl) ?_
            refine r_getJ (K := 38) S X711 (Nat.le_of_ble_eq_true rfl) rfl lk12_170_10 (fun _ => ⟨_, rfl, rfl⟩) dX12_isName_27 (fun j732 z733 => ?_)
            refine r_aload_n S dX12_isName_30 rfl (lv_at hl 0 rfl) ?_
            refine r_get (K := 38) (v := .ref (G.2.2.2.1 137)) S X711 (Nat.le_of_ble_eq_true rfl) rfl lk12_47_10 (fun _ => ⟨_, rfl, rfl⟩) dX12_isName_31 ?_
            refine r_iload_n S dX12_isName_34 rfl (lv_at hl 2 rfl) ?_
            refine r_lald (n := 24) (K := 44) S X711 (Nat.le_of_ble_eq_true rfl) rfl (fun _ => rfl) (ix_of r719 rfl) dX12_isName_35 (fun j734 z735 => ?_)
            refine r_lcmp S dX12_isName_36 (fun v736 r737 e738 => ?_)
            refine r_if_eq (tgt := 44) S dX12_isName_37 (by decide) (fun c739 => ?_) (fun c739 => ?_)
            ·
              have r740 : R (0) (0) v736 := ⟨by omega, by omega⟩
              refine r_iconst S dX12_isName_44 (by decide) (fun v741 z742 => ?_)
              have r743 := R_eq z742
              refine r_istore_n (lv' := [(1, .int v741), (0, .ref (G.2.2.2.1 131)), (2, .int i709)]) S dX12_isName_45 rfl hl (by decide) rfl (fun ls hl => ?_)
              refine r_iinc (k := 2) S dX12_isName_46 hl rfl (by decide) (by decide) (fun v744 d745 ls z746 z747 hl => ?_)
              obtain ⟨e748, r749⟩ := i_add (lo := 1) (hi := 24) z746 r719 (R_eq z747) rfl
              have hl : lv_has ls 3 [(2, .int v744), (1, .int v741), (0, .ref (G.2.2.2.1 131))] := hl
              refine r_goto (tgt := 16) S dX12_isName_49 (by decide) ?_
              exact ih713 _ _ _ v741 v744 X711 (R_of r743 rfl) (R_of r749 rfl) (lv_sub hl [2, 1, 0] rfl) (by omega)
            ·
              refine r_iconst S dX12_isName_40 (by decide) (fun v750 z751 => ?_)
              have r752 := R_eq z751
              refine r_goto (tgt := 45) S dX12_isName_41 (by decide) ?_
              refine r_istore_n (lv' := [(1, .int v750), (0, .ref (G.2.2.2.1 131)), (2, .int i709)]) S dX12_isName_45 rfl hl (by decide) rfl (fun ls hl => ?_)
              refine r_iinc (k := 2) S dX12_isName_46 hl rfl (by decide) (by decide) (fun v753 d754 ls z755 z756 hl => ?_)
              obtain ⟨e757, r758⟩ := i_add (lo := 1) (hi := 24) z755 r719 (R_eq z756) rfl
              have hl : lv_has ls 3 [(2, .int v753), (1, .int v750), (0, .ref (G.2.2.2.1 131))] := hl
              refine r_goto (tgt := 16) S dX12_isName_49 (by decide) ?_
              exact ih713 _ _ _ v750 v753 X711 (R_of r752 rfl) (R_of r758 rfl) (lv_sub hl [2, 1, 0] rfl) (by omega)
    exact L712 _ _ _ _ v230 v233 X (R_of r232 rfl) (R_of r235 rfl) (lv_sub hl [2, 1, 0] rfl) (Nat.lt_succ_self _)
def po_X12_takes_1_8 (τ : Tau)  (a0 a1 : Int32)   (r : Int32) (u : Tau) : Prop := Inv u ∧ Fr [(131, 15), (131, 16), (131, 4), (131, 11), (131, 12), (131, 13), (131, 14), (131, 18)] [331] τ u ∧ R (0) (1) r ∧ (r.toInt = 1 → R (1) (8) (u 131 18)) ∧ R (0) (940) (u 131 4) ∧ R (0) (4) (u 131 11) ∧ (τ 131 4).toInt ≤ (u 131 4).toInt ∧ (r.toInt = 1 → (τ 131 11).toInt = 2)
set_option maxHeartbeats 4000000 in
set_option maxRecDepth 100000 in
theorem c_X12_takes_1_8 (l : Launch) (G : Gx) (τ : Tau) (hI : Inv τ) (a0 : Int32) (a1 : Int32) (h_a0 : R (1) (1) a0) (h_a1 : R (8) (8) a1) : Ci l G yX12_takes cX12_takes 3 (some .boolean) 2 43 [.ref (G.2.2.2.1 131), .int a0, .int a1] τ (po_X12_takes_1_8 τ  a0 a1  ) := by
  unfold Ci
  refine C_of (own := RX12) (by decide) rfl (Nat.le_of_ble_eq_true rfl) ?_
  intro p e s m below meth c ls S hr hlk X hl
  have hl : lv_has ls 3 [(0, .ref (G.2.2.2.1 131)), (1, .int a0), (2, .int a1)] := hl
  obtain ⟨v1, z2⟩ : ∃ x, τ 131 4 = x := ⟨_, rfl⟩
  have r3 : R (0) (940) v1 := rd hI rfl z2
  obtain ⟨v4, z5⟩ : ∃ x, τ 131 11 = x := ⟨_, rfl⟩
  have r6 : R (0) (4) v4 := rd hI rfl z5
  refine r_aload_n S dX12_takes_0 rfl (lv_at hl 0 rfl) ?_
  refine r_geti (K := 38) S X (Nat.le_of_ble_eq_true rfl) rfl lk12_157_10 (fun _ => ⟨_, rfl, rfl⟩) z5 dX12_takes_1 ?_
  refine r_iconst S dX12_takes_4 (by decide) (fun v7 z8 => ?_)
  have r9 := R_eq z8
  refine r_icmp_eq (tgt := 14) S dX12_takes_5 (by decide) (fun c10 => ?_) (fun c10 => ?_)
  ·
    have r11 : R (2) (2) v4 := ⟨by omega, by omega⟩
    refine r_aload_n S dX12_takes_14 rfl (lv_at hl 0 rfl) ?_
    refine r_getn (K := 38) S X (Nat.le_of_ble_eq_true rfl) rfl lk12_167_10 (fun _ => ⟨_, rfl, rfl⟩) dX12_takes_15 (fun v12 z13 => ?_)
    have r15 := R_any v12
    refine r_iload_n S dX12_takes_18 rfl (lv_at hl 1 rfl) ?_
    refine r_iload_n S dX12_takes_19 rfl (lv_at hl 2 rfl) ?_
    refine r_ki (q_S (As := [.int v12, .int a0, .int a1]) (rest := []) S X (c_X12_isIn l G τ hI v12 a0 a1 r15 (R_of (lo := -2147483648) (hi := 2147483647) h_a0 rfl) (R_of (lo := -2147483648) (hi := 2147483647) h_a1 rfl)) ck12_189 ⟨Nat.le_of_ble_eq_true rfl, Nat.le_of_ble_eq_true rfl⟩ rfl hl.1 rfl (Nat.le_of_ble_eq_true rfl) dX12_takes_20 ⟨Nat.le_refl 0, Nat.le_refl 0⟩) X (fun v19 t18 H lc q16 X17 => ?_)
    unfold po_X12_isIn at q16
    obtain ⟨q20, q21, q22⟩ := q16
    rw [q20] at X17
    refine r_if_ne (tgt := 32) S dX12_takes_23 (by decide) (fun c23 => ?_) (fun c23 => ?_)
    ·
      have r24 : R (1) (1) v19 := ⟨by omega, by omega⟩
      obtain ⟨p25, p26⟩ := q22 (by omega)
      have r27 : R (1) (8) v12 := ⟨by omega, by omega⟩
      refine r_aload_n S dX12_takes_32 rfl (lv_at hl 0 rfl) ?_
      refine r_aload_n S dX12_takes_33 rfl (lv_at hl 0 rfl) ?_
      refine r_geti (K := 38) S X17 (Nat.le_of_ble_eq_true rfl) rfl lk12_167_10 (fun _ => ⟨_, rfl, rfl⟩) z13 dX12_takes_34 ?_
      refine r_put (K := 38) (ty := .int) S X17 (Nat.le_of_ble_eq_true rfl) rfl lk12_193_10 (fun _ => ⟨_, rfl, Nat.le_of_ble_eq_true rfl, rfl⟩) (fun _ _ _ h => by cases h; exact ⟨rfl, rfl⟩) rfl rfl dX12_takes_37 (fun t28 H lc M29 X30 => ?_)
      have I31 := Inv_mu hI M29 (R_any v12)
      have F32 : Fr [(131, 15), (131, 16), (131, 4), (131, 11), (131, 12), (131, 13), (131, 14), (131, 18)] [331] τ t28 := Fr_mu Fr_rfl M29 (by decide)
      refine r_aload_n S dX12_takes_40 rfl (lv_at hl 0 rfl) ?_
      refine r_kv (q_V (As := []) (rest := []) (K := 38) (ci := 10) S X30 (c_X12_skip l G t28 I31 ) ck12_186 (Nat.le_of_ble_eq_true rfl) rfl (fun _ => ⟨_, rfl⟩) ⟨_, _, rfl⟩ ⟨Nat.le_of_ble_eq_true rfl, Nat.le_of_ble_eq_true rfl⟩ rfl hl.1 rfl (Nat.le_of_ble_eq_true rfl) dX12_takes_41 ⟨Nat.le_refl 0, Nat.le_refl 0⟩) X30 (fun t35 H lc q33 X34 => ?_)
      unfold po_X12_skip at q33
      obtain ⟨q36, q37, q38, q39, q40, q41⟩ := q33
      have F42 : Fr [(131, 15), (131, 16), (131, 4), (131, 11), (131, 12), (131, 13), (131, 14), (131, 18)] [331] τ t35 := Fr_call F32 q37 (by decide)
      obtain ⟨v43, z44⟩ : ∃ x, t35 131 4 = x := ⟨_, rfl⟩
      rw [z44] at q38
      obtain ⟨v45, z46⟩ : ∃ x, t35 131 11 = x := ⟨_, rfl⟩
      rw [z46] at q39
      have e47 := congrArg Int32.toInt ((M29.2 131 4 (Or.inr (by decide))).trans z2)
      have e48 := congrArg Int32.toInt z44
      have e49 := congrArg Int32.toInt ((M29.2 131 4 (Or.inr (by decide))).trans z2)
      have e50 := congrArg Int32.toInt z44
      have e51 := congrArg Int32.toInt ((M29.2 131 11 (Or.inr (by decide))).trans z5)
      have e52 := congrArg Int32.toInt z46
      refine r_iconst S dX12_takes_44 (by decide) (fun v53 z54 => ?_)
      have r55 := R_eq z54
      exact r_ret S hr hlk X34 ⟨q36, F42, (R_of r55 rfl), (fun h => (by rw [((q37 131 18 (by decide)).trans M29.1)]; exact R_of r27 rfl)), (by rw [z44]; exact R_of q38 rfl), (by rw [z46]; exact R_of q39 rfl), (by have h1_0 := congrArg Int32.toInt z44; have h2_0 := congrArg Int32.toInt z2; omega), (by have h1_0 := congrArg Int32.toInt z46; have h2_0 := congrArg Int32.toInt z5; omega)⟩ (nr_bool (R_of (lo := 0) (hi := 1) r55 rfl)) dX12_takes_45
    ·
      have r56 : R (0) (0) v19 := ⟨by omega, by omega⟩
      refine r_aload_n S dX12_takes_26 rfl (lv_at hl 0 rfl) ?_
      refine r_iconst S dX12_takes_27 (by decide) (fun v57 z58 => ?_)
      have r59 := R_eq z58
      refine r_ki (q_V (As := [.int v57]) (rest := []) (K := 38) (ci := 10) S X17 (c_X12_bad l G τ hI v57 (R_of (lo := -2147483648) (hi := 2147483647) r59 rfl)) ck12_183 (Nat.le_of_ble_eq_true rfl) rfl (fun _ => ⟨_, rfl⟩) ⟨_, _, rfl⟩ ⟨Nat.le_of_ble_eq_true rfl, Nat.le_of_ble_eq_true rfl⟩ rfl hl.1 rfl (Nat.le_of_ble_eq_true rfl) dX12_takes_28 ⟨Nat.le_refl 0, Nat.le_refl 0⟩) X17 (fun v63 t62 H lc q60 X61 => ?_)
      unfold po_X12_bad at q60
      obtain ⟨q64, q65, q66⟩ := q60
      have F67 : Fr [(131, 15), (131, 16), (131, 4), (131, 11), (131, 12), (131, 13), (131, 14), (131, 18)] [331] τ t62 := Fr_call Fr_rfl q65 (by decide)
      exact r_ret S hr hlk X61 ⟨q64, F67, (R_of q66 rfl), (fun h => by exfalso; omega), (by rw [((q65 131 4 (by decide)).trans z2)]; exact R_of r3 rfl), (by rw [((q65 131 11 (by decide)).trans z5)]; exact R_of r11 rfl), (by have h1_0 := congrArg Int32.toInt ((q65 131 4 (by decide)).trans z2); have h2_0 := congrArg Int32.toInt z2; omega), (by have h1_0 := congrArg Int32.toInt ((q65 131 11 (by decide)).trans z5); have h2_0 := congrArg Int32.toInt z5; omega)⟩ (nr_bool (R_of (lo := 0) (hi := 1) q66 rfl)) dX12_takes_31
  ·
    refine r_aload_n S dX12_takes_8 rfl (lv_at hl 0 rfl) ?_
    refine r_iconst S dX12_takes_9 (by decide) (fun v68 z69 => ?_)
    have r70 := R_eq z69
    refine r_ki (q_V (As := [.int v68]) (rest := []) (K := 38) (ci := 10) S X (c_X12_bad l G τ hI v68 (R_of (lo := -2147483648) (hi := 2147483647) r70 rfl)) ck12_183 (Nat.le_of_ble_eq_true rfl) rfl (fun _ => ⟨_, rfl⟩) ⟨_, _, rfl⟩ ⟨Nat.le_of_ble_eq_true rfl, Nat.le_of_ble_eq_true rfl⟩ rfl hl.1 rfl (Nat.le_of_ble_eq_true rfl) dX12_takes_10 ⟨Nat.le_refl 0, Nat.le_refl 0⟩) X (fun v74 t73 H lc q71 X72 => ?_)
    unfold po_X12_bad at q71
    obtain ⟨q75, q76, q77⟩ := q71
    have F78 : Fr [(131, 15), (131, 16), (131, 4), (131, 11), (131, 12), (131, 13), (131, 14), (131, 18)] [331] τ t73 := Fr_call Fr_rfl q76 (by decide)
    exact r_ret S hr hlk X72 ⟨q75, F78, (R_of q77 rfl), (fun h => by exfalso; omega), (by rw [((q76 131 4 (by decide)).trans z2)]; exact R_of r3 rfl), (by rw [((q76 131 11 (by decide)).trans z5)]; exact R_of r6 rfl), (by have h1_0 := congrArg Int32.toInt ((q76 131 4 (by decide)).trans z2); have h2_0 := congrArg Int32.toInt z2; omega), (by have h1_0 := congrArg Int32.toInt ((q76 131 11 (by decide)).trans z5); have h2_0 := congrArg Int32.toInt z5; omega)⟩ (nr_bool (R_of (lo := 0) (hi := 1) q77 rfl)) dX12_takes_13
def po_X12_takes_0_9 (τ : Tau)  (a0 a1 : Int32)   (r : Int32) (u : Tau) : Prop := Inv u ∧ Fr [(131, 15), (131, 16), (131, 4), (131, 11), (131, 12), (131, 13), (131, 14), (131, 18)] [331] τ u ∧ R (0) (1) r ∧ (r.toInt = 1 → R (0) (9) (u 131 18)) ∧ R (0) (940) (u 131 4) ∧ R (0) (4) (u 131 11) ∧ (τ 131 4).toInt ≤ (u 131 4).toInt ∧ (r.toInt = 1 → (τ 131 11).toInt = 2)
set_option maxHeartbeats 4000000 in
set_option maxRecDepth 100000 in
theorem c_X12_takes_0_9 (l : Launch) (G : Gx) (τ : Tau) (hI : Inv τ) (a0 : Int32) (a1 : Int32) (h_a0 : R (0) (0) a0) (h_a1 : R (9) (9) a1) : Ci l G yX12_takes cX12_takes 3 (some .boolean) 2 43 [.ref (G.2.2.2.1 131), .int a0, .int a1] τ (po_X12_takes_0_9 τ  a0 a1  ) := by
  unfold Ci
  refine C_of (own := RX12) (by decide) rfl (Nat.le_of_ble_eq_true rfl) ?_
  intro p e s m below meth c ls S hr hlk X hl
  have hl : lv_has ls 3 [(0, .ref (G.2.2.2.1 131)), (1, .int a0), (2, .int a1)] := hl
  obtain ⟨v1, z2⟩ : ∃ x, τ 131 4 = x := ⟨_, rfl⟩
  have r3 : R (0) (940) v1 := rd hI rfl z2
  obtain ⟨v4, z5⟩ : ∃ x, τ 131 11 = x := ⟨_, rfl⟩
  have r6 : R (0) (4) v4 := rd hI rfl z5
  refine r_aload_n S dX12_takes_0 rfl (lv_at hl 0 rfl) ?_
  refine r_geti (K := 38) S X (Nat.le_of_ble_eq_true rfl) rfl lk12_157_10 (fun _ => ⟨_, rfl, rfl⟩) z5 dX12_takes_1 ?_
  refine r_iconst S dX12_takes_4 (by decide) (fun v7 z8 => ?_)
  have r9 := R_eq z8
  refine r_icmp_eq (tgt := 14) S dX12_takes_5 (by decide) (fun c10 => ?_) (fun c10 => ?_)
  ·
    have r11 : R (2) (2) v4 := ⟨by omega, by omega⟩
    refine r_aload_n S dX12_takes_14 rfl (lv_at hl 0 rfl) ?_
    refine r_getn (K := 38) S X (Nat.le_of_ble_eq_true rfl) rfl lk12_167_10 (fun _ => ⟨_, rfl, rfl⟩) dX12_takes_15 (fun v12 z13 => ?_)
    have r15 := R_any v12
    refine r_iload_n S dX12_takes_18 rfl (lv_at hl 1 rfl) ?_
    refine r_iload_n S dX12_takes_19 rfl (lv_at hl 2 rfl) ?_
    refine r_ki (q_S (As := [.int v12, .int a0, .int a1]) (rest := []) S X (c_X12_isIn l G τ hI v12 a0 a1 r15 (R_of (lo := -2147483648) (hi := 2147483647) h_a0 rfl) (R_of (lo := -2147483648) (hi := 2147483647) h_a1 rfl)) ck12_189 ⟨Nat.le_of_ble_eq_true rfl, Nat.le_of_ble_eq_true rfl⟩ rfl hl.1 rfl (Nat.le_of_ble_eq_true rfl) dX12_takes_20 ⟨Nat.le_refl 0, Nat.le_refl 0⟩) X (fun v19 t18 H lc q16 X17 => ?_)
    unfold po_X12_isIn at q16
    obtain ⟨q20, q21, q22⟩ := q16
    rw [q20] at X17
    refine r_if_ne (tgt := 32) S dX12_takes_23 (by decide) (fun c23 => ?_) (fun c23 => ?_)
    ·
      have r24 : R (1) (1) v19 := ⟨by omega, by omega⟩
      obtain ⟨p25, p26⟩ := q22 (by omega)
      have r27 : R (0) (9) v12 := ⟨by omega, by omega⟩
      refine r_aload_n S dX12_takes_32 rfl (lv_at hl 0 rfl) ?_
      refine r_aload_n S dX12_takes_33 rfl (lv_at hl 0 rfl) ?_
      refine r_geti (K := 38) S X17 (Nat.le_of_ble_eq_true rfl) rfl lk12_167_10 (fun _ => ⟨_, rfl, rfl⟩) z13 dX12_takes_34 ?_
      refine r_put (K := 38) (ty := .int) S X17 (Nat.le_of_ble_eq_true rfl) rfl lk12_193_10 (fun _ => ⟨_, rfl, Nat.le_of_ble_eq_true rfl, rfl⟩) (fun _ _ _ h => by cases h; exact ⟨rfl, rfl⟩) rfl rfl dX12_takes_37 (fun t28 H lc M29 X30 => ?_)
      have I31 := Inv_mu hI M29 (R_any v12)
      have F32 : Fr [(131, 15), (131, 16), (131, 4), (131, 11), (131, 12), (131, 13), (131, 14), (131, 18)] [331] τ t28 := Fr_mu Fr_rfl M29 (by decide)
      refine r_aload_n S dX12_takes_40 rfl (lv_at hl 0 rfl) ?_
      refine r_kv (q_V (As := []) (rest := []) (K := 38) (ci := 10) S X30 (c_X12_skip l G t28 I31 ) ck12_186 (Nat.le_of_ble_eq_true rfl) rfl (fun _ => ⟨_, rfl⟩) ⟨_, _, rfl⟩ ⟨Nat.le_of_ble_eq_true rfl, Nat.le_of_ble_eq_true rfl⟩ rfl hl.1 rfl (Nat.le_of_ble_eq_true rfl) dX12_takes_41 ⟨Nat.le_refl 0, Nat.le_refl 0⟩) X30 (fun t35 H lc q33 X34 => ?_)
      unfold po_X12_skip at q33
      obtain ⟨q36, q37, q38, q39, q40, q41⟩ := q33
      have F42 : Fr [(131, 15), (131, 16), (131, 4), (131, 11), (131, 12), (131, 13), (131, 14), (131, 18)] [331] τ t35 := Fr_call F32 q37 (by decide)
      obtain ⟨v43, z44⟩ : ∃ x, t35 131 4 = x := ⟨_, rfl⟩
      rw [z44] at q38
      obtain ⟨v45, z46⟩ : ∃ x, t35 131 11 = x := ⟨_, rfl⟩
      rw [z46] at q39
      have e47 := congrArg Int32.toInt ((M29.2 131 4 (Or.inr (by decide))).trans z2)
      have e48 := congrArg Int32.toInt z44
      have e49 := congrArg Int32.toInt ((M29.2 131 4 (Or.inr (by decide))).trans z2)
      have e50 := congrArg Int32.toInt z44
      have e51 := congrArg Int32.toInt ((M29.2 131 11 (Or.inr (by decide))).trans z5)
      have e52 := congrArg Int32.toInt z46
      refine r_iconst S dX12_takes_44 (by decide) (fun v53 z54 => ?_)
      have r55 := R_eq z54
      exact r_ret S hr hlk X34 ⟨q36, F42, (R_of r55 rfl), (fun h => (by rw [((q37 131 18 (by decide)).trans M29.1)]; exact R_of r27 rfl)), (by rw [z44]; exact R_of q38 rfl), (by rw [z46]; exact R_of q39 rfl), (by have h1_0 := congrArg Int32.toInt z44; have h2_0 := congrArg Int32.toInt z2; omega), (by have h1_0 := congrArg Int32.toInt z46; have h2_0 := congrArg Int32.toInt z5; omega)⟩ (nr_bool (R_of (lo := 0) (hi := 1) r55 rfl)) dX12_takes_45
    ·
      have r56 : R (0) (0) v19 := ⟨by omega, by omega⟩
      refine r_aload_n S dX12_takes_26 rfl (lv_at hl 0 rfl) ?_
      refine r_iconst S dX12_takes_27 (by decide) (fun v57 z58 => ?_)
      have r59 := R_eq z58
      refine r_ki (q_V (As := [.int v57]) (rest := []) (K := 38) (ci := 10) S X17 (c_X12_bad l G τ hI v57 (R_of (lo := -2147483648) (hi := 2147483647) r59 rfl)) ck12_183 (Nat.le_of_ble_eq_true rfl) rfl (fun _ => ⟨_, rfl⟩) ⟨_, _, rfl⟩ ⟨Nat.le_of_ble_eq_true rfl, Nat.le_of_ble_eq_true rfl⟩ rfl hl.1 rfl (Nat.le_of_ble_eq_true rfl) dX12_takes_28 ⟨Nat.le_refl 0, Nat.le_refl 0⟩) X17 (fun v63 t62 H lc q60 X61 => ?_)
      unfold po_X12_bad at q60
      obtain ⟨q64, q65, q66⟩ := q60
      have F67 : Fr [(131, 15), (131, 16), (131, 4), (131, 11), (131, 12), (131, 13), (131, 14), (131, 18)] [331] τ t62 := Fr_call Fr_rfl q65 (by decide)
      exact r_ret S hr hlk X61 ⟨q64, F67, (R_of q66 rfl), (fun h => by exfalso; omega), (by rw [((q65 131 4 (by decide)).trans z2)]; exact R_of r3 rfl), (by rw [((q65 131 11 (by decide)).trans z5)]; exact R_of r11 rfl), (by have h1_0 := congrArg Int32.toInt ((q65 131 4 (by decide)).trans z2); have h2_0 := congrArg Int32.toInt z2; omega), (by have h1_0 := congrArg Int32.toInt ((q65 131 11 (by decide)).trans z5); have h2_0 := congrArg Int32.toInt z5; omega)⟩ (nr_bool (R_of (lo := 0) (hi := 1) q66 rfl)) dX12_takes_31
  ·
    refine r_aload_n S dX12_takes_8 rfl (lv_at hl 0 rfl) ?_
    refine r_iconst S dX12_takes_9 (by decide) (fun v68 z69 => ?_)
    have r70 := R_eq z69
    refine r_ki (q_V (As := [.int v68]) (rest := []) (K := 38) (ci := 10) S X (c_X12_bad l G τ hI v68 (R_of (lo := -2147483648) (hi := 2147483647) r70 rfl)) ck12_183 (Nat.le_of_ble_eq_true rfl) rfl (fun _ => ⟨_, rfl⟩) ⟨_, _, rfl⟩ ⟨Nat.le_of_ble_eq_true rfl, Nat.le_of_ble_eq_true rfl⟩ rfl hl.1 rfl (Nat.le_of_ble_eq_true rfl) dX12_takes_10 ⟨Nat.le_refl 0, Nat.le_refl 0⟩) X (fun v74 t73 H lc q71 X72 => ?_)
    unfold po_X12_bad at q71
    obtain ⟨q75, q76, q77⟩ := q71
    have F78 : Fr [(131, 15), (131, 16), (131, 4), (131, 11), (131, 12), (131, 13), (131, 14), (131, 18)] [331] τ t73 := Fr_call Fr_rfl q76 (by decide)
    exact r_ret S hr hlk X72 ⟨q75, F78, (R_of q77 rfl), (fun h => by exfalso; omega), (by rw [((q76 131 4 (by decide)).trans z2)]; exact R_of r3 rfl), (by rw [((q76 131 11 (by decide)).trans z5)]; exact R_of r6 rfl), (by have h1_0 := congrArg Int32.toInt ((q76 131 4 (by decide)).trans z2); have h2_0 := congrArg Int32.toInt z2; omega), (by have h1_0 := congrArg Int32.toInt ((q76 131 11 (by decide)).trans z5); have h2_0 := congrArg Int32.toInt z5; omega)⟩ (nr_bool (R_of (lo := 0) (hi := 1) q77 rfl)) dX12_takes_13
def po_X12_takes_0_20 (τ : Tau)  (a0 a1 : Int32)   (r : Int32) (u : Tau) : Prop := Inv u ∧ Fr [(131, 15), (131, 16), (131, 4), (131, 11), (131, 12), (131, 13), (131, 14), (131, 18)] [331] τ u ∧ R (0) (1) r ∧ (r.toInt = 1 → R (0) (20) (u 131 18)) ∧ R (0) (940) (u 131 4) ∧ R (0) (4) (u 131 11) ∧ (τ 131 4).toInt ≤ (u 131 4).toInt ∧ (r.toInt = 1 → (τ 131 11).toInt = 2)
set_option maxHeartbeats 4000000 in
set_option maxRecDepth 100000 in
theorem c_X12_takes_0_20 (l : Launch) (G : Gx) (τ : Tau) (hI : Inv τ) (a0 : Int32) (a1 : Int32) (h_a0 : R (0) (0) a0) (h_a1 : R (20) (20) a1) : Ci l G yX12_takes cX12_takes 3 (some .boolean) 2 43 [.ref (G.2.2.2.1 131), .int a0, .int a1] τ (po_X12_takes_0_20 τ  a0 a1  ) := by
  unfold Ci
  refine C_of (own := RX12) (by decide) rfl (Nat.le_of_ble_eq_true rfl) ?_
  intro p e s m below meth c ls S hr hlk X hl
  have hl : lv_has ls 3 [(0, .ref (G.2.2.2.1 131)), (1, .int a0), (2, .int a1)] := hl
  obtain ⟨v1, z2⟩ : ∃ x, τ 131 4 = x := ⟨_, rfl⟩
  have r3 : R (0) (940) v1 := rd hI rfl z2
  obtain ⟨v4, z5⟩ : ∃ x, τ 131 11 = x := ⟨_, rfl⟩
  have r6 : R (0) (4) v4 := rd hI rfl z5
  refine r_aload_n S dX12_takes_0 rfl (lv_at hl 0 rfl) ?_
  refine r_geti (K := 38) S X (Nat.le_of_ble_eq_true rfl) rfl lk12_157_10 (fun _ => ⟨_, rfl, rfl⟩) z5 dX12_takes_1 ?_
  refine r_iconst S dX12_takes_4 (by decide) (fun v7 z8 => ?_)
  have r9 := R_eq z8
  refine r_icmp_eq (tgt := 14) S dX12_takes_5 (by decide) (fun c10 => ?_) (fun c10 => ?_)
  ·
    have r11 : R (2) (2) v4 := ⟨by omega, by omega⟩
    refine r_aload_n S dX12_takes_14 rfl (lv_at hl 0 rfl) ?_
    refine r_getn (K := 38) S X (Nat.le_of_ble_eq_true rfl) rfl lk12_167_10 (fun _ => ⟨_, rfl, rfl⟩) dX12_takes_15 (fun v12 z13 => ?_)
    have r15 := R_any v12
    refine r_iload_n S dX12_takes_18 rfl (lv_at hl 1 rfl) ?_
    refine r_iload_n S dX12_takes_19 rfl (lv_at hl 2 rfl) ?_
    refine r_ki (q_S (As := [.int v12, .int a0, .int a1]) (rest := []) S X (c_X12_isIn l G τ hI v12 a0 a1 r15 (R_of (lo := -2147483648) (hi := 2147483647) h_a0 rfl) (R_of (lo := -2147483648) (hi := 2147483647) h_a1 rfl)) ck12_189 ⟨Nat.le_of_ble_eq_true rfl, Nat.le_of_ble_eq_true rfl⟩ rfl hl.1 rfl (Nat.le_of_ble_eq_true rfl) dX12_takes_20 ⟨Nat.le_refl 0, Nat.le_refl 0⟩) X (fun v19 t18 H lc q16 X17 => ?_)
    unfold po_X12_isIn at q16
    obtain ⟨q20, q21, q22⟩ := q16
    rw [q20] at X17
    refine r_if_ne (tgt := 32) S dX12_takes_23 (by decide) (fun c23 => ?_) (fun c23 => ?_)
    ·
      have r24 : R (1) (1) v19 := ⟨by omega, by omega⟩
      obtain ⟨p25, p26⟩ := q22 (by omega)
      have r27 : R (0) (20) v12 := ⟨by omega, by omega⟩
      refine r_aload_n S dX12_takes_32 rfl (lv_at hl 0 rfl) ?_
      refine r_aload_n S dX12_takes_33 rfl (lv_at hl 0 rfl) ?_
      refine r_geti (K := 38) S X17 (Nat.le_of_ble_eq_true rfl) rfl lk12_167_10 (fun _ => ⟨_, rfl, rfl⟩) z13 dX12_takes_34 ?_
      refine r_put (K := 38) (ty := .int) S X17 (Nat.le_of_ble_eq_true rfl) rfl lk12_193_10 (fun _ => ⟨_, rfl, Nat.le_of_ble_eq_true rfl, rfl⟩) (fun _ _ _ h => by cases h; exact ⟨rfl, rfl⟩) rfl rfl dX12_takes_37 (fun t28 H lc M29 X30 => ?_)
      have I31 := Inv_mu hI M29 (R_any v12)
      have F32 : Fr [(131, 15), (131, 16), (131, 4), (131, 11), (131, 12), (131, 13), (131, 14), (131, 18)] [331] τ t28 := Fr_mu Fr_rfl M29 (by decide)
      refine r_aload_n S dX12_takes_40 rfl (lv_at hl 0 rfl) ?_
      refine r_kv (q_V (As := []) (rest := []) (K := 38) (ci := 10) S X30 (c_X12_skip l G t28 I31 ) ck12_186 (Nat.le_of_ble_eq_true rfl) rfl (fun _ => ⟨_, rfl⟩) ⟨_, _, rfl⟩ ⟨Nat.le_of_ble_eq_true rfl, Nat.le_of_ble_eq_true rfl⟩ rfl hl.1 rfl (Nat.le_of_ble_eq_true rfl) dX12_takes_41 ⟨Nat.le_refl 0, Nat.le_refl 0⟩) X30 (fun t35 H lc q33 X34 => ?_)
      unfold po_X12_skip at q33
      obtain ⟨q36, q37, q38, q39, q40, q41⟩ := q33
      have F42 : Fr [(131, 15), (131, 16), (131, 4), (131, 11), (131, 12), (131, 13), (131, 14), (131, 18)] [331] τ t35 := Fr_call F32 q37 (by decide)
      obtain ⟨v43, z44⟩ : ∃ x, t35 131 4 = x := ⟨_, rfl⟩
      rw [z44] at q38
      obtain ⟨v45, z46⟩ : ∃ x, t35 131 11 = x := ⟨_, rfl⟩
      rw [z46] at q39
      have e47 := congrArg Int32.toInt ((M29.2 131 4 (Or.inr (by decide))).trans z2)
      have e48 := congrArg Int32.toInt z44
      have e49 := congrArg Int32.toInt ((M29.2 131 4 (Or.inr (by decide))).trans z2)
      have e50 := congrArg Int32.toInt z44
      have e51 := congrArg Int32.toInt ((M29.2 131 11 (Or.inr (by decide))).trans z5)
      have e52 := congrArg Int32.toInt z46
      refine r_iconst S dX12_takes_44 (by decide) (fun v53 z54 => ?_)
      have r55 := R_eq z54
      exact r_ret S hr hlk X34 ⟨q36, F42, (R_of r55 rfl), (fun h => (by rw [((q37 131 18 (by decide)).trans M29.1)]; exact R_of r27 rfl)), (by rw [z44]; exact R_of q38 rfl), (by rw [z46]; exact R_of q39 rfl), (by have h1_0 := congrArg Int32.toInt z44; have h2_0 := congrArg Int32.toInt z2; omega), (by have h1_0 := congrArg Int32.toInt z46; have h2_0 := congrArg Int32.toInt z5; omega)⟩ (nr_bool (R_of (lo := 0) (hi := 1) r55 rfl)) dX12_takes_45
    ·
      have r56 : R (0) (0) v19 := ⟨by omega, by omega⟩
      refine r_aload_n S dX12_takes_26 rfl (lv_at hl 0 rfl) ?_
      refine r_iconst S dX12_takes_27 (by decide) (fun v57 z58 => ?_)
      have r59 := R_eq z58
      refine r_ki (q_V (As := [.int v57]) (rest := []) (K := 38) (ci := 10) S X17 (c_X12_bad l G τ hI v57 (R_of (lo := -2147483648) (hi := 2147483647) r59 rfl)) ck12_183 (Nat.le_of_ble_eq_true rfl) rfl (fun _ => ⟨_, rfl⟩) ⟨_, _, rfl⟩ ⟨Nat.le_of_ble_eq_true rfl, Nat.le_of_ble_eq_true rfl⟩ rfl hl.1 rfl (Nat.le_of_ble_eq_true rfl) dX12_takes_28 ⟨Nat.le_refl 0, Nat.le_refl 0⟩) X17 (fun v63 t62 H lc q60 X61 => ?_)
      unfold po_X12_bad at q60
      obtain ⟨q64, q65, q66⟩ := q60
      have F67 : Fr [(131, 15), (131, 16), (131, 4), (131, 11), (131, 12), (131, 13), (131, 14), (131, 18)] [331] τ t62 := Fr_call Fr_rfl q65 (by decide)
      exact r_ret S hr hlk X61 ⟨q64, F67, (R_of q66 rfl), (fun h => by exfalso; omega), (by rw [((q65 131 4 (by decide)).trans z2)]; exact R_of r3 rfl), (by rw [((q65 131 11 (by decide)).trans z5)]; exact R_of r11 rfl), (by have h1_0 := congrArg Int32.toInt ((q65 131 4 (by decide)).trans z2); have h2_0 := congrArg Int32.toInt z2; omega), (by have h1_0 := congrArg Int32.toInt ((q65 131 11 (by decide)).trans z5); have h2_0 := congrArg Int32.toInt z5; omega)⟩ (nr_bool (R_of (lo := 0) (hi := 1) q66 rfl)) dX12_takes_31
  ·
    refine r_aload_n S dX12_takes_8 rfl (lv_at hl 0 rfl) ?_
    refine r_iconst S dX12_takes_9 (by decide) (fun v68 z69 => ?_)
    have r70 := R_eq z69
    refine r_ki (q_V (As := [.int v68]) (rest := []) (K := 38) (ci := 10) S X (c_X12_bad l G τ hI v68 (R_of (lo := -2147483648) (hi := 2147483647) r70 rfl)) ck12_183 (Nat.le_of_ble_eq_true rfl) rfl (fun _ => ⟨_, rfl⟩) ⟨_, _, rfl⟩ ⟨Nat.le_of_ble_eq_true rfl, Nat.le_of_ble_eq_true rfl⟩ rfl hl.1 rfl (Nat.le_of_ble_eq_true rfl) dX12_takes_10 ⟨Nat.le_refl 0, Nat.le_refl 0⟩) X (fun v74 t73 H lc q71 X72 => ?_)
    unfold po_X12_bad at q71
    obtain ⟨q75, q76, q77⟩ := q71
    have F78 : Fr [(131, 15), (131, 16), (131, 4), (131, 11), (131, 12), (131, 13), (131, 14), (131, 18)] [331] τ t73 := Fr_call Fr_rfl q76 (by decide)
    exact r_ret S hr hlk X72 ⟨q75, F78, (R_of q77 rfl), (fun h => by exfalso; omega), (by rw [((q76 131 4 (by decide)).trans z2)]; exact R_of r3 rfl), (by rw [((q76 131 11 (by decide)).trans z5)]; exact R_of r6 rfl), (by have h1_0 := congrArg Int32.toInt ((q76 131 4 (by decide)).trans z2); have h2_0 := congrArg Int32.toInt z2; omega), (by have h1_0 := congrArg Int32.toInt ((q76 131 11 (by decide)).trans z5); have h2_0 := congrArg Int32.toInt z5; omega)⟩ (nr_bool (R_of (lo := 0) (hi := 1) q77 rfl)) dX12_takes_13
def po_X12_takes_1_9 (τ : Tau)  (a0 a1 : Int32)   (r : Int32) (u : Tau) : Prop := Inv u ∧ Fr [(131, 15), (131, 16), (131, 4), (131, 11), (131, 12), (131, 13), (131, 14), (131, 18)] [331] τ u ∧ R (0) (1) r ∧ (r.toInt = 1 → R (1) (9) (u 131 18)) ∧ R (0) (940) (u 131 4) ∧ R (0) (4) (u 131 11) ∧ (τ 131 4).toInt ≤ (u 131 4).toInt ∧ (r.toInt = 1 → (τ 131 11).toInt = 2)
set_option maxHeartbeats 4000000 in
set_option maxRecDepth 100000 in
theorem c_X12_takes_1_9 (l : Launch) (G : Gx) (τ : Tau) (hI : Inv τ) (a0 : Int32) (a1 : Int32) (h_a0 : R (1) (1) a0) (h_a1 : R (9) (9) a1) : Ci l G yX12_takes cX12_takes 3 (some .boolean) 2 43 [.ref (G.2.2.2.1 131), .int a0, .int a1] τ (po_X12_takes_1_9 τ  a0 a1  ) := by
  unfold Ci
  refine C_of (own := RX12) (by decide) rfl (Nat.le_of_ble_eq_true rfl) ?_
  intro p e s m below meth c ls S hr hlk X hl
  have hl : lv_has ls 3 [(0, .ref (G.2.2.2.1 131)), (1, .int a0), (2, .int a1)] := hl
  obtain ⟨v1, z2⟩ : ∃ x, τ 131 4 = x := ⟨_, rfl⟩
  have r3 : R (0) (940) v1 := rd hI rfl z2
  obtain ⟨v4, z5⟩ : ∃ x, τ 131 11 = x := ⟨_, rfl⟩
  have r6 : R (0) (4) v4 := rd hI rfl z5
  refine r_aload_n S dX12_takes_0 rfl (lv_at hl 0 rfl) ?_
  refine r_geti (K := 38) S X (Nat.le_of_ble_eq_true rfl) rfl lk12_157_10 (fun _ => ⟨_, rfl, rfl⟩) z5 dX12_takes_1 ?_
  refine r_iconst S dX12_takes_4 (by decide) (fun v7 z8 => ?_)
  have r9 := R_eq z8
  refine r_icmp_eq (tgt := 14) S dX12_takes_5 (by decide) (fun c10 => ?_) (fun c10 => ?_)
  ·
    have r11 : R (2) (2) v4 := ⟨by omega, by omega⟩
    refine r_aload_n S dX12_takes_14 rfl (lv_at hl 0 rfl) ?_
    refine r_getn (K := 38) S X (Nat.le_of_ble_eq_true rfl) rfl lk12_167_10 (fun _ => ⟨_, rfl, rfl⟩) dX12_takes_15 (fun v12 z13 => ?_)
    have r15 := R_any v12
    refine r_iload_n S dX12_takes_18 rfl (lv_at hl 1 rfl) ?_
    refine r_iload_n S dX12_takes_19 rfl (lv_at hl 2 rfl) ?_
    refine r_ki (q_S (As := [.int v12, .int a0, .int a1]) (rest := []) S X (c_X12_isIn l G τ hI v12 a0 a1 r15 (R_of (lo := -2147483648) (hi := 2147483647) h_a0 rfl) (R_of (lo := -2147483648) (hi := 2147483647) h_a1 rfl)) ck12_189 ⟨Nat.le_of_ble_eq_true rfl, Nat.le_of_ble_eq_true rfl⟩ rfl hl.1 rfl (Nat.le_of_ble_eq_true rfl) dX12_takes_20 ⟨Nat.le_refl 0, Nat.le_refl 0⟩) X (fun v19 t18 H lc q16 X17 => ?_)
    unfold po_X12_isIn at q16
    obtain ⟨q20, q21, q22⟩ := q16
    rw [q20] at X17
    refine r_if_ne (tgt := 32) S dX12_takes_23 (by decide) (fun c23 => ?_) (fun c23 => ?_)
    ·
      have r24 : R (1) (1) v19 := ⟨by omega, by omega⟩
      obtain ⟨p25, p26⟩ := q22 (by omega)
      have r27 : R (1) (9) v12 := ⟨by omega, by omega⟩
      refine r_aload_n S dX12_takes_32 rfl (lv_at hl 0 rfl) ?_
      refine r_aload_n S dX12_takes_33 rfl (lv_at hl 0 rfl) ?_
      refine r_geti (K := 38) S X17 (Nat.le_of_ble_eq_true rfl) rfl lk12_167_10 (fun _ => ⟨_, rfl, rfl⟩) z13 dX12_takes_34 ?_
      refine r_put (K := 38) (ty := .int) S X17 (Nat.le_of_ble_eq_true rfl) rfl lk12_193_10 (fun _ => ⟨_, rfl, Nat.le_of_ble_eq_true rfl, rfl⟩) (fun _ _ _ h => by cases h; exact ⟨rfl, rfl⟩) rfl rfl dX12_takes_37 (fun t28 H lc M29 X30 => ?_)
      have I31 := Inv_mu hI M29 (R_any v12)
      have F32 : Fr [(131, 15), (131, 16), (131, 4), (131, 11), (131, 12), (131, 13), (131, 14), (131, 18)] [331] τ t28 := Fr_mu Fr_rfl M29 (by decide)
      refine r_aload_n S dX12_takes_40 rfl (lv_at hl 0 rfl) ?_
      refine r_kv (q_V (As := []) (rest := []) (K := 38) (ci := 10) S X30 (c_X12_skip l G t28 I31 ) ck12_186 (Nat.le_of_ble_eq_true rfl) rfl (fun _ => ⟨_, rfl⟩) ⟨_, _, rfl⟩ ⟨Nat.le_of_ble_eq_true rfl, Nat.le_of_ble_eq_true rfl⟩ rfl hl.1 rfl (Nat.le_of_ble_eq_true rfl) dX12_takes_41 ⟨Nat.le_refl 0, Nat.le_refl 0⟩) X30 (fun t35 H lc q33 X34 => ?_)
      unfold po_X12_skip at q33
      obtain ⟨q36, q37, q38, q39, q40, q41⟩ := q33
      have F42 : Fr [(131, 15), (131, 16), (131, 4), (131, 11), (131, 12), (131, 13), (131, 14), (131, 18)] [331] τ t35 := Fr_call F32 q37 (by decide)
      obtain ⟨v43, z44⟩ : ∃ x, t35 131 4 = x := ⟨_, rfl⟩
      rw [z44] at q38
      obtain ⟨v45, z46⟩ : ∃ x, t35 131 11 = x := ⟨_, rfl⟩
      rw [z46] at q39
      have e47 := congrArg Int32.toInt ((M29.2 131 4 (Or.inr (by decide))).trans z2)
      have e48 := congrArg Int32.toInt z44
      have e49 := congrArg Int32.toInt ((M29.2 131 4 (Or.inr (by decide))).trans z2)
      have e50 := congrArg Int32.toInt z44
      have e51 := congrArg Int32.toInt ((M29.2 131 11 (Or.inr (by decide))).trans z5)
      have e52 := congrArg Int32.toInt z46
      refine r_iconst S dX12_takes_44 (by decide) (fun v53 z54 => ?_)
      have r55 := R_eq z54
      exact r_ret S hr hlk X34 ⟨q36, F42, (R_of r55 rfl), (fun h => (by rw [((q37 131 18 (by decide)).trans M29.1)]; exact R_of r27 rfl)), (by rw [z44]; exact R_of q38 rfl), (by rw [z46]; exact R_of q39 rfl), (by have h1_0 := congrArg Int32.toInt z44; have h2_0 := congrArg Int32.toInt z2; omega), (by have h1_0 := congrArg Int32.toInt z46; have h2_0 := congrArg Int32.toInt z5; omega)⟩ (nr_bool (R_of (lo := 0) (hi := 1) r55 rfl)) dX12_takes_45
    ·
      have r56 : R (0) (0) v19 := ⟨by omega, by omega⟩
      refine r_aload_n S dX12_takes_26 rfl (lv_at hl 0 rfl) ?_
      refine r_iconst S dX12_takes_27 (by decide) (fun v57 z58 => ?_)
      have r59 := R_eq z58
      refine r_ki (q_V (As := [.int v57]) (rest := []) (K := 38) (ci := 10) S X17 (c_X12_bad l G τ hI v57 (R_of (lo := -2147483648) (hi := 2147483647) r59 rfl)) ck12_183 (Nat.le_of_ble_eq_true rfl) rfl (fun _ => ⟨_, rfl⟩) ⟨_, _, rfl⟩ ⟨Nat.le_of_ble_eq_true rfl, Nat.le_of_ble_eq_true rfl⟩ rfl hl.1 rfl (Nat.le_of_ble_eq_true rfl) dX12_takes_28 ⟨Nat.le_refl 0, Nat.le_refl 0⟩) X17 (fun v63 t62 H lc q60 X61 => ?_)
      unfold po_X12_bad at q60
      obtain ⟨q64, q65, q66⟩ := q60
      have F67 : Fr [(131, 15), (131, 16), (131, 4), (131, 11), (131, 12), (131, 13), (131, 14), (131, 18)] [331] τ t62 := Fr_call Fr_rfl q65 (by decide)
      exact r_ret S hr hlk X61 ⟨q64, F67, (R_of q66 rfl), (fun h => by exfalso; omega), (by rw [((q65 131 4 (by decide)).trans z2)]; exact R_of r3 rfl), (by rw [((q65 131 11 (by decide)).trans z5)]; exact R_of r11 rfl), (by have h1_0 := congrArg Int32.toInt ((q65 131 4 (by decide)).trans z2); have h2_0 := congrArg Int32.toInt z2; omega), (by have h1_0 := congrArg Int32.toInt ((q65 131 11 (by decide)).trans z5); have h2_0 := congrArg Int32.toInt z5; omega)⟩ (nr_bool (R_of (lo := 0) (hi := 1) q66 rfl)) dX12_takes_31
  ·
    refine r_aload_n S dX12_takes_8 rfl (lv_at hl 0 rfl) ?_
    refine r_iconst S dX12_takes_9 (by decide) (fun v68 z69 => ?_)
    have r70 := R_eq z69
    refine r_ki (q_V (As := [.int v68]) (rest := []) (K := 38) (ci := 10) S X (c_X12_bad l G τ hI v68 (R_of (lo := -2147483648) (hi := 2147483647) r70 rfl)) ck12_183 (Nat.le_of_ble_eq_true rfl) rfl (fun _ => ⟨_, rfl⟩) ⟨_, _, rfl⟩ ⟨Nat.le_of_ble_eq_true rfl, Nat.le_of_ble_eq_true rfl⟩ rfl hl.1 rfl (Nat.le_of_ble_eq_true rfl) dX12_takes_10 ⟨Nat.le_refl 0, Nat.le_refl 0⟩) X (fun v74 t73 H lc q71 X72 => ?_)
    unfold po_X12_bad at q71
    obtain ⟨q75, q76, q77⟩ := q71
    have F78 : Fr [(131, 15), (131, 16), (131, 4), (131, 11), (131, 12), (131, 13), (131, 14), (131, 18)] [331] τ t73 := Fr_call Fr_rfl q76 (by decide)
    exact r_ret S hr hlk X72 ⟨q75, F78, (R_of q77 rfl), (fun h => by exfalso; omega), (by rw [((q76 131 4 (by decide)).trans z2)]; exact R_of r3 rfl), (by rw [((q76 131 11 (by decide)).trans z5)]; exact R_of r6 rfl), (by have h1_0 := congrArg Int32.toInt ((q76 131 4 (by decide)).trans z2); have h2_0 := congrArg Int32.toInt z2; omega), (by have h1_0 := congrArg Int32.toInt ((q76 131 11 (by decide)).trans z5); have h2_0 := congrArg Int32.toInt z5; omega)⟩ (nr_bool (R_of (lo := 0) (hi := 1) q77 rfl)) dX12_takes_13
def po_X12_find_a (τ : Tau)  (a0 a1 : Int32)   (r : Int32) (u : Tau) : Prop := u = τ ∧ R (-1) (8) r
set_option maxHeartbeats 4000000 in
set_option maxRecDepth 100000 in
theorem c_X12_find_a (l : Launch) (G : Gx) (τ : Tau) (hI : Inv τ) (a0 : Int32) (a1 : Int32) (h_a0 : R (0) (19) a0) (h_a1 : R (0) (9) a1) : Ci l G yX12_find cX12_find 4 (some .int) 0 0 [.ref (G.2.2.2.1 131), .int a0, .int a1] τ (po_X12_find_a τ  a0 a1  ) := by
  unfold Ci
  refine C_of (own := RX12) (by decide) rfl (Nat.le_of_ble_eq_true rfl) ?_
  intro p e s m below meth c ls S hr hlk X hl
  have hl : lv_has ls 4 [(0, .ref (G.2.2.2.1 131)), (1, .int a0), (2, .int a1)] := hl
  refine r_iconst S dX12_find_0 (by decide) (fun v1 z2 => ?_)
  have r3 := R_eq z2
  refine r_istore_n (lv' := [(3, .int v1), (0, .ref (G.2.2.2.1 131)), (1, .int a0), (2, .int a1)]) S dX12_find_1 rfl hl (by decide) rfl (fun ls hl => ?_)
  have L157 : ∀ (n : Nat) (H : Heap) (lc : List Loc) (ls : Array Slot) (i154 : Int32), Xd G s H lc τ → R (0) (9) i154 → lv_has ls 4 [(0, .ref (G.2.2.2.1 131)), (1, .int a0), (2, .int a1), (3, .int i154)] → (9 - i154.toInt).toNat < n → W p l e (Rm 0 0) s m ([.ref (G.2.2.2.1 131), .int a0, .int a1] : List Value).toArray below meth c H lc 0 0 (MQ below (va_Qi (po_X12_find_a τ  a0 a1  ) (Bs G) G.2.2.2.2) ([.ref (G.2.2.2.1 131), .int a0, .int a1] : List Value).toArray s 0 0 G.2.2.2.2) (F0 m 2 ls []) := by
    intro n
    induction n with
    | zero => intros; omega
    | succ n ih158 =>
      intro H lc ls i154 X156 r155 hl hm
      refine r_iload_n S dX12_find_2 rfl (lv_at hl 3 rfl) ?_
      refine r_iload_n S dX12_find_3 rfl (lv_at hl 2 rfl) ?_
      refine r_icmp_ge (tgt := 31) S dX12_find_4 (by decide) (fun c159 => ?_) (fun c159 => ?_)
      ·
        refine r_iconst S dX12_find_31 (by decide) (fun v160 z161 => ?_)
        have r162 := R_eq z161
        exact r_ret S hr hlk X156 ⟨rfl, (R_of r162 rfl)⟩ rfl dX12_find_32
      ·
        have r163 : R (0) (8) i154 := ⟨by omega, by omega⟩
        have r164 : R (1) (9) a1 := ⟨by omega, by omega⟩
        refine r_aload_n S dX12_find_7 rfl (lv_at hl 0 rfl) ?_
        refine r_get (K := 38) (v := .ref (G.2.2.2.1 136)) S X156 (Nat.le_of_ble_eq_true rfl) rfl lk12_43_10 (fun _ => ⟨_, rfl, rfl⟩) dX12_find_8 ?_
        refine r_iload_n S dX12_find_11 rfl (lv_at hl 1 rfl) ?_
        refine r_iload_n S dX12_find_12 rfl (lv_at hl 3 rfl) ?_
        refine r_iadd S dX12_find_13 (fun v165 z166 => ?_)
        obtain ⟨e167, r168⟩ := i_add (lo := 0) (hi := 27) z166 h_a0 r163 rfl
        refine r_lald (n := 38) (K := 43) S X156 (Nat.le_of_ble_eq_true rfl) rfl (fun _ => rfl) (ix_of r168 rfl) dX12_find_14 (fun j169 z170 => ?_)
        refine r_aload_n S dX12_find_15 rfl (lv_at hl 0 rfl) ?_
        refine r_getJ (K := 38) S X156 (Nat.le_of_ble_eq_true rfl) rfl lk12_170_10 (fun _ => ⟨_, rfl, rfl⟩) dX12_find_16 (fun j171 z172 => ?_)
        refine r_lcmp S dX12_find_19 (fun v173 r174 e175 => ?_)
        refine r_if_ne (tgt := 25) S dX12_find_20 (by decide) (fun c176 => ?_) (fun c176 => ?_)
        ·
          refine r_iinc (k := 3) S dX12_find_25 hl rfl (by decide) (by decide) (fun v177 d178 ls z179 z180 hl => ?_)
          obtain ⟨e181, r182⟩ := i_add (lo := 1) (hi := 9) z179 r163 (R_eq z180) rfl
          have hl : lv_has ls 4 [(3, .int v177), (0, .ref (G.2.2.2.1 131)), (1, .int a0), (2, .int a1)] := hl
          refine r_goto (tgt := 2) S dX12_find_28 (by decide) ?_
          exact ih158 _ _ _ v177 X156 (R_of r182 rfl) (lv_sub hl [1, 2, 3, 0] rfl) (by omega)
        ·
          have r183 : R (0) (0) v173 := ⟨by omega, by omega⟩
          refine r_iload_n S dX12_find_23 rfl (lv_at hl 3 rfl) ?_
          exact r_ret S hr hlk X156 ⟨rfl, (R_of r163 rfl)⟩ rfl dX12_find_24
  exact L157 _ _ _ _ v1 X (R_of r3 rfl) (lv_sub hl [1, 2, 3, 0] rfl) (Nat.lt_succ_self _)
def po_X12_find_m (τ : Tau)  (a0 a1 : Int32)   (r : Int32) (u : Tau) : Prop := u = τ ∧ R (-1) (9) r
set_option maxHeartbeats 4000000 in
set_option maxRecDepth 100000 in
theorem c_X12_find_m (l : Launch) (G : Gx) (τ : Tau) (hI : Inv τ) (a0 : Int32) (a1 : Int32) (h_a0 : R (9) (28) a0) (h_a1 : R (0) (10) a1) : Ci l G yX12_find cX12_find 4 (some .int) 0 0 [.ref (G.2.2.2.1 131), .int a0, .int a1] τ (po_X12_find_m τ  a0 a1  ) := by
  unfold Ci
  refine C_of (own := RX12) (by decide) rfl (Nat.le_of_ble_eq_true rfl) ?_
  intro p e s m below meth c ls S hr hlk X hl
  have hl : lv_has ls 4 [(0, .ref (G.2.2.2.1 131)), (1, .int a0), (2, .int a1)] := hl
  refine r_iconst S dX12_find_0 (by decide) (fun v1 z2 => ?_)
  have r3 := R_eq z2
  refine r_istore_n (lv' := [(3, .int v1), (0, .ref (G.2.2.2.1 131)), (1, .int a0), (2, .int a1)]) S dX12_find_1 rfl hl (by decide) rfl (fun ls hl => ?_)
  have L182 : ∀ (n : Nat) (H : Heap) (lc : List Loc) (ls : Array Slot) (i179 : Int32), Xd G s H lc τ → R (0) (10) i179 → lv_has ls 4 [(0, .ref (G.2.2.2.1 131)), (1, .int a0), (2, .int a1), (3, .int i179)] → (10 - i179.toInt).toNat < n → W p l e (Rm 0 0) s m ([.ref (G.2.2.2.1 131), .int a0, .int a1] : List Value).toArray below meth c H lc 0 0 (MQ below (va_Qi (po_X12_find_m τ  a0 a1  ) (Bs G) G.2.2.2.2) ([.ref (G.2.2.2.1 131), .int a0, .int a1] : List Value).toArray s 0 0 G.2.2.2.2) (F0 m 2 ls []) := by
    intro n
    induction n with
    | zero => intros; omega
    | succ n ih183 =>
      intro H lc ls i179 X181 r180 hl hm
      refine r_iload_n S dX12_find_2 rfl (lv_at hl 3 rfl) ?_
      refine r_iload_n S dX12_find_3 rfl (lv_at hl 2 rfl) ?_
      refine r_icmp_ge (tgt := 31) S dX12_find_4 (by decide) (fun c184 => ?_) (fun c184 => ?_)
      ·
        refine r_iconst S dX12_find_31 (by decide) (fun v185 z186 => ?_)
        have r187 := R_eq z186
        exact r_ret S hr hlk X181 ⟨rfl, (R_of r187 rfl)⟩ rfl dX12_find_32
      ·
        have r188 : R (0) (9) i179 := ⟨by omega, by omega⟩
        have r189 : R (1) (10) a1 := ⟨by omega, by omega⟩
        refine r_aload_n S dX12_find_7 rfl (lv_at hl 0 rfl) ?_
        refine r_get (K := 38) (v := .ref (G.2.2.2.1 136)) S X181 (Nat.le_of_ble_eq_true rfl) rfl lk12_43_10 (fun _ => ⟨_, rfl, rfl⟩) dX12_find_8 ?_
        refine r_iload_n S dX12_find_11 rfl (lv_at hl 1 rfl) ?_
        refine r_iload_n S dX12_find_12 rfl (lv_at hl 3 rfl) ?_
        refine r_iadd S dX12_find_13 (fun v190 z191 => ?_)
        obtain ⟨e192, r193⟩ := i_add (lo := 9) (hi := 37) z191 h_a0 r188 rfl
        refine r_lald (n := 38) (K := 43) S X181 (Nat.le_of_ble_eq_true rfl) rfl (fun _ => rfl) (ix_of r193 rfl) dX12_find_14 (fun j194 z195 => ?_)
        refine r_aload_n S dX12_find_15 rfl (lv_at hl 0 rfl) ?_
        refine r_getJ (K := 38) S X181 (Nat.le_of_ble_eq_true rfl) rfl lk12_170_10 (fun _ => ⟨_, rfl, rfl⟩) dX12_find_16 (fun j196 z197 => ?_)
        refine r_lcmp S dX12_find_19 (fun v198 r199 e200 => ?_)
        refine r_if_ne (tgt := 25) S dX12_find_20 (by decide) (fun c201 => ?_) (fun c201 => ?_)
        ·
          refine r_iinc (k := 3) S dX12_find_25 hl rfl (by decide) (by decide) (fun v202 d203 ls z204 z205 hl => ?_)
          obtain ⟨e206, r207⟩ := i_add (lo := 1) (hi := 10) z204 r188 (R_eq z205) rfl
          have hl : lv_has ls 4 [(3, .int v202), (0, .ref (G.2.2.2.1 131)), (1, .int a0), (2, .int a1)] := hl
          refine r_goto (tgt := 2) S dX12_find_28 (by decide) ?_
          exact ih183 _ _ _ v202 X181 (R_of r207 rfl) (lv_sub hl [1, 2, 3, 0] rfl) (by omega)
        ·
          have r208 : R (0) (0) v198 := ⟨by omega, by omega⟩
          refine r_iload_n S dX12_find_23 rfl (lv_at hl 3 rfl) ?_
          exact r_ret S hr hlk X181 ⟨rfl, (R_of r188 rfl)⟩ rfl dX12_find_24
  exact L182 _ _ _ _ v1 X (R_of r3 rfl) (lv_sub hl [1, 2, 3, 0] rfl) (Nat.lt_succ_self _)
def po_X12_fresh (τ : Tau)  (a0 : Int32)   (r : Int32) (u : Tau) : Prop := Inv u ∧ Fr [(131, 15), (131, 16), (131, 4), (131, 11), (131, 12), (131, 13), (131, 14)] [336, 331] τ u ∧ R (0) (1) r ∧ R (0) (940) (u 131 4) ∧ R (0) (4) (u 131 11) ∧ (τ 131 4).toInt ≤ (u 131 4).toInt ∧ (r.toInt = 1 → (τ 131 11).toInt = 1)
set_option maxHeartbeats 4000000 in
set_option maxRecDepth 100000 in
theorem c_X12_fresh (l : Launch) (G : Gx) (τ : Tau) (hI : Inv τ) (a0 : Int32) (h_a0 : R (19) (37) a0) : Ci l G yX12_fresh cX12_fresh 2 (some .boolean) 2 43 [.ref (G.2.2.2.1 131), .int a0] τ (po_X12_fresh τ  a0  ) := by
  unfold Ci
  refine C_of (own := RX12) (by decide) rfl (Nat.le_of_ble_eq_true rfl) ?_
  intro p e s m below meth c ls S hr hlk X hl
  have hl : lv_has ls 2 [(0, .ref (G.2.2.2.1 131)), (1, .int a0)] := hl
  obtain ⟨v1, z2⟩ : ∃ x, τ 131 4 = x := ⟨_, rfl⟩
  have r3 : R (0) (940) v1 := rd hI rfl z2
  obtain ⟨v4, z5⟩ : ∃ x, τ 131 11 = x := ⟨_, rfl⟩
  have r6 : R (0) (4) v4 := rd hI rfl z5
  refine r_aload_n S dX12_fresh_0 rfl (lv_at hl 0 rfl) ?_
  refine r_ki (q_V (As := []) (rest := []) (K := 38) (ci := 10) S X (c_X12_isName l G τ hI ) ck12_196 (Nat.le_of_ble_eq_true rfl) rfl (fun _ => ⟨_, rfl⟩) ⟨_, _, rfl⟩ ⟨Nat.le_of_ble_eq_true rfl, Nat.le_of_ble_eq_true rfl⟩ rfl hl.1 rfl (Nat.le_of_ble_eq_true rfl) dX12_fresh_1 ⟨Nat.le_refl 0, Nat.le_refl 0⟩) X (fun v10 t9 H lc q7 X8 => ?_)
  unfold po_X12_isName at q7
  obtain ⟨q11, q12, q13⟩ := q7
  rw [q11] at X8
  rw [q11] at q13
  refine r_if_ne (tgt := 13) S dX12_fresh_4 (by decide) (fun c14 => ?_) (fun c14 => ?_)
  ·
    have r15 : R (1) (1) v10 := ⟨by omega, by omega⟩
    have p16 := q13 (by omega)
    have r17 : R (1) (1) v4 := z5 ▸ p16
    have r18 : R (1) (1) v4 := ⟨by omega, by omega⟩
    refine r_aload_n S dX12_fresh_13 rfl (lv_at hl 0 rfl) ?_
    refine r_bipush S dX12_fresh_14 (by decide) (fun v19 z20 => ?_)
    have r21 := R_eq z20
    refine r_aload_n S dX12_fresh_16 rfl (lv_at hl 0 rfl) ?_
    refine r_get (K := 38) (v := .ref (G.2.2.2.1 134)) S X8 (Nat.le_of_ble_eq_true rfl) rfl lk12_37_10 (fun _ => ⟨_, rfl, rfl⟩) dX12_fresh_17 ?_
    refine r_iconst S dX12_fresh_20 (by decide) (fun v22 z23 => ?_)
    have r24 := R_eq z23
    refine r_aldn (n := 125) (K := 41) S X8 (Nat.le_of_ble_eq_true rfl) rfl (fun _ => rfl) (ix_of r24 rfl) dX12_fresh_21 (fun v25 z26 => ?_)
    have r27 : R (0) (9) v25 := rds (K := 41) (a := 0) (n := 1) hI rfl z26 (R_of r24 rfl) (by decide +kernel)
    refine r_ki (q_V (As := [.int v19, .int v25]) (rest := []) (K := 38) (ci := 10) S X8 (c_X12_find_a l G τ hI v19 v25 (R_of (lo := 0) (hi := 19) r21 rfl) r27) ck12_200 (Nat.le_of_ble_eq_true rfl) rfl (fun _ => ⟨_, rfl⟩) ⟨_, _, rfl⟩ ⟨Nat.le_of_ble_eq_true rfl, Nat.le_of_ble_eq_true rfl⟩ rfl hl.1 rfl (Nat.le_of_ble_eq_true rfl) dX12_fresh_22 ⟨Nat.le_refl 0, Nat.le_refl 0⟩) X8 (fun v31 t30 H lc q28 X29 => ?_)
    unfold po_X12_find_a at q28
    obtain ⟨q32, q33⟩ := q28
    rw [q32] at X29
    refine r_if_ge (tgt := 43) S dX12_fresh_25 (by decide) (fun c34 => ?_) (fun c34 => ?_)
    ·
      have r35 : R (0) (8) v31 := ⟨by omega, by omega⟩
      refine r_aload_n S dX12_fresh_43 rfl (lv_at hl 0 rfl) ?_
      refine r_iconst S dX12_fresh_44 (by decide) (fun v36 z37 => ?_)
      have r38 := R_eq z37
      refine r_ki (q_V (As := [.int v36]) (rest := []) (K := 38) (ci := 10) S X29 (c_X12_bad l G τ hI v36 (R_of (lo := -2147483648) (hi := 2147483647) r38 rfl)) ck12_183 (Nat.le_of_ble_eq_true rfl) rfl (fun _ => ⟨_, rfl⟩) ⟨_, _, rfl⟩ ⟨Nat.le_of_ble_eq_true rfl, Nat.le_of_ble_eq_true rfl⟩ rfl hl.1 rfl (Nat.le_of_ble_eq_true rfl) dX12_fresh_45 ⟨Nat.le_refl 0, Nat.le_refl 0⟩) X29 (fun v42 t41 H lc q39 X40 => ?_)
      unfold po_X12_bad at q39
      obtain ⟨q43, q44, q45⟩ := q39
      have F46 : Fr [(131, 15), (131, 16), (131, 4), (131, 11), (131, 12), (131, 13), (131, 14)] [336, 331] τ t41 := Fr_call Fr_rfl q44 (by decide)
      exact r_ret S hr hlk X40 ⟨q43, F46, (R_of q45 rfl), (by rw [((q44 131 4 (by decide)).trans z2)]; exact R_of r3 rfl), (by rw [((q44 131 11 (by decide)).trans z5)]; exact R_of r18 rfl), (by have h1_0 := congrArg Int32.toInt ((q44 131 4 (by decide)).trans z2); have h2_0 := congrArg Int32.toInt z2; omega), (by have h1_0 := congrArg Int32.toInt ((q44 131 11 (by decide)).trans z5); have h2_0 := congrArg Int32.toInt z5; omega)⟩ (nr_bool (R_of (lo := 0) (hi := 1) q45 rfl)) dX12_fresh_48
    ·
      have r47 : R (-1) (-1) v31 := ⟨by omega, by omega⟩
      refine r_aload_n S dX12_fresh_28 rfl (lv_at hl 0 rfl) ?_
      refine r_bipush S dX12_fresh_29 (by decide) (fun v48 z49 => ?_)
      have r50 := R_eq z49
      refine r_aload_n S dX12_fresh_31 rfl (lv_at hl 0 rfl) ?_
      refine r_get (K := 38) (v := .ref (G.2.2.2.1 134)) S X29 (Nat.le_of_ble_eq_true rfl) rfl lk12_37_10 (fun _ => ⟨_, rfl, rfl⟩) dX12_fresh_32 ?_
      refine r_iconst S dX12_fresh_35 (by decide) (fun v51 z52 => ?_)
      have r53 := R_eq z52
      refine r_aldn (n := 125) (K := 41) S X29 (Nat.le_of_ble_eq_true rfl) rfl (fun _ => rfl) (ix_of r53 rfl) dX12_fresh_36 (fun v54 z55 => ?_)
      have r56 : R (0) (10) v54 := rds (K := 41) (a := 1) (n := 1) hI rfl z55 (R_of r53 rfl) (by decide +kernel)
      refine r_ki (q_V (As := [.int v48, .int v54]) (rest := []) (K := 38) (ci := 10) S X29 (c_X12_find_m l G τ hI v48 v54 (R_of (lo := 9) (hi := 28) r50 rfl) r56) ck12_200 (Nat.le_of_ble_eq_true rfl) rfl (fun _ => ⟨_, rfl⟩) ⟨_, _, rfl⟩ ⟨Nat.le_of_ble_eq_true rfl, Nat.le_of_ble_eq_true rfl⟩ rfl hl.1 rfl (Nat.le_of_ble_eq_true rfl) dX12_fresh_37 ⟨Nat.le_refl 0, Nat.le_refl 0⟩) X29 (fun v60 t59 H lc q57 X58 => ?_)
      unfold po_X12_find_m at q57
      obtain ⟨q61, q62⟩ := q57
      rw [q61] at X58
      refine r_if_lt (tgt := 49) S dX12_fresh_40 (by decide) (fun c63 => ?_) (fun c63 => ?_)
      ·
        have r64 : R (-1) (-1) v60 := ⟨by omega, by omega⟩
        refine r_aload_n S dX12_fresh_49 rfl (lv_at hl 0 rfl) ?_
        refine r_get (K := 38) (v := .ref (G.2.2.2.1 136)) S X58 (Nat.le_of_ble_eq_true rfl) rfl lk12_43_10 (fun _ => ⟨_, rfl, rfl⟩) dX12_fresh_50 ?_
        refine r_iload_n S dX12_fresh_53 rfl (lv_at hl 1 rfl) ?_
        refine r_aload_n S dX12_fresh_54 rfl (lv_at hl 0 rfl) ?_
        refine r_getJ (K := 38) S X58 (Nat.le_of_ble_eq_true rfl) rfl lk12_170_10 (fun _ => ⟨_, rfl, rfl⟩) dX12_fresh_55 (fun j65 z66 => ?_)
        refine r_last (n := 38) (K := 43) S X58 (Nat.le_of_ble_eq_true rfl) rfl (fun _ => rfl) (ix_of h_a0 rfl) dX12_fresh_58 (fun t68 H lc M69 X67 => ?_)
        have I70 := Inv_ml hI M69
        have F71 : Fr [(131, 15), (131, 16), (131, 4), (131, 11), (131, 12), (131, 13), (131, 14)] [336, 331] τ t68 := Fr_ml Fr_rfl M69 (by decide)
        refine r_aload_n S dX12_fresh_59 rfl (lv_at hl 0 rfl) ?_
        refine r_kv (q_V (As := []) (rest := []) (K := 38) (ci := 10) S X67 (c_X12_skip l G t68 I70 ) ck12_186 (Nat.le_of_ble_eq_true rfl) rfl (fun _ => ⟨_, rfl⟩) ⟨_, _, rfl⟩ ⟨Nat.le_of_ble_eq_true rfl, Nat.le_of_ble_eq_true rfl⟩ rfl hl.1 rfl (Nat.le_of_ble_eq_true rfl) dX12_fresh_60 ⟨Nat.le_refl 0, Nat.le_refl 0⟩) X67 (fun t74 H lc q72 X73 => ?_)
        unfold po_X12_skip at q72
        obtain ⟨q75, q76, q77, q78, q79, q80⟩ := q72
        have F81 : Fr [(131, 15), (131, 16), (131, 4), (131, 11), (131, 12), (131, 13), (131, 14)] [336, 331] τ t74 := Fr_call F71 q76 (by decide)
        obtain ⟨v82, z83⟩ : ∃ x, t74 131 4 = x := ⟨_, rfl⟩
        rw [z83] at q77
        obtain ⟨v84, z85⟩ : ∃ x, t74 131 11 = x := ⟨_, rfl⟩
        rw [z85] at q78
        have e86 := congrArg Int32.toInt ((M69.1 131 (by decide) 4).trans z2)
        have e87 := congrArg Int32.toInt z83
        have e88 := congrArg Int32.toInt ((M69.1 131 (by decide) 4).trans z2)
        have e89 := congrArg Int32.toInt z83
        have e90 := congrArg Int32.toInt ((M69.1 131 (by decide) 11).trans z5)
        have e91 := congrArg Int32.toInt z85
        refine r_iconst S dX12_fresh_63 (by decide) (fun v92 z93 => ?_)
        have r94 := R_eq z93
        exact r_ret S hr hlk X73 ⟨q75, F81, (R_of r94 rfl), (by rw [z83]; exact R_of q77 rfl), (by rw [z85]; exact R_of q78 rfl), (by have h1_0 := congrArg Int32.toInt z83; have h2_0 := congrArg Int32.toInt z2; omega), (by have h1_0 := congrArg Int32.toInt z85; have h2_0 := congrArg Int32.toInt z5; omega)⟩ (nr_bool (R_of (lo := 0) (hi := 1) r94 rfl)) dX12_fresh_64
      ·
        have r95 : R (0) (9) v60 := ⟨by omega, by omega⟩
        refine r_aload_n S dX12_fresh_43 rfl (lv_at hl 0 rfl) ?_
        refine r_iconst S dX12_fresh_44 (by decide) (fun v96 z97 => ?_)
        have r98 := R_eq z97
        refine r_ki (q_V (As := [.int v96]) (rest := []) (K := 38) (ci := 10) S X58 (c_X12_bad l G τ hI v96 (R_of (lo := -2147483648) (hi := 2147483647) r98 rfl)) ck12_183 (Nat.le_of_ble_eq_true rfl) rfl (fun _ => ⟨_, rfl⟩) ⟨_, _, rfl⟩ ⟨Nat.le_of_ble_eq_true rfl, Nat.le_of_ble_eq_true rfl⟩ rfl hl.1 rfl (Nat.le_of_ble_eq_true rfl) dX12_fresh_45 ⟨Nat.le_refl 0, Nat.le_refl 0⟩) X58 (fun v102 t101 H lc q99 X100 => ?_)
        unfold po_X12_bad at q99
        obtain ⟨q103, q104, q105⟩ := q99
        have F106 : Fr [(131, 15), (131, 16), (131, 4), (131, 11), (131, 12), (131, 13), (131, 14)] [336, 331] τ t101 := Fr_call Fr_rfl q104 (by decide)
        exact r_ret S hr hlk X100 ⟨q103, F106, (R_of q105 rfl), (by rw [((q104 131 4 (by decide)).trans z2)]; exact R_of r3 rfl), (by rw [((q104 131 11 (by decide)).trans z5)]; exact R_of r18 rfl), (by have h1_0 := congrArg Int32.toInt ((q104 131 4 (by decide)).trans z2); have h2_0 := congrArg Int32.toInt z2; omega), (by have h1_0 := congrArg Int32.toInt ((q104 131 11 (by decide)).trans z5); have h2_0 := congrArg Int32.toInt z5; omega)⟩ (nr_bool (R_of (lo := 0) (hi := 1) q105 rfl)) dX12_fresh_48
  ·
    have r107 : R (0) (0) v10 := ⟨by omega, by omega⟩
    refine r_aload_n S dX12_fresh_7 rfl (lv_at hl 0 rfl) ?_
    refine r_iconst S dX12_fresh_8 (by decide) (fun v108 z109 => ?_)
    have r110 := R_eq z109
    refine r_ki (q_V (As := [.int v108]) (rest := []) (K := 38) (ci := 10) S X8 (c_X12_bad l G τ hI v108 (R_of (lo := -2147483648) (hi := 2147483647) r110 rfl)) ck12_183 (Nat.le_of_ble_eq_true rfl) rfl (fun _ => ⟨_, rfl⟩) ⟨_, _, rfl⟩ ⟨Nat.le_of_ble_eq_true rfl, Nat.le_of_ble_eq_true rfl⟩ rfl hl.1 rfl (Nat.le_of_ble_eq_true rfl) dX12_fresh_9 ⟨Nat.le_refl 0, Nat.le_refl 0⟩) X8 (fun v114 t113 H lc q111 X112 => ?_)
    unfold po_X12_bad at q111
    obtain ⟨q115, q116, q117⟩ := q111
    have F118 : Fr [(131, 15), (131, 16), (131, 4), (131, 11), (131, 12), (131, 13), (131, 14)] [336, 331] τ t113 := Fr_call Fr_rfl q116 (by decide)
    exact r_ret S hr hlk X112 ⟨q115, F118, (R_of q117 rfl), (by rw [((q116 131 4 (by decide)).trans z2)]; exact R_of r3 rfl), (by rw [((q116 131 11 (by decide)).trans z5)]; exact R_of r6 rfl), (by have h1_0 := congrArg Int32.toInt ((q116 131 4 (by decide)).trans z2); have h2_0 := congrArg Int32.toInt z2; omega), (by have h1_0 := congrArg Int32.toInt ((q116 131 11 (by decide)).trans z5); have h2_0 := congrArg Int32.toInt z5; omega)⟩ (nr_bool (R_of (lo := 0) (hi := 1) q117 rfl)) dX12_fresh_12
def po_X12_looksAt_a (τ : Tau)  (a0 a1 : Int32)   (r : Int32) (u : Tau) : Prop := Inv u ∧ Fr [(131, 15), (131, 16), (131, 18)] [] τ u ∧ R (0) (1) r ∧ (r.toInt = 1 → R (0) (8) (u 131 18)) ∧ (r.toInt = 1 → (τ 131 11).toInt = 1)
set_option maxHeartbeats 4000000 in
set_option maxRecDepth 100000 in
theorem c_X12_looksAt_a (l : Launch) (G : Gx) (τ : Tau) (hI : Inv τ) (a0 : Int32) (a1 : Int32) (h_a0 : R (0) (19) a0) (h_a1 : R (0) (9) a1) : Ci l G yX12_looksAt cX12_looksAt 3 (some .boolean) 1 23 [.ref (G.2.2.2.1 131), .int a0, .int a1] τ (po_X12_looksAt_a τ  a0 a1  ) := by
  unfold Ci
  refine C_of (own := RX12) (by decide) rfl (Nat.le_of_ble_eq_true rfl) ?_
  intro p e s m below meth c ls S hr hlk X hl
  have hl : lv_has ls 3 [(0, .ref (G.2.2.2.1 131)), (1, .int a0), (2, .int a1)] := hl
  obtain ⟨v1, z2⟩ : ∃ x, τ 131 11 = x := ⟨_, rfl⟩
  have r3 : R (0) (4) v1 := rd hI rfl z2
  refine r_aload_n S dX12_looksAt_0 rfl (lv_at hl 0 rfl) ?_
  refine r_ki (q_V (As := []) (rest := []) (K := 38) (ci := 10) S X (c_X12_isName l G τ hI ) ck12_196 (Nat.le_of_ble_eq_true rfl) rfl (fun _ => ⟨_, rfl⟩) ⟨_, _, rfl⟩ ⟨Nat.le_of_ble_eq_true rfl, Nat.le_of_ble_eq_true rfl⟩ rfl hl.1 rfl (Nat.le_of_ble_eq_true rfl) dX12_looksAt_1 ⟨Nat.le_refl 0, Nat.le_refl 0⟩) X (fun v7 t6 H lc q4 X5 => ?_)
  unfold po_X12_isName at q4
  obtain ⟨q8, q9, q10⟩ := q4
  rw [q8] at X5
  rw [q8] at q10
  refine r_if_ne (tgt := 13) S dX12_looksAt_4 (by decide) (fun c11 => ?_) (fun c11 => ?_)
  ·
    have r12 : R (1) (1) v7 := ⟨by omega, by omega⟩
    have p13 := q10 (by omega)
    have r14 : R (1) (1) v1 := z2 ▸ p13
    have r15 : R (1) (1) v1 := ⟨by omega, by omega⟩
    refine r_aload_n S dX12_looksAt_13 rfl (lv_at hl 0 rfl) ?_
    refine r_aload_n S dX12_looksAt_14 rfl (lv_at hl 0 rfl) ?_
    refine r_iload_n S dX12_looksAt_15 rfl (lv_at hl 1 rfl) ?_
    refine r_iload_n S dX12_looksAt_16 rfl (lv_at hl 2 rfl) ?_
    refine r_ki (q_V (As := [.int a0, .int a1]) (rest := [.ref (G.2.2.2.1 131)]) (K := 38) (ci := 10) S X5 (c_X12_find_a l G τ hI a0 a1 h_a0 h_a1) ck12_200 (Nat.le_of_ble_eq_true rfl) rfl (fun _ => ⟨_, rfl⟩) ⟨_, _, rfl⟩ ⟨Nat.le_of_ble_eq_true rfl, Nat.le_of_ble_eq_true rfl⟩ rfl hl.1 rfl (Nat.le_of_ble_eq_true rfl) dX12_looksAt_17 ⟨Nat.le_refl 0, Nat.le_refl 0⟩) X5 (fun v19 t18 H lc q16 X17 => ?_)
    unfold po_X12_find_a at q16
    obtain ⟨q20, q21⟩ := q16
    rw [q20] at X17
    refine r_put (K := 38) (ty := .int) S X17 (Nat.le_of_ble_eq_true rfl) rfl lk12_193_10 (fun _ => ⟨_, rfl, Nat.le_of_ble_eq_true rfl, rfl⟩) (fun _ _ _ h => by cases h; exact ⟨rfl, rfl⟩) rfl rfl dX12_looksAt_20 (fun t22 H lc M23 X24 => ?_)
    have I25 := Inv_mu hI M23 (R_any v19)
    have F26 : Fr [(131, 15), (131, 16), (131, 18)] [] τ t22 := Fr_mu Fr_rfl M23 (by decide)
    refine r_aload_n S dX12_looksAt_23 rfl (lv_at hl 0 rfl) ?_
    refine r_geti (K := 38) S X24 (Nat.le_of_ble_eq_true rfl) rfl lk12_193_10 (fun _ => ⟨_, rfl, rfl⟩) M23.1 dX12_looksAt_24 ?_
    refine r_if_ge (tgt := 38) S dX12_looksAt_27 (by decide) (fun c27 => ?_) (fun c27 => ?_)
    ·
      have r28 : R (0) (8) v19 := ⟨by omega, by omega⟩
      refine r_iconst S dX12_looksAt_38 (by decide) (fun v29 z30 => ?_)
      have r31 := R_eq z30
      refine r_goto (tgt := 43) S dX12_looksAt_39 (by decide) ?_
      exact r_ret S hr hlk X24 ⟨I25, F26, (R_of r31 rfl), (fun h => (by rw [M23.1]; exact R_of r28 rfl)), (by have h1_0 := congrArg Int32.toInt ((M23.2 131 11 (Or.inr (by decide))).trans z2); have h2_0 := congrArg Int32.toInt z2; omega)⟩ (nr_bool (R_of (lo := 0) (hi := 1) r31 rfl)) dX12_looksAt_43
    ·
      have r32 : R (-1) (-1) v19 := ⟨by omega, by omega⟩
      refine r_aload_n S dX12_looksAt_30 rfl (lv_at hl 0 rfl) ?_
      refine r_iconst S dX12_looksAt_31 (by decide) (fun v33 z34 => ?_)
      have r35 := R_eq z34
      refine r_ki (q_V (As := [.int v33]) (rest := []) (K := 38) (ci := 10) S X24 (c_X12_bad l G t22 I25 v33 (R_of (lo := -2147483648) (hi := 2147483647) r35 rfl)) ck12_183 (Nat.le_of_ble_eq_true rfl) rfl (fun _ => ⟨_, rfl⟩) ⟨_, _, rfl⟩ ⟨Nat.le_of_ble_eq_true rfl, Nat.le_of_ble_eq_true rfl⟩ rfl hl.1 rfl (Nat.le_of_ble_eq_true rfl) dX12_looksAt_32 ⟨Nat.le_refl 0, Nat.le_refl 0⟩) X24 (fun v39 t38 H lc q36 X37 => ?_)
      unfold po_X12_bad at q36
      obtain ⟨q40, q41, q42⟩ := q36
      have F43 : Fr [(131, 15), (131, 16), (131, 18)] [] τ t38 := Fr_call F26 q41 (by decide)
      refine r_if_eq (tgt := 42) S dX12_looksAt_35 (by decide) (fun c44 => ?_) (fun c44 => ?_)
      ·
        refine r_iconst S dX12_looksAt_42 (by decide) (fun v45 z46 => ?_)
        have r47 := R_eq z46
        exact r_ret S hr hlk X37 ⟨q40, F43, (R_of r47 rfl), (fun h => by exfalso; omega), (by have h1_0 := congrArg Int32.toInt ((q41 131 11 (by decide)).trans ((M23.2 131 11 (Or.inr (by decide))).trans z2)); have h2_0 := congrArg Int32.toInt z2; omega)⟩ (nr_bool (R_of (lo := 0) (hi := 1) r47 rfl)) dX12_looksAt_43
      ·
        exfalso; omega
  ·
    have r48 : R (0) (0) v7 := ⟨by omega, by omega⟩
    refine r_aload_n S dX12_looksAt_7 rfl (lv_at hl 0 rfl) ?_
    refine r_iconst S dX12_looksAt_8 (by decide) (fun v49 z50 => ?_)
    have r51 := R_eq z50
    refine r_ki (q_V (As := [.int v49]) (rest := []) (K := 38) (ci := 10) S X5 (c_X12_bad l G τ hI v49 (R_of (lo := -2147483648) (hi := 2147483647) r51 rfl)) ck12_183 (Nat.le_of_ble_eq_true rfl) rfl (fun _ => ⟨_, rfl⟩) ⟨_, _, rfl⟩ ⟨Nat.le_of_ble_eq_true rfl, Nat.le_of_ble_eq_true rfl⟩ rfl hl.1 rfl (Nat.le_of_ble_eq_true rfl) dX12_looksAt_9 ⟨Nat.le_refl 0, Nat.le_refl 0⟩) X5 (fun v55 t54 H lc q52 X53 => ?_)
    unfold po_X12_bad at q52
    obtain ⟨q56, q57, q58⟩ := q52
    have F59 : Fr [(131, 15), (131, 16), (131, 18)] [] τ t54 := Fr_call Fr_rfl q57 (by decide)
    exact r_ret S hr hlk X53 ⟨q56, F59, (R_of q58 rfl), (fun h => by exfalso; omega), (by have h1_0 := congrArg Int32.toInt ((q57 131 11 (by decide)).trans z2); have h2_0 := congrArg Int32.toInt z2; omega)⟩ (nr_bool (R_of (lo := 0) (hi := 1) q58 rfl)) dX12_looksAt_12
def po_X12_takesName_a (τ : Tau)  (a0 a1 : Int32)   (r : Int32) (u : Tau) : Prop := Inv u ∧ Fr [(131, 15), (131, 16), (131, 4), (131, 11), (131, 12), (131, 13), (131, 14), (131, 18)] [331] τ u ∧ R (0) (1) r ∧ (r.toInt = 1 → R (0) (8) (u 131 18)) ∧ R (0) (940) (u 131 4) ∧ R (0) (4) (u 131 11) ∧ (τ 131 4).toInt ≤ (u 131 4).toInt
set_option maxHeartbeats 4000000 in
set_option maxRecDepth 100000 in
theorem c_X12_takesName_a (l : Launch) (G : Gx) (τ : Tau) (hI : Inv τ) (a0 : Int32) (a1 : Int32) (h_a0 : R (0) (19) a0) (h_a1 : R (0) (9) a1) : Ci l G yX12_takesName cX12_takesName 3 (some .boolean) 2 45 [.ref (G.2.2.2.1 131), .int a0, .int a1] τ (po_X12_takesName_a τ  a0 a1  ) := by
  unfold Ci
  refine C_of (own := RX12) (by decide) rfl (Nat.le_of_ble_eq_true rfl) ?_
  intro p e s m below meth c ls S hr hlk X hl
  have hl : lv_has ls 3 [(0, .ref (G.2.2.2.1 131)), (1, .int a0), (2, .int a1)] := hl
  obtain ⟨v1, z2⟩ : ∃ x, τ 131 4 = x := ⟨_, rfl⟩
  have r3 : R (0) (940) v1 := rd hI rfl z2
  obtain ⟨v4, z5⟩ : ∃ x, τ 131 11 = x := ⟨_, rfl⟩
  have r6 : R (0) (4) v4 := rd hI rfl z5
  refine r_aload_n S dX12_takesName_0 rfl (lv_at hl 0 rfl) ?_
  refine r_iload_n S dX12_takesName_1 rfl (lv_at hl 1 rfl) ?_
  refine r_iload_n S dX12_takesName_2 rfl (lv_at hl 2 rfl) ?_
  refine r_ki (q_V (As := [.int a0, .int a1]) (rest := []) (K := 38) (ci := 10) S X (c_X12_looksAt_a l G τ hI a0 a1 h_a0 h_a1) ck12_204 (Nat.le_of_ble_eq_true rfl) rfl (fun _ => ⟨_, rfl⟩) ⟨_, _, rfl⟩ ⟨Nat.le_of_ble_eq_true rfl, Nat.le_of_ble_eq_true rfl⟩ rfl hl.1 rfl (Nat.le_of_ble_eq_true rfl) dX12_takesName_3 ⟨Nat.le_refl 0, Nat.le_refl 0⟩) X (fun v10 t9 H lc q7 X8 => ?_)
  unfold po_X12_looksAt_a at q7
  obtain ⟨q11, q12, q13, q14, q15⟩ := q7
  have F16 : Fr [(131, 15), (131, 16), (131, 4), (131, 11), (131, 12), (131, 13), (131, 14), (131, 18)] [331] τ t9 := Fr_call Fr_rfl q12 (by decide)
  have e17 := congrArg Int32.toInt z5
  have e18 := congrArg Int32.toInt ((q12 131 11 (by decide)).trans z5)
  refine r_if_ne (tgt := 11) S dX12_takesName_6 (by decide) (fun c19 => ?_) (fun c19 => ?_)
  ·
    have r20 : R (1) (1) v10 := ⟨by omega, by omega⟩
    have p21 := q14 (by omega)
    obtain ⟨v22, z23⟩ : ∃ x, t9 131 18 = x := ⟨_, rfl⟩
    rw [z23] at p21
    refine r_aload_n S dX12_takesName_11 rfl (lv_at hl 0 rfl) ?_
    refine r_kv (q_V (As := []) (rest := []) (K := 38) (ci := 10) S X8 (c_X12_skip l G t9 q11 ) ck12_186 (Nat.le_of_ble_eq_true rfl) rfl (fun _ => ⟨_, rfl⟩) ⟨_, _, rfl⟩ ⟨Nat.le_of_ble_eq_true rfl, Nat.le_of_ble_eq_true rfl⟩ rfl hl.1 rfl (Nat.le_of_ble_eq_true rfl) dX12_takesName_12 ⟨Nat.le_refl 0, Nat.le_refl 0⟩) X8 (fun t26 H lc q24 X25 => ?_)
    unfold po_X12_skip at q24
    obtain ⟨q27, q28, q29, q30, q31, q32⟩ := q24
    have F33 : Fr [(131, 15), (131, 16), (131, 4), (131, 11), (131, 12), (131, 13), (131, 14), (131, 18)] [331] τ t26 := Fr_call F16 q28 (by decide)
    obtain ⟨v34, z35⟩ : ∃ x, t26 131 4 = x := ⟨_, rfl⟩
    rw [z35] at q29
    obtain ⟨v36, z37⟩ : ∃ x, t26 131 11 = x := ⟨_, rfl⟩
    rw [z37] at q30
    have e38 := congrArg Int32.toInt ((q12 131 4 (by decide)).trans z2)
    have e39 := congrArg Int32.toInt z35
    have e40 := congrArg Int32.toInt ((q12 131 4 (by decide)).trans z2)
    have e41 := congrArg Int32.toInt z35
    have e42 := congrArg Int32.toInt ((q12 131 11 (by decide)).trans z5)
    have e43 := congrArg Int32.toInt z37
    refine r_iconst S dX12_takesName_15 (by decide) (fun v44 z45 => ?_)
    have r46 := R_eq z45
    exact r_ret S hr hlk X25 ⟨q27, F33, (R_of r46 rfl), (fun h => (by rw [((q28 131 18 (by decide)).trans z23)]; exact R_of p21 rfl)), (by rw [z35]; exact R_of q29 rfl), (by rw [z37]; exact R_of q30 rfl), (by have h1_0 := congrArg Int32.toInt z35; have h2_0 := congrArg Int32.toInt z2; omega)⟩ (nr_bool (R_of (lo := 0) (hi := 1) r46 rfl)) dX12_takesName_16
  ·
    have r47 : R (0) (0) v10 := ⟨by omega, by omega⟩
    refine r_iconst S dX12_takesName_9 (by decide) (fun v48 z49 => ?_)
    have r50 := R_eq z49
    exact r_ret S hr hlk X8 ⟨q11, F16, (R_of r50 rfl), (fun h => by exfalso; omega), (by rw [((q12 131 4 (by decide)).trans z2)]; exact R_of r3 rfl), (by rw [((q12 131 11 (by decide)).trans z5)]; exact R_of r6 rfl), (by have h1_0 := congrArg Int32.toInt ((q12 131 4 (by decide)).trans z2); have h2_0 := congrArg Int32.toInt z2; omega)⟩ (nr_bool (R_of (lo := 0) (hi := 1) r50 rfl)) dX12_takesName_10
def po_X12_looksAt_m (τ : Tau)  (a0 a1 : Int32)   (r : Int32) (u : Tau) : Prop := Inv u ∧ Fr [(131, 15), (131, 16), (131, 18)] [] τ u ∧ R (0) (1) r ∧ (r.toInt = 1 → R (0) (9) (u 131 18)) ∧ (r.toInt = 1 → (τ 131 11).toInt = 1)
set_option maxHeartbeats 4000000 in
set_option maxRecDepth 100000 in
theorem c_X12_looksAt_m (l : Launch) (G : Gx) (τ : Tau) (hI : Inv τ) (a0 : Int32) (a1 : Int32) (h_a0 : R (9) (28) a0) (h_a1 : R (0) (10) a1) : Ci l G yX12_looksAt cX12_looksAt 3 (some .boolean) 1 23 [.ref (G.2.2.2.1 131), .int a0, .int a1] τ (po_X12_looksAt_m τ  a0 a1  ) := by
  unfold Ci
  refine C_of (own := RX12) (by decide) rfl (Nat.le_of_ble_eq_true rfl) ?_
  intro p e s m below meth c ls S hr hlk X hl
  have hl : lv_has ls 3 [(0, .ref (G.2.2.2.1 131)), (1, .int a0), (2, .int a1)] := hl
  obtain ⟨v1, z2⟩ : ∃ x, τ 131 11 = x := ⟨_, rfl⟩
  have r3 : R (0) (4) v1 := rd hI rfl z2
  refine r_aload_n S dX12_looksAt_0 rfl (lv_at hl 0 rfl) ?_
  refine r_ki (q_V (As := []) (rest := []) (K := 38) (ci := 10) S X (c_X12_isName l G τ hI ) ck12_196 (Nat.le_of_ble_eq_true rfl) rfl (fun _ => ⟨_, rfl⟩) ⟨_, _, rfl⟩ ⟨Nat.le_of_ble_eq_true rfl, Nat.le_of_ble_eq_true rfl⟩ rfl hl.1 rfl (Nat.le_of_ble_eq_true rfl) dX12_looksAt_1 ⟨Nat.le_refl 0, Nat.le_refl 0⟩) X (fun v7 t6 H lc q4 X5 => ?_)
  unfold po_X12_isName at q4
  obtain ⟨q8, q9, q10⟩ := q4
  rw [q8] at X5
  rw [q8] at q10
  refine r_if_ne (tgt := 13) S dX12_looksAt_4 (by decide) (fun c11 => ?_) (fun c11 => ?_)
  ·
    have r12 : R (1) (1) v7 := ⟨by omega, by omega⟩
    have p13 := q10 (by omega)
    have r14 : R (1) (1) v1 := z2 ▸ p13
    have r15 : R (1) (1) v1 := ⟨by omega, by omega⟩
    refine r_aload_n S dX12_looksAt_13 rfl (lv_at hl 0 rfl) ?_
    refine r_aload_n S dX12_looksAt_14 rfl (lv_at hl 0 rfl) ?_
    refine r_iload_n S dX12_looksAt_15 rfl (lv_at hl 1 rfl) ?_
    refine r_iload_n S dX12_looksAt_16 rfl (lv_at hl 2 rfl) ?_
    refine r_ki (q_V (As := [.int a0, .int a1]) (rest := [.ref (G.2.2.2.1 131)]) (K := 38) (ci := 10) S X5 (c_X12_find_m l G τ hI a0 a1 h_a0 h_a1) ck12_200 (Nat.le_of_ble_eq_true rfl) rfl (fun _ => ⟨_, rfl⟩) ⟨_, _, rfl⟩ ⟨Nat.le_of_ble_eq_true rfl, Nat.le_of_ble_eq_true rfl⟩ rfl hl.1 rfl (Nat.le_of_ble_eq_true rfl) dX12_looksAt_17 ⟨Nat.le_refl 0, Nat.le_refl 0⟩) X5 (fun v19 t18 H lc q16 X17 => ?_)
    unfold po_X12_find_m at q16
    obtain ⟨q20, q21⟩ := q16
    rw [q20] at X17
    refine r_put (K := 38) (ty := .int) S X17 (Nat.le_of_ble_eq_true rfl) rfl lk12_193_10 (fun _ => ⟨_, rfl, Nat.le_of_ble_eq_true rfl, rfl⟩) (fun _ _ _ h => by cases h; exact ⟨rfl, rfl⟩) rfl rfl dX12_looksAt_20 (fun t22 H lc M23 X24 => ?_)
    have I25 := Inv_mu hI M23 (R_any v19)
    have F26 : Fr [(131, 15), (131, 16), (131, 18)] [] τ t22 := Fr_mu Fr_rfl M23 (by decide)
    refine r_aload_n S dX12_looksAt_23 rfl (lv_at hl 0 rfl) ?_
    refine r_geti (K := 38) S X24 (Nat.le_of_ble_eq_true rfl) rfl lk12_193_10 (fun _ => ⟨_, rfl, rfl⟩) M23.1 dX12_looksAt_24 ?_
    refine r_if_ge (tgt := 38) S dX12_looksAt_27 (by decide) (fun c27 => ?_) (fun c27 => ?_)
    ·
      have r28 : R (0) (9) v19 := ⟨by omega, by omega⟩
      refine r_iconst S dX12_looksAt_38 (by decide) (fun v29 z30 => ?_)
      have r31 := R_eq z30
      refine r_goto (tgt := 43) S dX12_looksAt_39 (by decide) ?_
      exact r_ret S hr hlk X24 ⟨I25, F26, (R_of r31 rfl), (fun h => (by rw [M23.1]; exact R_of r28 rfl)), (by have h1_0 := congrArg Int32.toInt ((M23.2 131 11 (Or.inr (by decide))).trans z2); have h2_0 := congrArg Int32.toInt z2; omega)⟩ (nr_bool (R_of (lo := 0) (hi := 1) r31 rfl)) dX12_looksAt_43
    ·
      have r32 : R (-1) (-1) v19 := ⟨by omega, by omega⟩
      refine r_aload_n S dX12_looksAt_30 rfl (lv_at hl 0 rfl) ?_
      refine r_iconst S dX12_looksAt_31 (by decide) (fun v33 z34 => ?_)
      have r35 := R_eq z34
      refine r_ki (q_V (As := [.int v33]) (rest := []) (K := 38) (ci := 10) S X24 (c_X12_bad l G t22 I25 v33 (R_of (lo := -2147483648) (hi := 2147483647) r35 rfl)) ck12_183 (Nat.le_of_ble_eq_true rfl) rfl (fun _ => ⟨_, rfl⟩) ⟨_, _, rfl⟩ ⟨Nat.le_of_ble_eq_true rfl, Nat.le_of_ble_eq_true rfl⟩ rfl hl.1 rfl (Nat.le_of_ble_eq_true rfl) dX12_looksAt_32 ⟨Nat.le_refl 0, Nat.le_refl 0⟩) X24 (fun v39 t38 H lc q36 X37 => ?_)
      unfold po_X12_bad at q36
      obtain ⟨q40, q41, q42⟩ := q36
      have F43 : Fr [(131, 15), (131, 16), (131, 18)] [] τ t38 := Fr_call F26 q41 (by decide)
      refine r_if_eq (tgt := 42) S dX12_looksAt_35 (by decide) (fun c44 => ?_) (fun c44 => ?_)
      ·
        refine r_iconst S dX12_looksAt_42 (by decide) (fun v45 z46 => ?_)
        have r47 := R_eq z46
        exact r_ret S hr hlk X37 ⟨q40, F43, (R_of r47 rfl), (fun h => by exfalso; omega), (by have h1_0 := congrArg Int32.toInt ((q41 131 11 (by decide)).trans ((M23.2 131 11 (Or.inr (by decide))).trans z2)); have h2_0 := congrArg Int32.toInt z2; omega)⟩ (nr_bool (R_of (lo := 0) (hi := 1) r47 rfl)) dX12_looksAt_43
      ·
        exfalso; omega
  ·
    have r48 : R (0) (0) v7 := ⟨by omega, by omega⟩
    refine r_aload_n S dX12_looksAt_7 rfl (lv_at hl 0 rfl) ?_
    refine r_iconst S dX12_looksAt_8 (by decide) (fun v49 z50 => ?_)
    have r51 := R_eq z50
    refine r_ki (q_V (As := [.int v49]) (rest := []) (K := 38) (ci := 10) S X5 (c_X12_bad l G τ hI v49 (R_of (lo := -2147483648) (hi := 2147483647) r51 rfl)) ck12_183 (Nat.le_of_ble_eq_true rfl) rfl (fun _ => ⟨_, rfl⟩) ⟨_, _, rfl⟩ ⟨Nat.le_of_ble_eq_true rfl, Nat.le_of_ble_eq_true rfl⟩ rfl hl.1 rfl (Nat.le_of_ble_eq_true rfl) dX12_looksAt_9 ⟨Nat.le_refl 0, Nat.le_refl 0⟩) X5 (fun v55 t54 H lc q52 X53 => ?_)
    unfold po_X12_bad at q52
    obtain ⟨q56, q57, q58⟩ := q52
    have F59 : Fr [(131, 15), (131, 16), (131, 18)] [] τ t54 := Fr_call Fr_rfl q57 (by decide)
    exact r_ret S hr hlk X53 ⟨q56, F59, (R_of q58 rfl), (fun h => by exfalso; omega), (by have h1_0 := congrArg Int32.toInt ((q57 131 11 (by decide)).trans z2); have h2_0 := congrArg Int32.toInt z2; omega)⟩ (nr_bool (R_of (lo := 0) (hi := 1) q58 rfl)) dX12_looksAt_12
def po_X12_takesName_m (τ : Tau)  (a0 a1 : Int32)   (r : Int32) (u : Tau) : Prop := Inv u ∧ Fr [(131, 15), (131, 16), (131, 4), (131, 11), (131, 12), (131, 13), (131, 14), (131, 18)] [331] τ u ∧ R (0) (1) r ∧ (r.toInt = 1 → R (0) (9) (u 131 18)) ∧ R (0) (940) (u 131 4) ∧ R (0) (4) (u 131 11) ∧ (τ 131 4).toInt ≤ (u 131 4).toInt
set_option maxHeartbeats 4000000 in
set_option maxRecDepth 100000 in
theorem c_X12_takesName_m (l : Launch) (G : Gx) (τ : Tau) (hI : Inv τ) (a0 : Int32) (a1 : Int32) (h_a0 : R (9) (28) a0) (h_a1 : R (0) (10) a1) : Ci l G yX12_takesName cX12_takesName 3 (some .boolean) 2 45 [.ref (G.2.2.2.1 131), .int a0, .int a1] τ (po_X12_takesName_m τ  a0 a1  ) := by
  unfold Ci
  refine C_of (own := RX12) (by decide) rfl (Nat.le_of_ble_eq_true rfl) ?_
  intro p e s m below meth c ls S hr hlk X hl
  have hl : lv_has ls 3 [(0, .ref (G.2.2.2.1 131)), (1, .int a0), (2, .int a1)] := hl
  obtain ⟨v1, z2⟩ : ∃ x, τ 131 4 = x := ⟨_, rfl⟩
  have r3 : R (0) (940) v1 := rd hI rfl z2
  obtain ⟨v4, z5⟩ : ∃ x, τ 131 11 = x := ⟨_, rfl⟩
  have r6 : R (0) (4) v4 := rd hI rfl z5
  refine r_aload_n S dX12_takesName_0 rfl (lv_at hl 0 rfl) ?_
  refine r_iload_n S dX12_takesName_1 rfl (lv_at hl 1 rfl) ?_
  refine r_iload_n S dX12_takesName_2 rfl (lv_at hl 2 rfl) ?_
  refine r_ki (q_V (As := [.int a0, .int a1]) (rest := []) (K := 38) (ci := 10) S X (c_X12_looksAt_m l G τ hI a0 a1 h_a0 h_a1) ck12_204 (Nat.le_of_ble_eq_true rfl) rfl (fun _ => ⟨_, rfl⟩) ⟨_, _, rfl⟩ ⟨Nat.le_of_ble_eq_true rfl, Nat.le_of_ble_eq_true rfl⟩ rfl hl.1 rfl (Nat.le_of_ble_eq_true rfl) dX12_takesName_3 ⟨Nat.le_refl 0, Nat.le_refl 0⟩) X (fun v10 t9 H lc q7 X8 => ?_)
  unfold po_X12_looksAt_m at q7
  obtain ⟨q11, q12, q13, q14, q15⟩ := q7
  have F16 : Fr [(131, 15), (131, 16), (131, 4), (131, 11), (131, 12), (131, 13), (131, 14), (131, 18)] [331] τ t9 := Fr_call Fr_rfl q12 (by decide)
  have e17 := congrArg Int32.toInt z5
  have e18 := congrArg Int32.toInt ((q12 131 11 (by decide)).trans z5)
  refine r_if_ne (tgt := 11) S dX12_takesName_6 (by decide) (fun c19 => ?_) (fun c19 => ?_)
  ·
    have r20 : R (1) (1) v10 := ⟨by omega, by omega⟩
    have p21 := q14 (by omega)
    obtain ⟨v22, z23⟩ : ∃ x, t9 131 18 = x := ⟨_, rfl⟩
    rw [z23] at p21
    refine r_aload_n S dX12_takesName_11 rfl (lv_at hl 0 rfl) ?_
    refine r_kv (q_V (As := []) (rest := []) (K := 38) (ci := 10) S X8 (c_X12_skip l G t9 q11 ) ck12_186 (Nat.le_of_ble_eq_true rfl) rfl (fun _ => ⟨_, rfl⟩) ⟨_, _, rfl⟩ ⟨Nat.le_of_ble_eq_true rfl, Nat.le_of_ble_eq_true rfl⟩ rfl hl.1 rfl (Nat.le_of_ble_eq_true rfl) dX12_takesName_12 ⟨Nat.le_refl 0, Nat.le_refl 0⟩) X8 (fun t26 H lc q24 X25 => ?_)
    unfold po_X12_skip at q24
    obtain ⟨q27, q28, q29, q30, q31, q32⟩ := q24
    have F33 : Fr [(131, 15), (131, 16), (131, 4), (131, 11), (131, 12), (131, 13), (131, 14), (131, 18)] [331] τ t26 := Fr_call F16 q28 (by decide)
    obtain ⟨v34, z35⟩ : ∃ x, t26 131 4 = x := ⟨_, rfl⟩
    rw [z35] at q29
    obtain ⟨v36, z37⟩ : ∃ x, t26 131 11 = x := ⟨_, rfl⟩
    rw [z37] at q30
    have e38 := congrArg Int32.toInt ((q12 131 4 (by decide)).trans z2)
    have e39 := congrArg Int32.toInt z35
    have e40 := congrArg Int32.toInt ((q12 131 4 (by decide)).trans z2)
    have e41 := congrArg Int32.toInt z35
    have e42 := congrArg Int32.toInt ((q12 131 11 (by decide)).trans z5)
    have e43 := congrArg Int32.toInt z37
    refine r_iconst S dX12_takesName_15 (by decide) (fun v44 z45 => ?_)
    have r46 := R_eq z45
    exact r_ret S hr hlk X25 ⟨q27, F33, (R_of r46 rfl), (fun h => (by rw [((q28 131 18 (by decide)).trans z23)]; exact R_of p21 rfl)), (by rw [z35]; exact R_of q29 rfl), (by rw [z37]; exact R_of q30 rfl), (by have h1_0 := congrArg Int32.toInt z35; have h2_0 := congrArg Int32.toInt z2; omega)⟩ (nr_bool (R_of (lo := 0) (hi := 1) r46 rfl)) dX12_takesName_16
  ·
    have r47 : R (0) (0) v10 := ⟨by omega, by omega⟩
    refine r_iconst S dX12_takesName_9 (by decide) (fun v48 z49 => ?_)
    have r50 := R_eq z49
    exact r_ret S hr hlk X8 ⟨q11, F16, (R_of r50 rfl), (fun h => by exfalso; omega), (by rw [((q12 131 4 (by decide)).trans z2)]; exact R_of r3 rfl), (by rw [((q12 131 11 (by decide)).trans z5)]; exact R_of r6 rfl), (by have h1_0 := congrArg Int32.toInt ((q12 131 4 (by decide)).trans z2); have h2_0 := congrArg Int32.toInt z2; omega)⟩ (nr_bool (R_of (lo := 0) (hi := 1) r50 rfl)) dX12_takesName_10
def po_X12_takesMind_0 (τ : Tau)  (a0 : Int32)   (r : Int32) (u : Tau) : Prop := Inv u ∧ Fr [(131, 15), (131, 16), (131, 4), (131, 11), (131, 12), (131, 13), (131, 14), (131, 18), (131, 21)] [331] τ u ∧ R (0) (1) r ∧ R (0) (940) (u 131 4) ∧ R (0) (4) (u 131 11) ∧ (τ 131 4).toInt ≤ (u 131 4).toInt ∧ (r.toInt = 1 → (τ 131 4).toInt < (u 131 4).toInt)
set_option maxHeartbeats 4000000 in
set_option maxRecDepth 100000 in
theorem c_X12_takesMind_0 (l : Launch) (G : Gx) (τ : Tau) (hI : Inv τ) (a0 : Int32) (h_a0 : R (0) (0) a0) : Ci l G yX12_takesMind cX12_takesMind 3 (some .boolean) 3 65 [.ref (G.2.2.2.1 131), .int a0] τ (po_X12_takesMind_0 τ  a0  ) := by
  unfold Ci
  refine C_of (own := RX12) (by decide) rfl (Nat.le_of_ble_eq_true rfl) ?_
  intro p e s m below meth c ls S hr hlk X hl
  have hl : lv_has ls 3 [(0, .ref (G.2.2.2.1 131)), (1, .int a0)] := hl
  obtain ⟨v1, z2⟩ : ∃ x, τ 131 4 = x := ⟨_, rfl⟩
  have r3 : R (0) (940) v1 := rd hI rfl z2
  obtain ⟨v4, z5⟩ : ∃ x, τ 131 11 = x := ⟨_, rfl⟩
  have r6 : R (0) (4) v4 := rd hI rfl z5
  refine r_aload_n S dX12_takesMind_0 rfl (lv_at hl 0 rfl) ?_
  refine lv_ldc2 S.1.1 S.1.2.1 S.1.2.2.2.1 (S.1.2.2.2.2 _ kw27) dX12_takesMind_1 ?_
  refine lv_topl (fun j7 z8 => ?_)
  refine r_ki (q_V (As := [.long j7]) (rest := []) (K := 38) (ci := 10) S X (c_X12_isWord l G τ hI j7) ck12_208 (Nat.le_of_ble_eq_true rfl) rfl (fun _ => ⟨_, rfl⟩) ⟨_, _, rfl⟩ ⟨Nat.le_of_ble_eq_true rfl, Nat.le_of_ble_eq_true rfl⟩ rfl hl.1 rfl (Nat.le_of_ble_eq_true rfl) dX12_takesMind_4 ⟨Nat.le_refl 0, Nat.le_refl 0⟩) X (fun v12 t11 H lc q9 X10 => ?_)
  unfold po_X12_isWord at q9
  obtain ⟨q13, q14, q15⟩ := q9
  rw [q13] at X10
  rw [q13] at q15
  refine r_istore_n (lv' := [(2, .int v12), (0, .ref (G.2.2.2.1 131)), (1, .int a0)]) S dX12_takesMind_7 rfl hl (by decide) rfl (fun ls hl => ?_)
  refine r_iload_n S dX12_takesMind_8 rfl (lv_at hl 0 rfl) ?_
  refine r_if_ne (tgt := 28) S dX12_takesMind_9 (by decide) (fun c16 => ?_) (fun c16 => ?_)
  ·
    have r17 : R (1) (1) v12 := ⟨by omega, by omega⟩
    have p18 := q15 (by omega)
    have r19 : R (1) (1) v4 := z5 ▸ p18
    have r20 : R (1) (1) v4 := ⟨by omega, by omega⟩
    refine r_aload_n S dX12_takesMind_28 rfl (lv_at hl 1 rfl) ?_
    refine r_kv (q_V (As := []) (rest := []) (K := 38) (ci := 10) S X10 (c_X12_skip l G τ hI ) ck12_186 (Nat.le_of_ble_eq_true rfl) rfl (fun _ => ⟨_, rfl⟩) ⟨_, _, rfl⟩ ⟨Nat.le_of_ble_eq_true rfl, Nat.le_of_ble_eq_true rfl⟩ rfl hl.1 rfl (Nat.le_of_ble_eq_true rfl) dX12_takesMind_29 ⟨Nat.le_refl 0, Nat.le_refl 0⟩) X10 (fun t23 H lc q21 X22 => ?_)
    unfold po_X12_skip at q21
    obtain ⟨q24, q25, q26, q27, q28, q29⟩ := q21
    have F30 : Fr [(131, 15), (131, 16), (131, 4), (131, 11), (131, 12), (131, 13), (131, 14), (131, 18), (131, 21)] [331] τ t23 := Fr_call Fr_rfl q25 (by decide)
    obtain ⟨v31, z32⟩ : ∃ x, t23 131 4 = x := ⟨_, rfl⟩
    rw [z32] at q26
    obtain ⟨v33, z34⟩ : ∃ x, t23 131 11 = x := ⟨_, rfl⟩
    rw [z34] at q27
    have e35 := congrArg Int32.toInt z2
    have e36 := congrArg Int32.toInt z32
    have e37 := congrArg Int32.toInt z2
    have e38 := congrArg Int32.toInt z32
    have e39 := congrArg Int32.toInt z5
    have e40 := congrArg Int32.toInt z34
    refine r_aload_n S dX12_takesMind_32 rfl (lv_at hl 1 rfl) ?_
    refine r_iload_n S dX12_takesMind_33 rfl (lv_at hl 2 rfl) ?_
    refine r_bipush S dX12_takesMind_34 (by decide) (fun v41 z42 => ?_)
    have r43 := R_eq z42
    refine r_ki (q_V (As := [.int a0, .int v41]) (rest := []) (K := 38) (ci := 10) S X22 (c_X12_takes_0_9 l G t23 q24 a0 v41 h_a0 r43) ck12_212 (Nat.le_of_ble_eq_true rfl) rfl (fun _ => ⟨_, rfl⟩) ⟨_, _, rfl⟩ ⟨Nat.le_of_ble_eq_true rfl, Nat.le_of_ble_eq_true rfl⟩ rfl hl.1 rfl (Nat.le_of_ble_eq_true rfl) dX12_takesMind_36 ⟨Nat.le_refl 0, Nat.le_refl 0⟩) X22 (fun v47 t46 H lc q44 X45 => ?_)
    unfold po_X12_takes_0_9 at q44
    obtain ⟨q48, q49, q50, q51, q52, q53, q54, q55⟩ := q44
    have F56 : Fr [(131, 15), (131, 16), (131, 4), (131, 11), (131, 12), (131, 13), (131, 14), (131, 18), (131, 21)] [331] τ t46 := Fr_call F30 q49 (by decide)
    obtain ⟨v57, z58⟩ : ∃ x, t46 131 4 = x := ⟨_, rfl⟩
    rw [z58] at q52
    obtain ⟨v59, z60⟩ : ∃ x, t46 131 11 = x := ⟨_, rfl⟩
    rw [z60] at q53
    have e61 := congrArg Int32.toInt z32
    have e62 := congrArg Int32.toInt z58
    have e63 := congrArg Int32.toInt z34
    have e64 := congrArg Int32.toInt z60
    refine r_if_ne (tgt := 44) S dX12_takesMind_39 (by decide) (fun c65 => ?_) (fun c65 => ?_)
    ·
      have r66 : R (1) (1) v47 := ⟨by omega, by omega⟩
      have p67 := q51 (by omega)
      obtain ⟨v68, z69⟩ : ∃ x, t46 131 18 = x := ⟨_, rfl⟩
      rw [z69] at p67
      refine r_aload_n S dX12_takesMind_44 rfl (lv_at hl 1 rfl) ?_
      refine r_iload_n S dX12_takesMind_45 rfl (lv_at hl 0 rfl) ?_
      refine r_if_eq (tgt := 57) S dX12_takesMind_46 (by decide) (fun c70 => ?_) (fun c70 => ?_)
      ·
        exfalso; omega
      ·
        refine r_aload_n S dX12_takesMind_49 rfl (lv_at hl 1 rfl) ?_
        refine r_geti (K := 38) S X45 (Nat.le_of_ble_eq_true rfl) rfl lk12_193_10 (fun _ => ⟨_, rfl, rfl⟩) z69 dX12_takesMind_50 ?_
        refine r_ineg S dX12_takesMind_53 (fun v71 z72 => ?_)
        obtain ⟨e73, r74⟩ := i_neg (lo := -9) (hi := 0) z72 p67 rfl
        refine r_goto (tgt := 61) S dX12_takesMind_54 (by decide) ?_
        refine r_put (K := 38) (ty := .int) S X45 (Nat.le_of_ble_eq_true rfl) rfl lk12_215_10 (fun _ => ⟨_, rfl, Nat.le_of_ble_eq_true rfl, rfl⟩) (fun _ _ _ h => by cases h; exact ⟨rfl, rfl⟩) rfl rfl dX12_takesMind_61 (fun t75 H lc M76 X77 => ?_)
        have I78 := Inv_mu q48 M76 (show Rg (kd 131) 21 v71 from (R_of (lo := -9) (hi := 9) r74 rfl))
        have F79 : Fr [(131, 15), (131, 16), (131, 4), (131, 11), (131, 12), (131, 13), (131, 14), (131, 18), (131, 21)] [331] τ t75 := Fr_mu F56 M76 (by decide)
        refine r_iconst S dX12_takesMind_64 (by decide) (fun v80 z81 => ?_)
        have r82 := R_eq z81
        exact r_ret S hr hlk X77 ⟨I78, F79, (R_of r82 rfl), (by rw [((M76.2 131 4 (Or.inr (by decide))).trans z58)]; exact R_of q52 rfl), (by rw [((M76.2 131 11 (Or.inr (by decide))).trans z60)]; exact R_of q53 rfl), (by have h1_0 := congrArg Int32.toInt ((M76.2 131 4 (Or.inr (by decide))).trans z58); have h2_0 := congrArg Int32.toInt z2; omega), (by have h1_0 := congrArg Int32.toInt ((M76.2 131 4 (Or.inr (by decide))).trans z58); have h2_0 := congrArg Int32.toInt z2; omega)⟩ (nr_bool (R_of (lo := 0) (hi := 1) r82 rfl)) dX12_takesMind_65
    ·
      have r83 : R (0) (0) v47 := ⟨by omega, by omega⟩
      refine r_iconst S dX12_takesMind_42 (by decide) (fun v84 z85 => ?_)
      have r86 := R_eq z85
      exact r_ret S hr hlk X45 ⟨q48, F56, (R_of r86 rfl), (by rw [z58]; exact R_of q52 rfl), (by rw [z60]; exact R_of q53 rfl), (by have h1_0 := congrArg Int32.toInt z58; have h2_0 := congrArg Int32.toInt z2; omega), (by have h1_0 := congrArg Int32.toInt z58; have h2_0 := congrArg Int32.toInt z2; omega)⟩ (nr_bool (R_of (lo := 0) (hi := 1) r86 rfl)) dX12_takesMind_43
  ·
    have r87 : R (0) (0) v12 := ⟨by omega, by omega⟩
    refine r_aload_n S dX12_takesMind_12 rfl (lv_at hl 1 rfl) ?_
    refine lv_ldc2 S.1.1 S.1.2.1 S.1.2.2.2.1 (S.1.2.2.2.2 _ kw28) dX12_takesMind_13 ?_
    refine lv_topl (fun j88 z89 => ?_)
    refine r_ki (q_V (As := [.long j88]) (rest := []) (K := 38) (ci := 10) S X10 (c_X12_isWord l G τ hI j88) ck12_208 (Nat.le_of_ble_eq_true rfl) rfl (fun _ => ⟨_, rfl⟩) ⟨_, _, rfl⟩ ⟨Nat.le_of_ble_eq_true rfl, Nat.le_of_ble_eq_true rfl⟩ rfl hl.1 rfl (Nat.le_of_ble_eq_true rfl) dX12_takesMind_16 ⟨Nat.le_refl 0, Nat.le_refl 0⟩) X10 (fun v93 t92 H lc q90 X91 => ?_)
    unfold po_X12_isWord at q90
    obtain ⟨q94, q95, q96⟩ := q90
    rw [q94] at X91
    rw [q94] at q96
    refine r_if_ne (tgt := 28) S dX12_takesMind_19 (by decide) (fun c97 => ?_) (fun c97 => ?_)
    ·
      have r98 : R (1) (1) v93 := ⟨by omega, by omega⟩
      have p99 := q96 (by omega)
      have r100 : R (1) (1) v4 := z5 ▸ p99
      have r101 : R (1) (1) v4 := ⟨by omega, by omega⟩
      refine r_aload_n S dX12_takesMind_28 rfl (lv_at hl 1 rfl) ?_
      refine r_kv (q_V (As := []) (rest := []) (K := 38) (ci := 10) S X91 (c_X12_skip l G τ hI ) ck12_186 (Nat.le_of_ble_eq_true rfl) rfl (fun _ => ⟨_, rfl⟩) ⟨_, _, rfl⟩ ⟨Nat.le_of_ble_eq_true rfl, Nat.le_of_ble_eq_true rfl⟩ rfl hl.1 rfl (Nat.le_of_ble_eq_true rfl) dX12_takesMind_29 ⟨Nat.le_refl 0, Nat.le_refl 0⟩) X91 (fun t104 H lc q102 X103 => ?_)
      unfold po_X12_skip at q102
      obtain ⟨q105, q106, q107, q108, q109, q110⟩ := q102
      have F111 : Fr [(131, 15), (131, 16), (131, 4), (131, 11), (131, 12), (131, 13), (131, 14), (131, 18), (131, 21)] [331] τ t104 := Fr_call Fr_rfl q106 (by decide)
      obtain ⟨v112, z113⟩ : ∃ x, t104 131 4 = x := ⟨_, rfl⟩
      rw [z113] at q107
      obtain ⟨v114, z115⟩ : ∃ x, t104 131 11 = x := ⟨_, rfl⟩
      rw [z115] at q108
      have e116 := congrArg Int32.toInt z2
      have e117 := congrArg Int32.toInt z113
      have e118 := congrArg Int32.toInt z2
      have e119 := congrArg Int32.toInt z113
      have e120 := congrArg Int32.toInt z5
      have e121 := congrArg Int32.toInt z115
      refine r_aload_n S dX12_takesMind_32 rfl (lv_at hl 1 rfl) ?_
      refine r_iload_n S dX12_takesMind_33 rfl (lv_at hl 2 rfl) ?_
      refine r_bipush S dX12_takesMind_34 (by decide) (fun v122 z123 => ?_)
      have r124 := R_eq z123
      refine r_ki (q_V (As := [.int a0, .int v122]) (rest := []) (K := 38) (ci := 10) S X103 (c_X12_takes_0_9 l G t104 q105 a0 v122 h_a0 r124) ck12_212 (Nat.le_of_ble_eq_true rfl) rfl (fun _ => ⟨_, rfl⟩) ⟨_, _, rfl⟩ ⟨Nat.le_of_ble_eq_true rfl, Nat.le_of_ble_eq_true rfl⟩ rfl hl.1 rfl (Nat.le_of_ble_eq_true rfl) dX12_takesMind_36 ⟨Nat.le_refl 0, Nat.le_refl 0⟩) X103 (fun v128 t127 H lc q125 X126 => ?_)
      unfold po_X12_takes_0_9 at q125
      obtain ⟨q129, q130, q131, q132, q133, q134, q135, q136⟩ := q125
      have F137 : Fr [(131, 15), (131, 16), (131, 4), (131, 11), (131, 12), (131, 13), (131, 14), (131, 18), (131, 21)] [331] τ t127 := Fr_call F111 q130 (by decide)
      obtain ⟨v138, z139⟩ : ∃ x, t127 131 4 = x := ⟨_, rfl⟩
      rw [z139] at q133
      obtain ⟨v140, z141⟩ : ∃ x, t127 131 11 = x := ⟨_, rfl⟩
      rw [z141] at q134
      have e142 := congrArg Int32.toInt z113
      have e143 := congrArg Int32.toInt z139
      have e144 := congrArg Int32.toInt z115
      have e145 := congrArg Int32.toInt z141
      refine r_if_ne (tgt := 44) S dX12_takesMind_39 (by decide) (fun c146 => ?_) (fun c146 => ?_)
      ·
        have r147 : R (1) (1) v128 := ⟨by omega, by omega⟩
        have p148 := q132 (by omega)
        obtain ⟨v149, z150⟩ : ∃ x, t127 131 18 = x := ⟨_, rfl⟩
        rw [z150] at p148
        refine r_aload_n S dX12_takesMind_44 rfl (lv_at hl 1 rfl) ?_
        refine r_iload_n S dX12_takesMind_45 rfl (lv_at hl 0 rfl) ?_
        refine r_if_eq (tgt := 57) S dX12_takesMind_46 (by decide) (fun c151 => ?_) (fun c151 => ?_)
        ·
          refine r_aload_n S dX12_takesMind_57 rfl (lv_at hl 1 rfl) ?_
          refine r_geti (K := 38) S X126 (Nat.le_of_ble_eq_true rfl) rfl lk12_193_10 (fun _ => ⟨_, rfl, rfl⟩) z150 dX12_takesMind_58 ?_
          refine r_put (K := 38) (ty := .int) S X126 (Nat.le_of_ble_eq_true rfl) rfl lk12_215_10 (fun _ => ⟨_, rfl, Nat.le_of_ble_eq_true rfl, rfl⟩) (fun _ _ _ h => by cases h; exact ⟨rfl, rfl⟩) rfl rfl dX12_takesMind_61 (fun t152 H lc M153 X154 => ?_)
          have I155 := Inv_mu q129 M153 (show Rg (kd 131) 21 v149 from (R_of (lo := -9) (hi := 9) p148 rfl))
          have F156 : Fr [(131, 15), (131, 16), (131, 4), (131, 11), (131, 12), (131, 13), (131, 14), (131, 18), (131, 21)] [331] τ t152 := Fr_mu F137 M153 (by decide)
          refine r_iconst S dX12_takesMind_64 (by decide) (fun v157 z158 => ?_)
          have r159 := R_eq z158
          exact r_ret S hr hlk X154 ⟨I155, F156, (R_of r159 rfl), (by rw [((M153.2 131 4 (Or.inr (by decide))).trans z139)]; exact R_of q133 rfl), (by rw [((M153.2 131 11 (Or.inr (by decide))).trans z141)]; exact R_of q134 rfl), (by have h1_0 := congrArg Int32.toInt ((M153.2 131 4 (Or.inr (by decide))).trans z139); have h2_0 := congrArg Int32.toInt z2; omega), (by have h1_0 := congrArg Int32.toInt ((M153.2 131 4 (Or.inr (by decide))).trans z139); have h2_0 := congrArg Int32.toInt z2; omega)⟩ (nr_bool (R_of (lo := 0) (hi := 1) r159 rfl)) dX12_takesMind_65
        ·
          exfalso; omega
      ·
        have r160 : R (0) (0) v128 := ⟨by omega, by omega⟩
        refine r_iconst S dX12_takesMind_42 (by decide) (fun v161 z162 => ?_)
        have r163 := R_eq z162
        exact r_ret S hr hlk X126 ⟨q129, F137, (R_of r163 rfl), (by rw [z139]; exact R_of q133 rfl), (by rw [z141]; exact R_of q134 rfl), (by have h1_0 := congrArg Int32.toInt z139; have h2_0 := congrArg Int32.toInt z2; omega), (by have h1_0 := congrArg Int32.toInt z139; have h2_0 := congrArg Int32.toInt z2; omega)⟩ (nr_bool (R_of (lo := 0) (hi := 1) r163 rfl)) dX12_takesMind_43
    ·
      have r164 : R (0) (0) v93 := ⟨by omega, by omega⟩
      refine r_aload_n S dX12_takesMind_22 rfl (lv_at hl 1 rfl) ?_
      refine r_iconst S dX12_takesMind_23 (by decide) (fun v165 z166 => ?_)
      have r167 := R_eq z166
      refine r_ki (q_V (As := [.int v165]) (rest := []) (K := 38) (ci := 10) S X91 (c_X12_bad l G τ hI v165 (R_of (lo := -2147483648) (hi := 2147483647) r167 rfl)) ck12_183 (Nat.le_of_ble_eq_true rfl) rfl (fun _ => ⟨_, rfl⟩) ⟨_, _, rfl⟩ ⟨Nat.le_of_ble_eq_true rfl, Nat.le_of_ble_eq_true rfl⟩ rfl hl.1 rfl (Nat.le_of_ble_eq_true rfl) dX12_takesMind_24 ⟨Nat.le_refl 0, Nat.le_refl 0⟩) X91 (fun v171 t170 H lc q168 X169 => ?_)
      unfold po_X12_bad at q168
      obtain ⟨q172, q173, q174⟩ := q168
      have F175 : Fr [(131, 15), (131, 16), (131, 4), (131, 11), (131, 12), (131, 13), (131, 14), (131, 18), (131, 21)] [331] τ t170 := Fr_call Fr_rfl q173 (by decide)
      exact r_ret S hr hlk X169 ⟨q172, F175, (R_of q174 rfl), (by rw [((q173 131 4 (by decide)).trans z2)]; exact R_of r3 rfl), (by rw [((q173 131 11 (by decide)).trans z5)]; exact R_of r6 rfl), (by have h1_0 := congrArg Int32.toInt ((q173 131 4 (by decide)).trans z2); have h2_0 := congrArg Int32.toInt z2; omega), (by have h1_0 := congrArg Int32.toInt ((q173 131 4 (by decide)).trans z2); have h2_0 := congrArg Int32.toInt z2; omega)⟩ (nr_bool (R_of (lo := 0) (hi := 1) q174 rfl)) dX12_takesMind_27
def po_X12_takesMind_1 (τ : Tau)  (a0 : Int32)   (r : Int32) (u : Tau) : Prop := Inv u ∧ Fr [(131, 15), (131, 16), (131, 4), (131, 11), (131, 12), (131, 13), (131, 14), (131, 18), (131, 21)] [331] τ u ∧ R (0) (1) r ∧ R (0) (940) (u 131 4) ∧ R (0) (4) (u 131 11) ∧ (τ 131 4).toInt ≤ (u 131 4).toInt ∧ (r.toInt = 1 → (τ 131 4).toInt < (u 131 4).toInt)
set_option maxHeartbeats 4000000 in
set_option maxRecDepth 100000 in
theorem c_X12_takesMind_1 (l : Launch) (G : Gx) (τ : Tau) (hI : Inv τ) (a0 : Int32) (h_a0 : R (1) (1) a0) : Ci l G yX12_takesMind cX12_takesMind 3 (some .boolean) 3 65 [.ref (G.2.2.2.1 131), .int a0] τ (po_X12_takesMind_1 τ  a0  ) := by
  unfold Ci
  refine C_of (own := RX12) (by decide) rfl (Nat.le_of_ble_eq_true rfl) ?_
  intro p e s m below meth c ls S hr hlk X hl
  have hl : lv_has ls 3 [(0, .ref (G.2.2.2.1 131)), (1, .int a0)] := hl
  obtain ⟨v1, z2⟩ : ∃ x, τ 131 4 = x := ⟨_, rfl⟩
  have r3 : R (0) (940) v1 := rd hI rfl z2
  obtain ⟨v4, z5⟩ : ∃ x, τ 131 11 = x := ⟨_, rfl⟩
  have r6 : R (0) (4) v4 := rd hI rfl z5
  refine r_aload_n S dX12_takesMind_0 rfl (lv_at hl 0 rfl) ?_
  refine lv_ldc2 S.1.1 S.1.2.1 S.1.2.2.2.1 (S.1.2.2.2.2 _ kw27) dX12_takesMind_1 ?_
  refine lv_topl (fun j7 z8 => ?_)
  refine r_ki (q_V (As := [.long j7]) (rest := []) (K := 38) (ci := 10) S X (c_X12_isWord l G τ hI j7) ck12_208 (Nat.le_of_ble_eq_true rfl) rfl (fun _ => ⟨_, rfl⟩) ⟨_, _, rfl⟩ ⟨Nat.le_of_ble_eq_true rfl, Nat.le_of_ble_eq_true rfl⟩ rfl hl.1 rfl (Nat.le_of_ble_eq_true rfl) dX12_takesMind_4 ⟨Nat.le_refl 0, Nat.le_refl 0⟩) X (fun v12 t11 H lc q9 X10 => ?_)
  unfold po_X12_isWord at q9
  obtain ⟨q13, q14, q15⟩ := q9
  rw [q13] at X10
  rw [q13] at q15
  refine r_istore_n (lv' := [(2, .int v12), (0, .ref (G.2.2.2.1 131)), (1, .int a0)]) S dX12_takesMind_7 rfl hl (by decide) rfl (fun ls hl => ?_)
  refine r_iload_n S dX12_takesMind_8 rfl (lv_at hl 0 rfl) ?_
  refine r_if_ne (tgt := 28) S dX12_takesMind_9 (by decide) (fun c16 => ?_) (fun c16 => ?_)
  ·
    have r17 : R (1) (1) v12 := ⟨by omega, by omega⟩
    have p18 := q15 (by omega)
    have r19 : R (1) (1) v4 := z5 ▸ p18
    have r20 : R (1) (1) v4 := ⟨by omega, by omega⟩
    refine r_aload_n S dX12_takesMind_28 rfl (lv_at hl 1 rfl) ?_
    refine r_kv (q_V (As := []) (rest := []) (K := 38) (ci := 10) S X10 (c_X12_skip l G τ hI ) ck12_186 (Nat.le_of_ble_eq_true rfl) rfl (fun _ => ⟨_, rfl⟩) ⟨_, _, rfl⟩ ⟨Nat.le_of_ble_eq_true rfl, Nat.le_of_ble_eq_true rfl⟩ rfl hl.1 rfl (Nat.le_of_ble_eq_true rfl) dX12_takesMind_29 ⟨Nat.le_refl 0, Nat.le_refl 0⟩) X10 (fun t23 H lc q21 X22 => ?_)
    unfold po_X12_skip at q21
    obtain ⟨q24, q25, q26, q27, q28, q29⟩ := q21
    have F30 : Fr [(131, 15), (131, 16), (131, 4), (131, 11), (131, 12), (131, 13), (131, 14), (131, 18), (131, 21)] [331] τ t23 := Fr_call Fr_rfl q25 (by decide)
    obtain ⟨v31, z32⟩ : ∃ x, t23 131 4 = x := ⟨_, rfl⟩
    rw [z32] at q26
    obtain ⟨v33, z34⟩ : ∃ x, t23 131 11 = x := ⟨_, rfl⟩
    rw [z34] at q27
    have e35 := congrArg Int32.toInt z2
    have e36 := congrArg Int32.toInt z32
    have e37 := congrArg Int32.toInt z2
    have e38 := congrArg Int32.toInt z32
    have e39 := congrArg Int32.toInt z5
    have e40 := congrArg Int32.toInt z34
    refine r_aload_n S dX12_takesMind_32 rfl (lv_at hl 1 rfl) ?_
    refine r_iload_n S dX12_takesMind_33 rfl (lv_at hl 2 rfl) ?_
    refine r_bipush S dX12_takesMind_34 (by decide) (fun v41 z42 => ?_)
    have r43 := R_eq z42
    refine r_ki (q_V (As := [.int a0, .int v41]) (rest := []) (K := 38) (ci := 10) S X22 (c_X12_takes_1_9 l G t23 q24 a0 v41 h_a0 r43) ck12_212 (Nat.le_of_ble_eq_true rfl) rfl (fun _ => ⟨_, rfl⟩) ⟨_, _, rfl⟩ ⟨Nat.le_of_ble_eq_true rfl, Nat.le_of_ble_eq_true rfl⟩ rfl hl.1 rfl (Nat.le_of_ble_eq_true rfl) dX12_takesMind_36 ⟨Nat.le_refl 0, Nat.le_refl 0⟩) X22 (fun v47 t46 H lc q44 X45 => ?_)
    unfold po_X12_takes_1_9 at q44
    obtain ⟨q48, q49, q50, q51, q52, q53, q54, q55⟩ := q44
    have F56 : Fr [(131, 15), (131, 16), (131, 4), (131, 11), (131, 12), (131, 13), (131, 14), (131, 18), (131, 21)] [331] τ t46 := Fr_call F30 q49 (by decide)
    obtain ⟨v57, z58⟩ : ∃ x, t46 131 4 = x := ⟨_, rfl⟩
    rw [z58] at q52
    obtain ⟨v59, z60⟩ : ∃ x, t46 131 11 = x := ⟨_, rfl⟩
    rw [z60] at q53
    have e61 := congrArg Int32.toInt z32
    have e62 := congrArg Int32.toInt z58
    have e63 := congrArg Int32.toInt z34
    have e64 := congrArg Int32.toInt z60
    refine r_if_ne (tgt := 44) S dX12_takesMind_39 (by decide) (fun c65 => ?_) (fun c65 => ?_)
    ·
      have r66 : R (1) (1) v47 := ⟨by omega, by omega⟩
      have p67 := q51 (by omega)
      obtain ⟨v68, z69⟩ : ∃ x, t46 131 18 = x := ⟨_, rfl⟩
      rw [z69] at p67
      refine r_aload_n S dX12_takesMind_44 rfl (lv_at hl 1 rfl) ?_
      refine r_iload_n S dX12_takesMind_45 rfl (lv_at hl 0 rfl) ?_
      refine r_if_eq (tgt := 57) S dX12_takesMind_46 (by decide) (fun c70 => ?_) (fun c70 => ?_)
      ·
        exfalso; omega
      ·
        refine r_aload_n S dX12_takesMind_49 rfl (lv_at hl 1 rfl) ?_
        refine r_geti (K := 38) S X45 (Nat.le_of_ble_eq_true rfl) rfl lk12_193_10 (fun _ => ⟨_, rfl, rfl⟩) z69 dX12_takesMind_50 ?_
        refine r_ineg S dX12_takesMind_53 (fun v71 z72 => ?_)
        obtain ⟨e73, r74⟩ := i_neg (lo := -9) (hi := -1) z72 p67 rfl
        refine r_goto (tgt := 61) S dX12_takesMind_54 (by decide) ?_
        refine r_put (K := 38) (ty := .int) S X45 (Nat.le_of_ble_eq_true rfl) rfl lk12_215_10 (fun _ => ⟨_, rfl, Nat.le_of_ble_eq_true rfl, rfl⟩) (fun _ _ _ h => by cases h; exact ⟨rfl, rfl⟩) rfl rfl dX12_takesMind_61 (fun t75 H lc M76 X77 => ?_)
        have I78 := Inv_mu q48 M76 (show Rg (kd 131) 21 v71 from (R_of (lo := -9) (hi := 9) r74 rfl))
        have F79 : Fr [(131, 15), (131, 16), (131, 4), (131, 11), (131, 12), (131, 13), (131, 14), (131, 18), (131, 21)] [331] τ t75 := Fr_mu F56 M76 (by decide)
        refine r_iconst S dX12_takesMind_64 (by decide) (fun v80 z81 => ?_)
        have r82 := R_eq z81
        exact r_ret S hr hlk X77 ⟨I78, F79, (R_of r82 rfl), (by rw [((M76.2 131 4 (Or.inr (by decide))).trans z58)]; exact R_of q52 rfl), (by rw [((M76.2 131 11 (Or.inr (by decide))).trans z60)]; exact R_of q53 rfl), (by have h1_0 := congrArg Int32.toInt ((M76.2 131 4 (Or.inr (by decide))).trans z58); have h2_0 := congrArg Int32.toInt z2; omega), (by have h1_0 := congrArg Int32.toInt ((M76.2 131 4 (Or.inr (by decide))).trans z58); have h2_0 := congrArg Int32.toInt z2; omega)⟩ (nr_bool (R_of (lo := 0) (hi := 1) r82 rfl)) dX12_takesMind_65
    ·
      have r83 : R (0) (0) v47 := ⟨by omega, by omega⟩
      refine r_iconst S dX12_takesMind_42 (by decide) (fun v84 z85 => ?_)
      have r86 := R_eq z85
      exact r_ret S hr hlk X45 ⟨q48, F56, (R_of r86 rfl), (by rw [z58]; exact R_of q52 rfl), (by rw [z60]; exact R_of q53 rfl), (by have h1_0 := congrArg Int32.toInt z58; have h2_0 := congrArg Int32.toInt z2; omega), (by have h1_0 := congrArg Int32.toInt z58; have h2_0 := congrArg Int32.toInt z2; omega)⟩ (nr_bool (R_of (lo := 0) (hi := 1) r86 rfl)) dX12_takesMind_43
  ·
    have r87 : R (0) (0) v12 := ⟨by omega, by omega⟩
    refine r_aload_n S dX12_takesMind_12 rfl (lv_at hl 1 rfl) ?_
    refine lv_ldc2 S.1.1 S.1.2.1 S.1.2.2.2.1 (S.1.2.2.2.2 _ kw28) dX12_takesMind_13 ?_
    refine lv_topl (fun j88 z89 => ?_)
    refine r_ki (q_V (As := [.long j88]) (rest := []) (K := 38) (ci := 10) S X10 (c_X12_isWord l G τ hI j88) ck12_208 (Nat.le_of_ble_eq_true rfl) rfl (fun _ => ⟨_, rfl⟩) ⟨_, _, rfl⟩ ⟨Nat.le_of_ble_eq_true rfl, Nat.le_of_ble_eq_true rfl⟩ rfl hl.1 rfl (Nat.le_of_ble_eq_true rfl) dX12_takesMind_16 ⟨Nat.le_refl 0, Nat.le_refl 0⟩) X10 (fun v93 t92 H lc q90 X91 => ?_)
    unfold po_X12_isWord at q90
    obtain ⟨q94, q95, q96⟩ := q90
    rw [q94] at X91
    rw [q94] at q96
    refine r_if_ne (tgt := 28) S dX12_takesMind_19 (by decide) (fun c97 => ?_) (fun c97 => ?_)
    ·
      have r98 : R (1) (1) v93 := ⟨by omega, by omega⟩
      have p99 := q96 (by omega)
      have r100 : R (1) (1) v4 := z5 ▸ p99
      have r101 : R (1) (1) v4 := ⟨by omega, by omega⟩
      refine r_aload_n S dX12_takesMind_28 rfl (lv_at hl 1 rfl) ?_
      refine r_kv (q_V (As := []) (rest := []) (K := 38) (ci := 10) S X91 (c_X12_skip l G τ hI ) ck12_186 (Nat.le_of_ble_eq_true rfl) rfl (fun _ => ⟨_, rfl⟩) ⟨_, _, rfl⟩ ⟨Nat.le_of_ble_eq_true rfl, Nat.le_of_ble_eq_true rfl⟩ rfl hl.1 rfl (Nat.le_of_ble_eq_true rfl) dX12_takesMind_29 ⟨Nat.le_refl 0, Nat.le_refl 0⟩) X91 (fun t104 H lc q102 X103 => ?_)
      unfold po_X12_skip at q102
      obtain ⟨q105, q106, q107, q108, q109, q110⟩ := q102
      have F111 : Fr [(131, 15), (131, 16), (131, 4), (131, 11), (131, 12), (131, 13), (131, 14), (131, 18), (131, 21)] [331] τ t104 := Fr_call Fr_rfl q106 (by decide)
      obtain ⟨v112, z113⟩ : ∃ x, t104 131 4 = x := ⟨_, rfl⟩
      rw [z113] at q107
      obtain ⟨v114, z115⟩ : ∃ x, t104 131 11 = x := ⟨_, rfl⟩
      rw [z115] at q108
      have e116 := congrArg Int32.toInt z2
      have e117 := congrArg Int32.toInt z113
      have e118 := congrArg Int32.toInt z2
      have e119 := congrArg Int32.toInt z113
      have e120 := congrArg Int32.toInt z5
      have e121 := congrArg Int32.toInt z115
      refine r_aload_n S dX12_takesMind_32 rfl (lv_at hl 1 rfl) ?_
      refine r_iload_n S dX12_takesMind_33 rfl (lv_at hl 2 rfl) ?_
      refine r_bipush S dX12_takesMind_34 (by decide) (fun v122 z123 => ?_)
      have r124 := R_eq z123
      refine r_ki (q_V (As := [.int a0, .int v122]) (rest := []) (K := 38) (ci := 10) S X103 (c_X12_takes_1_9 l G t104 q105 a0 v122 h_a0 r124) ck12_212 (Nat.le_of_ble_eq_true rfl) rfl (fun _ => ⟨_, rfl⟩) ⟨_, _, rfl⟩ ⟨Nat.le_of_ble_eq_true rfl, Nat.le_of_ble_eq_true rfl⟩ rfl hl.1 rfl (Nat.le_of_ble_eq_true rfl) dX12_takesMind_36 ⟨Nat.le_refl 0, Nat.le_refl 0⟩) X103 (fun v128 t127 H lc q125 X126 => ?_)
      unfold po_X12_takes_1_9 at q125
      obtain ⟨q129, q130, q131, q132, q133, q134, q135, q136⟩ := q125
      have F137 : Fr [(131, 15), (131, 16), (131, 4), (131, 11), (131, 12), (131, 13), (131, 14), (131, 18), (131, 21)] [331] τ t127 := Fr_call F111 q130 (by decide)
      obtain ⟨v138, z139⟩ : ∃ x, t127 131 4 = x := ⟨_, rfl⟩
      rw [z139] at q133
      obtain ⟨v140, z141⟩ : ∃ x, t127 131 11 = x := ⟨_, rfl⟩
      rw [z141] at q134
      have e142 := congrArg Int32.toInt z113
      have e143 := congrArg Int32.toInt z139
      have e144 := congrArg Int32.toInt z115
      have e145 := congrArg Int32.toInt z141
      refine r_if_ne (tgt := 44) S dX12_takesMind_39 (by decide) (fun c146 => ?_) (fun c146 => ?_)
      ·
        have r147 : R (1) (1) v128 := ⟨by omega, by omega⟩
        have p148 := q132 (by omega)
        obtain ⟨v149, z150⟩ : ∃ x, t127 131 18 = x := ⟨_, rfl⟩
        rw [z150] at p148
        refine r_aload_n S dX12_takesMind_44 rfl (lv_at hl 1 rfl) ?_
        refine r_iload_n S dX12_takesMind_45 rfl (lv_at hl 0 rfl) ?_
        refine r_if_eq (tgt := 57) S dX12_takesMind_46 (by decide) (fun c151 => ?_) (fun c151 => ?_)
        ·
          refine r_aload_n S dX12_takesMind_57 rfl (lv_at hl 1 rfl) ?_
          refine r_geti (K := 38) S X126 (Nat.le_of_ble_eq_true rfl) rfl lk12_193_10 (fun _ => ⟨_, rfl, rfl⟩) z150 dX12_takesMind_58 ?_
          refine r_put (K := 38) (ty := .int) S X126 (Nat.le_of_ble_eq_true rfl) rfl lk12_215_10 (fun _ => ⟨_, rfl, Nat.le_of_ble_eq_true rfl, rfl⟩) (fun _ _ _ h => by cases h; exact ⟨rfl, rfl⟩) rfl rfl dX12_takesMind_61 (fun t152 H lc M153 X154 => ?_)
          have I155 := Inv_mu q129 M153 (show Rg (kd 131) 21 v149 from (R_of (lo := -9) (hi := 9) p148 rfl))
          have F156 : Fr [(131, 15), (131, 16), (131, 4), (131, 11), (131, 12), (131, 13), (131, 14), (131, 18), (131, 21)] [331] τ t152 := Fr_mu F137 M153 (by decide)
          refine r_iconst S dX12_takesMind_64 (by decide) (fun v157 z158 => ?_)
          have r159 := R_eq z158
          exact r_ret S hr hlk X154 ⟨I155, F156, (R_of r159 rfl), (by rw [((M153.2 131 4 (Or.inr (by decide))).trans z139)]; exact R_of q133 rfl), (by rw [((M153.2 131 11 (Or.inr (by decide))).trans z141)]; exact R_of q134 rfl), (by have h1_0 := congrArg Int32.toInt ((M153.2 131 4 (Or.inr (by decide))).trans z139); have h2_0 := congrArg Int32.toInt z2; omega), (by have h1_0 := congrArg Int32.toInt ((M153.2 131 4 (Or.inr (by decide))).trans z139); have h2_0 := congrArg Int32.toInt z2; omega)⟩ (nr_bool (R_of (lo := 0) (hi := 1) r159 rfl)) dX12_takesMind_65
        ·
          exfalso; omega
      ·
        have r160 : R (0) (0) v128 := ⟨by omega, by omega⟩
        refine r_iconst S dX12_takesMind_42 (by decide) (fun v161 z162 => ?_)
        have r163 := R_eq z162
        exact r_ret S hr hlk X126 ⟨q129, F137, (R_of r163 rfl), (by rw [z139]; exact R_of q133 rfl), (by rw [z141]; exact R_of q134 rfl), (by have h1_0 := congrArg Int32.toInt z139; have h2_0 := congrArg Int32.toInt z2; omega), (by have h1_0 := congrArg Int32.toInt z139; have h2_0 := congrArg Int32.toInt z2; omega)⟩ (nr_bool (R_of (lo := 0) (hi := 1) r163 rfl)) dX12_takesMind_43
    ·
      have r164 : R (0) (0) v93 := ⟨by omega, by omega⟩
      refine r_aload_n S dX12_takesMind_22 rfl (lv_at hl 1 rfl) ?_
      refine r_iconst S dX12_takesMind_23 (by decide) (fun v165 z166 => ?_)
      have r167 := R_eq z166
      refine r_ki (q_V (As := [.int v165]) (rest := []) (K := 38) (ci := 10) S X91 (c_X12_bad l G τ hI v165 (R_of (lo := -2147483648) (hi := 2147483647) r167 rfl)) ck12_183 (Nat.le_of_ble_eq_true rfl) rfl (fun _ => ⟨_, rfl⟩) ⟨_, _, rfl⟩ ⟨Nat.le_of_ble_eq_true rfl, Nat.le_of_ble_eq_true rfl⟩ rfl hl.1 rfl (Nat.le_of_ble_eq_true rfl) dX12_takesMind_24 ⟨Nat.le_refl 0, Nat.le_refl 0⟩) X91 (fun v171 t170 H lc q168 X169 => ?_)
      unfold po_X12_bad at q168
      obtain ⟨q172, q173, q174⟩ := q168
      have F175 : Fr [(131, 15), (131, 16), (131, 4), (131, 11), (131, 12), (131, 13), (131, 14), (131, 18), (131, 21)] [331] τ t170 := Fr_call Fr_rfl q173 (by decide)
      exact r_ret S hr hlk X169 ⟨q172, F175, (R_of q174 rfl), (by rw [((q173 131 4 (by decide)).trans z2)]; exact R_of r3 rfl), (by rw [((q173 131 11 (by decide)).trans z5)]; exact R_of r6 rfl), (by have h1_0 := congrArg Int32.toInt ((q173 131 4 (by decide)).trans z2); have h2_0 := congrArg Int32.toInt z2; omega), (by have h1_0 := congrArg Int32.toInt ((q173 131 4 (by decide)).trans z2); have h2_0 := congrArg Int32.toInt z2; omega)⟩ (nr_bool (R_of (lo := 0) (hi := 1) q174 rfl)) dX12_takesMind_27
def po_X12_once_0 (τ : Tau)  (a0 a1 a2 a3 : Int32)   (r : Int32) (u : Tau) : Prop := Inv u ∧ Fr [(131, 15), (131, 16), (131, 4), (131, 11), (131, 12), (131, 13), (131, 14), (131, 18), (131, 20)] [134, 331] τ u ∧ R (0) (1) r ∧ R (0) (940) (u 131 4) ∧ R (0) (4) (u 131 11) ∧ (τ 131 4).toInt ≤ (u 131 4).toInt ∧ (r.toInt = 1 → (τ 131 4).toInt < (u 131 4).toInt)
set_option maxHeartbeats 4000000 in
set_option maxRecDepth 100000 in
theorem c_X12_once_0 (l : Launch) (G : Gx) (τ : Tau) (hI : Inv τ) (a0 : Int32) (a1 : Int32) (a2 : Int32) (a3 : Int32) (h_a0 : R (0) (0) a0) (h_a1 : R (2) (2) a1) (h_a2 : R (1) (1) a2) (h_a3 : R (8) (8) a3) : Ci l G yX12_once cX12_once 5 (some .boolean) 3 65 [.ref (G.2.2.2.1 131), .int a0, .int a1, .int a2, .int a3] τ (po_X12_once_0 τ  a0 a1 a2 a3  ) := by
  unfold Ci
  refine C_of (own := RX12) (by decide) rfl (Nat.le_of_ble_eq_true rfl) ?_
  intro p e s m below meth c ls S hr hlk X hl
  have hl : lv_has ls 5 [(0, .ref (G.2.2.2.1 131)), (1, .int a0), (2, .int a1), (3, .int a2), (4, .int a3)] := hl
  obtain ⟨v1, z2⟩ : ∃ x, τ 131 4 = x := ⟨_, rfl⟩
  have r3 : R (0) (940) v1 := rd hI rfl z2
  obtain ⟨v4, z5⟩ : ∃ x, τ 131 11 = x := ⟨_, rfl⟩
  have r6 : R (0) (4) v4 := rd hI rfl z5
  refine r_aload_n S dX12_once_0 rfl (lv_at hl 0 rfl) ?_
  refine r_getn (K := 38) S X (Nat.le_of_ble_eq_true rfl) rfl lk12_218_10 (fun _ => ⟨_, rfl, rfl⟩) dX12_once_1 (fun v7 z8 => ?_)
  have r10 := R_any v7
  refine r_iload_n S dX12_once_4 rfl (lv_at hl 1 rfl) ?_
  refine r_ki (q_S (As := [.int v7, .int a0]) (rest := []) S X (c_X12_bitOf l G τ hI v7 a0 r10 (R_of (lo := -2147483648) (hi := 2147483647) h_a0 rfl)) ck12_221 ⟨Nat.le_of_ble_eq_true rfl, Nat.le_of_ble_eq_true rfl⟩ rfl hl.1 rfl (Nat.le_of_ble_eq_true rfl) dX12_once_5 ⟨Nat.le_refl 0, Nat.le_refl 0⟩) X (fun v14 t13 H lc q11 X12 => ?_)
  unfold po_X12_bitOf at q11
  obtain ⟨q15, q16⟩ := q11
  rw [q15] at X12
  refine r_if_eq (tgt := 17) S dX12_once_8 (by decide) (fun c17 => ?_) (fun c17 => ?_)
  ·
    have r18 : R (0) (0) v14 := ⟨by omega, by omega⟩
    refine r_aload_n S dX12_once_17 rfl (lv_at hl 0 rfl) ?_
    refine r_dup S dX12_once_18 rfl ?_
    refine r_geti (K := 38) S X12 (Nat.le_of_ble_eq_true rfl) rfl lk12_218_10 (fun _ => ⟨_, rfl, rfl⟩) z8 dX12_once_19 ?_
    refine r_iconst S dX12_once_22 (by decide) (fun v19 z20 => ?_)
    have r21 := R_eq z20
    refine r_iload_n S dX12_once_23 rfl (lv_at hl 1 rfl) ?_
    refine r_ishl S dX12_once_24 (fun v22 z23 => ?_)
    have r25 : R (1) (1) v22 := i_shl z23 r21 h_a0 rfl
    refine r_ior S dX12_once_25 (fun v26 z27 => ?_)
    have r28 := R_any v26
    refine r_put (K := 38) (ty := .int) S X12 (Nat.le_of_ble_eq_true rfl) rfl lk12_218_10 (fun _ => ⟨_, rfl, Nat.le_of_ble_eq_true rfl, rfl⟩) (fun _ _ _ h => by cases h; exact ⟨rfl, rfl⟩) rfl rfl dX12_once_26 (fun t29 H lc M30 X31 => ?_)
    have I32 := Inv_mu hI M30 (R_any v26)
    have F33 : Fr [(131, 15), (131, 16), (131, 4), (131, 11), (131, 12), (131, 13), (131, 14), (131, 18), (131, 20)] [134, 331] τ t29 := Fr_mu Fr_rfl M30 (by decide)
    refine r_aload_n S dX12_once_29 rfl (lv_at hl 0 rfl) ?_
    refine r_kv (q_V (As := []) (rest := []) (K := 38) (ci := 10) S X31 (c_X12_skip l G t29 I32 ) ck12_186 (Nat.le_of_ble_eq_true rfl) rfl (fun _ => ⟨_, rfl⟩) ⟨_, _, rfl⟩ ⟨Nat.le_of_ble_eq_true rfl, Nat.le_of_ble_eq_true rfl⟩ rfl hl.1 rfl (Nat.le_of_ble_eq_true rfl) dX12_once_30 ⟨Nat.le_refl 0, Nat.le_refl 0⟩) X31 (fun t36 H lc q34 X35 => ?_)
    unfold po_X12_skip at q34
    obtain ⟨q37, q38, q39, q40, q41, q42⟩ := q34
    have F43 : Fr [(131, 15), (131, 16), (131, 4), (131, 11), (131, 12), (131, 13), (131, 14), (131, 18), (131, 20)] [134, 331] τ t36 := Fr_call F33 q38 (by decide)
    obtain ⟨v44, z45⟩ : ∃ x, t36 131 4 = x := ⟨_, rfl⟩
    rw [z45] at q39
    obtain ⟨v46, z47⟩ : ∃ x, t36 131 11 = x := ⟨_, rfl⟩
    rw [z47] at q40
    have e48 := congrArg Int32.toInt ((M30.2 131 4 (Or.inr (by decide))).trans z2)
    have e49 := congrArg Int32.toInt z45
    have e50 := congrArg Int32.toInt ((M30.2 131 4 (Or.inr (by decide))).trans z2)
    have e51 := congrArg Int32.toInt z45
    have e52 := congrArg Int32.toInt ((M30.2 131 11 (Or.inr (by decide))).trans z5)
    have e53 := congrArg Int32.toInt z47
    refine r_aload_n S dX12_once_33 rfl (lv_at hl 0 rfl) ?_
    refine r_iload_n S dX12_once_34 rfl (lv_at hl 3 rfl) ?_
    refine r_iload S dX12_once_35 (lv_at hl 4 rfl) ?_
    refine r_ki (q_V (As := [.int a2, .int a3]) (rest := []) (K := 38) (ci := 10) S X35 (c_X12_takes_1_8 l G t36 q37 a2 a3 h_a2 h_a3) ck12_212 (Nat.le_of_ble_eq_true rfl) rfl (fun _ => ⟨_, rfl⟩) ⟨_, _, rfl⟩ ⟨Nat.le_of_ble_eq_true rfl, Nat.le_of_ble_eq_true rfl⟩ rfl hl.1 rfl (Nat.le_of_ble_eq_true rfl) dX12_once_37 ⟨Nat.le_refl 0, Nat.le_refl 0⟩) X35 (fun v57 t56 H lc q54 X55 => ?_)
    unfold po_X12_takes_1_8 at q54
    obtain ⟨q58, q59, q60, q61, q62, q63, q64, q65⟩ := q54
    have F66 : Fr [(131, 15), (131, 16), (131, 4), (131, 11), (131, 12), (131, 13), (131, 14), (131, 18), (131, 20)] [134, 331] τ t56 := Fr_call F43 q59 (by decide)
    obtain ⟨v67, z68⟩ : ∃ x, t56 131 4 = x := ⟨_, rfl⟩
    rw [z68] at q62
    obtain ⟨v69, z70⟩ : ∃ x, t56 131 11 = x := ⟨_, rfl⟩
    rw [z70] at q63
    have e71 := congrArg Int32.toInt z45
    have e72 := congrArg Int32.toInt z68
    have e73 := congrArg Int32.toInt z47
    have e74 := congrArg Int32.toInt z70
    refine r_if_ne (tgt := 45) S dX12_once_40 (by decide) (fun c75 => ?_) (fun c75 => ?_)
    ·
      have r76 : R (1) (1) v57 := ⟨by omega, by omega⟩
      have p77 := q61 (by omega)
      obtain ⟨v78, z79⟩ : ∃ x, t56 131 18 = x := ⟨_, rfl⟩
      rw [z79] at p77
      refine r_aload_n S dX12_once_45 rfl (lv_at hl 0 rfl) ?_
      refine r_get (K := 38) (v := .ref (G.2.2.2.1 134)) S X55 (Nat.le_of_ble_eq_true rfl) rfl lk12_37_10 (fun _ => ⟨_, rfl, rfl⟩) dX12_once_46 ?_
      refine r_iload_n S dX12_once_49 rfl (lv_at hl 2 rfl) ?_
      refine r_aload_n S dX12_once_50 rfl (lv_at hl 0 rfl) ?_
      refine r_geti (K := 38) S X55 (Nat.le_of_ble_eq_true rfl) rfl lk12_193_10 (fun _ => ⟨_, rfl, rfl⟩) z79 dX12_once_51 ?_
      refine r_ast (n := 125) (K := 41) S X55 (Nat.le_of_ble_eq_true rfl) rfl (fun _ _ => rfl) (ix_of h_a1 rfl) dX12_once_54 (fun t80 H lc M81 X82 => ?_)
      have I83 := Inv_mu q58 M81 (show Rg (kd 134) _ v78 from wrs (K := 41) (a := 2) (n := 1) (R_of h_a1 rfl) (R_of (lo := 0) (hi := 8) p77 rfl) (by decide +kernel))
      have F84 : Fr [(131, 15), (131, 16), (131, 4), (131, 11), (131, 12), (131, 13), (131, 14), (131, 18), (131, 20)] [134, 331] τ t80 := Fr_cell F66 M81 (by decide)
      refine r_iconst S dX12_once_55 (by decide) (fun v85 z86 => ?_)
      have r87 := R_eq z86
      exact r_ret S hr hlk X82 ⟨I83, F84, (R_of r87 rfl), (by rw [((M81.2 131 4 (Or.inl (by decide))).trans z68)]; exact R_of q62 rfl), (by rw [((M81.2 131 11 (Or.inl (by decide))).trans z70)]; exact R_of q63 rfl), (by have h1_0 := congrArg Int32.toInt ((M81.2 131 4 (Or.inl (by decide))).trans z68); have h2_0 := congrArg Int32.toInt z2; omega), (by have h1_0 := congrArg Int32.toInt ((M81.2 131 4 (Or.inl (by decide))).trans z68); have h2_0 := congrArg Int32.toInt z2; omega)⟩ (nr_bool (R_of (lo := 0) (hi := 1) r87 rfl)) dX12_once_56
    ·
      have r88 : R (0) (0) v57 := ⟨by omega, by omega⟩
      refine r_iconst S dX12_once_43 (by decide) (fun v89 z90 => ?_)
      have r91 := R_eq z90
      exact r_ret S hr hlk X55 ⟨q58, F66, (R_of r91 rfl), (by rw [z68]; exact R_of q62 rfl), (by rw [z70]; exact R_of q63 rfl), (by have h1_0 := congrArg Int32.toInt z68; have h2_0 := congrArg Int32.toInt z2; omega), (by have h1_0 := congrArg Int32.toInt z68; have h2_0 := congrArg Int32.toInt z2; omega)⟩ (nr_bool (R_of (lo := 0) (hi := 1) r91 rfl)) dX12_once_44
  ·
    have r92 : R (1) (1) v14 := ⟨by omega, by omega⟩
    refine r_aload_n S dX12_once_11 rfl (lv_at hl 0 rfl) ?_
    refine r_iconst S dX12_once_12 (by decide) (fun v93 z94 => ?_)
    have r95 := R_eq z94
    refine r_ki (q_V (As := [.int v93]) (rest := []) (K := 38) (ci := 10) S X12 (c_X12_bad l G τ hI v93 (R_of (lo := -2147483648) (hi := 2147483647) r95 rfl)) ck12_183 (Nat.le_of_ble_eq_true rfl) rfl (fun _ => ⟨_, rfl⟩) ⟨_, _, rfl⟩ ⟨Nat.le_of_ble_eq_true rfl, Nat.le_of_ble_eq_true rfl⟩ rfl hl.1 rfl (Nat.le_of_ble_eq_true rfl) dX12_once_13 ⟨Nat.le_refl 0, Nat.le_refl 0⟩) X12 (fun v99 t98 H lc q96 X97 => ?_)
    unfold po_X12_bad at q96
    obtain ⟨q100, q101, q102⟩ := q96
    have F103 : Fr [(131, 15), (131, 16), (131, 4), (131, 11), (131, 12), (131, 13), (131, 14), (131, 18), (131, 20)] [134, 331] τ t98 := Fr_call Fr_rfl q101 (by decide)
    exact r_ret S hr hlk X97 ⟨q100, F103, (R_of q102 rfl), (by rw [((q101 131 4 (by decide)).trans z2)]; exact R_of r3 rfl), (by rw [((q101 131 11 (by decide)).trans z5)]; exact R_of r6 rfl), (by have h1_0 := congrArg Int32.toInt ((q101 131 4 (by decide)).trans z2); have h2_0 := congrArg Int32.toInt z2; omega), (by have h1_0 := congrArg Int32.toInt ((q101 131 4 (by decide)).trans z2); have h2_0 := congrArg Int32.toInt z2; omega)⟩ (nr_bool (R_of (lo := 0) (hi := 1) q102 rfl)) dX12_once_16
def po_X12_once_1 (τ : Tau)  (a0 a1 a2 a3 : Int32)   (r : Int32) (u : Tau) : Prop := Inv u ∧ Fr [(131, 15), (131, 16), (131, 4), (131, 11), (131, 12), (131, 13), (131, 14), (131, 18), (131, 20)] [134, 331] τ u ∧ R (0) (1) r ∧ R (0) (940) (u 131 4) ∧ R (0) (4) (u 131 11) ∧ (τ 131 4).toInt ≤ (u 131 4).toInt ∧ (r.toInt = 1 → (τ 131 4).toInt < (u 131 4).toInt)
set_option maxHeartbeats 4000000 in
set_option maxRecDepth 100000 in
theorem c_X12_once_1 (l : Launch) (G : Gx) (τ : Tau) (hI : Inv τ) (a0 : Int32) (a1 : Int32) (a2 : Int32) (a3 : Int32) (h_a0 : R (1) (1) a0) (h_a1 : R (3) (3) a1) (h_a2 : R (0) (0) a2) (h_a3 : R (9) (9) a3) : Ci l G yX12_once cX12_once 5 (some .boolean) 3 65 [.ref (G.2.2.2.1 131), .int a0, .int a1, .int a2, .int a3] τ (po_X12_once_1 τ  a0 a1 a2 a3  ) := by
  unfold Ci
  refine C_of (own := RX12) (by decide) rfl (Nat.le_of_ble_eq_true rfl) ?_
  intro p e s m below meth c ls S hr hlk X hl
  have hl : lv_has ls 5 [(0, .ref (G.2.2.2.1 131)), (1, .int a0), (2, .int a1), (3, .int a2), (4, .int a3)] := hl
  obtain ⟨v1, z2⟩ : ∃ x, τ 131 4 = x := ⟨_, rfl⟩
  have r3 : R (0) (940) v1 := rd hI rfl z2
  obtain ⟨v4, z5⟩ : ∃ x, τ 131 11 = x := ⟨_, rfl⟩
  have r6 : R (0) (4) v4 := rd hI rfl z5
  refine r_aload_n S dX12_once_0 rfl (lv_at hl 0 rfl) ?_
  refine r_getn (K := 38) S X (Nat.le_of_ble_eq_true rfl) rfl lk12_218_10 (fun _ => ⟨_, rfl, rfl⟩) dX12_once_1 (fun v7 z8 => ?_)
  have r10 := R_any v7
  refine r_iload_n S dX12_once_4 rfl (lv_at hl 1 rfl) ?_
  refine r_ki (q_S (As := [.int v7, .int a0]) (rest := []) S X (c_X12_bitOf l G τ hI v7 a0 r10 (R_of (lo := -2147483648) (hi := 2147483647) h_a0 rfl)) ck12_221 ⟨Nat.le_of_ble_eq_true rfl, Nat.le_of_ble_eq_true rfl⟩ rfl hl.1 rfl (Nat.le_of_ble_eq_true rfl) dX12_once_5 ⟨Nat.le_refl 0, Nat.le_refl 0⟩) X (fun v14 t13 H lc q11 X12 => ?_)
  unfold po_X12_bitOf at q11
  obtain ⟨q15, q16⟩ := q11
  rw [q15] at X12
  refine r_if_eq (tgt := 17) S dX12_once_8 (by decide) (fun c17 => ?_) (fun c17 => ?_)
  ·
    have r18 : R (0) (0) v14 := ⟨by omega, by omega⟩
    refine r_aload_n S dX12_once_17 rfl (lv_at hl 0 rfl) ?_
    refine r_dup S dX12_once_18 rfl ?_
    refine r_geti (K := 38) S X12 (Nat.le_of_ble_eq_true rfl) rfl lk12_218_10 (fun _ => ⟨_, rfl, rfl⟩) z8 dX12_once_19 ?_
    refine r_iconst S dX12_once_22 (by decide) (fun v19 z20 => ?_)
    have r21 := R_eq z20
    refine r_iload_n S dX12_once_23 rfl (lv_at hl 1 rfl) ?_
    refine r_ishl S dX12_once_24 (fun v22 z23 => ?_)
    have r25 : R (2) (2) v22 := i_shl z23 r21 h_a0 rfl
    refine r_ior S dX12_once_25 (fun v26 z27 => ?_)
    have r28 := R_any v26
    refine r_put (K := 38) (ty := .int) S X12 (Nat.le_of_ble_eq_true rfl) rfl lk12_218_10 (fun _ => ⟨_, rfl, Nat.le_of_ble_eq_true rfl, rfl⟩) (fun _ _ _ h => by cases h; exact ⟨rfl, rfl⟩) rfl rfl dX12_once_26 (fun t29 H lc M30 X31 => ?_)
    have I32 := Inv_mu hI M30 (R_any v26)
    have F33 : Fr [(131, 15), (131, 16), (131, 4), (131, 11), (131, 12), (131, 13), (131, 14), (131, 18), (131, 20)] [134, 331] τ t29 := Fr_mu Fr_rfl M30 (by decide)
    refine r_aload_n S dX12_once_29 rfl (lv_at hl 0 rfl) ?_
    refine r_kv (q_V (As := []) (rest := []) (K := 38) (ci := 10) S X31 (c_X12_skip l G t29 I32 ) ck12_186 (Nat.le_of_ble_eq_true rfl) rfl (fun _ => ⟨_, rfl⟩) ⟨_, _, rfl⟩ ⟨Nat.le_of_ble_eq_true rfl, Nat.le_of_ble_eq_true rfl⟩ rfl hl.1 rfl (Nat.le_of_ble_eq_true rfl) dX12_once_30 ⟨Nat.le_refl 0, Nat.le_refl 0⟩) X31 (fun t36 H lc q34 X35 => ?_)
    unfold po_X12_skip at q34
    obtain ⟨q37, q38, q39, q40, q41, q42⟩ := q34
    have F43 : Fr [(131, 15), (131, 16), (131, 4), (131, 11), (131, 12), (131, 13), (131, 14), (131, 18), (131, 20)] [134, 331] τ t36 := Fr_call F33 q38 (by decide)
    obtain ⟨v44, z45⟩ : ∃ x, t36 131 4 = x := ⟨_, rfl⟩
    rw [z45] at q39
    obtain ⟨v46, z47⟩ : ∃ x, t36 131 11 = x := ⟨_, rfl⟩
    rw [z47] at q40
    have e48 := congrArg Int32.toInt ((M30.2 131 4 (Or.inr (by decide))).trans z2)
    have e49 := congrArg Int32.toInt z45
    have e50 := congrArg Int32.toInt ((M30.2 131 4 (Or.inr (by decide))).trans z2)
    have e51 := congrArg Int32.toInt z45
    have e52 := congrArg Int32.toInt ((M30.2 131 11 (Or.inr (by decide))).trans z5)
    have e53 := congrArg Int32.toInt z47
    refine r_aload_n S dX12_once_33 rfl (lv_at hl 0 rfl) ?_
    refine r_iload_n S dX12_once_34 rfl (lv_at hl 3 rfl) ?_
    refine r_iload S dX12_once_35 (lv_at hl 4 rfl) ?_
    refine r_ki (q_V (As := [.int a2, .int a3]) (rest := []) (K := 38) (ci := 10) S X35 (c_X12_takes_0_9 l G t36 q37 a2 a3 h_a2 h_a3) ck12_212 (Nat.le_of_ble_eq_true rfl) rfl (fun _ => ⟨_, rfl⟩) ⟨_, _, rfl⟩ ⟨Nat.le_of_ble_eq_true rfl, Nat.le_of_ble_eq_true rfl⟩ rfl hl.1 rfl (Nat.le_of_ble_eq_true rfl) dX12_once_37 ⟨Nat.le_refl 0, Nat.le_refl 0⟩) X35 (fun v57 t56 H lc q54 X55 => ?_)
    unfold po_X12_takes_0_9 at q54
    obtain ⟨q58, q59, q60, q61, q62, q63, q64, q65⟩ := q54
    have F66 : Fr [(131, 15), (131, 16), (131, 4), (131, 11), (131, 12), (131, 13), (131, 14), (131, 18), (131, 20)] [134, 331] τ t56 := Fr_call F43 q59 (by decide)
    obtain ⟨v67, z68⟩ : ∃ x, t56 131 4 = x := ⟨_, rfl⟩
    rw [z68] at q62
    obtain ⟨v69, z70⟩ : ∃ x, t56 131 11 = x := ⟨_, rfl⟩
    rw [z70] at q63
    have e71 := congrArg Int32.toInt z45
    have e72 := congrArg Int32.toInt z68
    have e73 := congrArg Int32.toInt z47
    have e74 := congrArg Int32.toInt z70
    refine r_if_ne (tgt := 45) S dX12_once_40 (by decide) (fun c75 => ?_) (fun c75 => ?_)
    ·
      have r76 : R (1) (1) v57 := ⟨by omega, by omega⟩
      have p77 := q61 (by omega)
      obtain ⟨v78, z79⟩ : ∃ x, t56 131 18 = x := ⟨_, rfl⟩
      rw [z79] at p77
      refine r_aload_n S dX12_once_45 rfl (lv_at hl 0 rfl) ?_
      refine r_get (K := 38) (v := .ref (G.2.2.2.1 134)) S X55 (Nat.le_of_ble_eq_true rfl) rfl lk12_37_10 (fun _ => ⟨_, rfl, rfl⟩) dX12_once_46 ?_
      refine r_iload_n S dX12_once_49 rfl (lv_at hl 2 rfl) ?_
      refine r_aload_n S dX12_once_50 rfl (lv_at hl 0 rfl) ?_
      refine r_geti (K := 38) S X55 (Nat.le_of_ble_eq_true rfl) rfl lk12_193_10 (fun _ => ⟨_, rfl, rfl⟩) z79 dX12_once_51 ?_
      refine r_ast (n := 125) (K := 41) S X55 (Nat.le_of_ble_eq_true rfl) rfl (fun _ _ => rfl) (ix_of h_a1 rfl) dX12_once_54 (fun t80 H lc M81 X82 => ?_)
      have I83 := Inv_mu q58 M81 (show Rg (kd 134) _ v78 from wrs (K := 41) (a := 3) (n := 1) (R_of h_a1 rfl) (R_of (lo := 0) (hi := 9) p77 rfl) (by decide +kernel))
      have F84 : Fr [(131, 15), (131, 16), (131, 4), (131, 11), (131, 12), (131, 13), (131, 14), (131, 18), (131, 20)] [134, 331] τ t80 := Fr_cell F66 M81 (by decide)
      refine r_iconst S dX12_once_55 (by decide) (fun v85 z86 => ?_)
      have r87 := R_eq z86
      exact r_ret S hr hlk X82 ⟨I83, F84, (R_of r87 rfl), (by rw [((M81.2 131 4 (Or.inl (by decide))).trans z68)]; exact R_of q62 rfl), (by rw [((M81.2 131 11 (Or.inl (by decide))).trans z70)]; exact R_of q63 rfl), (by have h1_0 := congrArg Int32.toInt ((M81.2 131 4 (Or.inl (by decide))).trans z68); have h2_0 := congrArg Int32.toInt z2; omega), (by have h1_0 := congrArg Int32.toInt ((M81.2 131 4 (Or.inl (by decide))).trans z68); have h2_0 := congrArg Int32.toInt z2; omega)⟩ (nr_bool (R_of (lo := 0) (hi := 1) r87 rfl)) dX12_once_56
    ·
      have r88 : R (0) (0) v57 := ⟨by omega, by omega⟩
      refine r_iconst S dX12_once_43 (by decide) (fun v89 z90 => ?_)
      have r91 := R_eq z90
      exact r_ret S hr hlk X55 ⟨q58, F66, (R_of r91 rfl), (by rw [z68]; exact R_of q62 rfl), (by rw [z70]; exact R_of q63 rfl), (by have h1_0 := congrArg Int32.toInt z68; have h2_0 := congrArg Int32.toInt z2; omega), (by have h1_0 := congrArg Int32.toInt z68; have h2_0 := congrArg Int32.toInt z2; omega)⟩ (nr_bool (R_of (lo := 0) (hi := 1) r91 rfl)) dX12_once_44
  ·
    have r92 : R (1) (1) v14 := ⟨by omega, by omega⟩
    refine r_aload_n S dX12_once_11 rfl (lv_at hl 0 rfl) ?_
    refine r_iconst S dX12_once_12 (by decide) (fun v93 z94 => ?_)
    have r95 := R_eq z94
    refine r_ki (q_V (As := [.int v93]) (rest := []) (K := 38) (ci := 10) S X12 (c_X12_bad l G τ hI v93 (R_of (lo := -2147483648) (hi := 2147483647) r95 rfl)) ck12_183 (Nat.le_of_ble_eq_true rfl) rfl (fun _ => ⟨_, rfl⟩) ⟨_, _, rfl⟩ ⟨Nat.le_of_ble_eq_true rfl, Nat.le_of_ble_eq_true rfl⟩ rfl hl.1 rfl (Nat.le_of_ble_eq_true rfl) dX12_once_13 ⟨Nat.le_refl 0, Nat.le_refl 0⟩) X12 (fun v99 t98 H lc q96 X97 => ?_)
    unfold po_X12_bad at q96
    obtain ⟨q100, q101, q102⟩ := q96
    have F103 : Fr [(131, 15), (131, 16), (131, 4), (131, 11), (131, 12), (131, 13), (131, 14), (131, 18), (131, 20)] [134, 331] τ t98 := Fr_call Fr_rfl q101 (by decide)
    exact r_ret S hr hlk X97 ⟨q100, F103, (R_of q102 rfl), (by rw [((q101 131 4 (by decide)).trans z2)]; exact R_of r3 rfl), (by rw [((q101 131 11 (by decide)).trans z5)]; exact R_of r6 rfl), (by have h1_0 := congrArg Int32.toInt ((q101 131 4 (by decide)).trans z2); have h2_0 := congrArg Int32.toInt z2; omega), (by have h1_0 := congrArg Int32.toInt ((q101 131 4 (by decide)).trans z2); have h2_0 := congrArg Int32.toInt z2; omega)⟩ (nr_bool (R_of (lo := 0) (hi := 1) q102 rfl)) dX12_once_16
def po_X12_readMan (τ : Tau)     (r : Int32) (u : Tau) : Prop := Inv u ∧ Fr [(131, 15), (131, 16), (131, 4), (131, 11), (131, 12), (131, 13), (131, 14), (131, 18), (131, 21)] [134, 331, 336] τ u ∧ R (0) (1) r ∧ R (0) (940) (u 131 4) ∧ R (0) (4) (u 131 11) ∧ (τ 131 4).toInt ≤ (u 131 4).toInt ∧ (r.toInt = 1 → (τ 131 4).toInt < (u 131 4).toInt)
set_option maxHeartbeats 4000000 in
set_option maxRecDepth 100000 in
theorem c_X12_readMan (l : Launch) (G : Gx) (τ : Tau) (hI : Inv τ) : Ci l G yX12_readMan cX12_readMan 3 (some .boolean) 4 87 [.ref (G.2.2.2.1 131)] τ (po_X12_readMan τ    ) := by
  unfold Ci
  refine C_of (own := RX12) (by decide) rfl (Nat.le_of_ble_eq_true rfl) ?_
  intro p e s m below meth c ls S hr hlk X hl
  have hl : lv_has ls 3 [(0, .ref (G.2.2.2.1 131))] := hl
  obtain ⟨v1, z2⟩ : ∃ x, τ 131 4 = x := ⟨_, rfl⟩
  have r3 : R (0) (940) v1 := rd hI rfl z2
  obtain ⟨v4, z5⟩ : ∃ x, τ 131 11 = x := ⟨_, rfl⟩
  have r6 : R (0) (4) v4 := rd hI rfl z5
  refine r_aload_n S dX12_readMan_0 rfl (lv_at hl 0 rfl) ?_
  refine r_get (K := 38) (v := .ref (G.2.2.2.1 134)) S X (Nat.le_of_ble_eq_true rfl) rfl lk12_37_10 (fun _ => ⟨_, rfl, rfl⟩) dX12_readMan_1 ?_
  refine r_iconst S dX12_readMan_4 (by decide) (fun v7 z8 => ?_)
  have r9 := R_eq z8
  refine r_aldn (n := 125) (K := 41) S X (Nat.le_of_ble_eq_true rfl) rfl (fun _ => rfl) (ix_of r9 rfl) dX12_readMan_5 (fun v10 z11 => ?_)
  have r12 : R (0) (10) v10 := rds (K := 41) (a := 1) (n := 1) hI rfl z11 (R_of r9 rfl) (by decide +kernel)
  refine r_istore_n (lv' := [(1, .int v10), (0, .ref (G.2.2.2.1 131))]) S dX12_readMan_6 rfl hl (by decide) rfl (fun ls hl => ?_)
  refine r_iload_n S dX12_readMan_7 rfl (lv_at hl 0 rfl) ?_
  refine r_bipush S dX12_readMan_8 (by decide) (fun v13 z14 => ?_)
  have r15 := R_eq z14
  refine r_icmp_ne (tgt := 19) S dX12_readMan_10 (by decide) (fun c16 => ?_) (fun c16 => ?_)
  ·
    have r17 : R (0) (9) v10 := ⟨by omega, by omega⟩
    refine r_aload_n S dX12_readMan_19 rfl (lv_at hl 1 rfl) ?_
    refine r_kv (q_V (As := []) (rest := []) (K := 38) (ci := 10) S X (c_X12_skip l G τ hI ) ck12_186 (Nat.le_of_ble_eq_true rfl) rfl (fun _ => ⟨_, rfl⟩) ⟨_, _, rfl⟩ ⟨Nat.le_of_ble_eq_true rfl, Nat.le_of_ble_eq_true rfl⟩ rfl hl.1 rfl (Nat.le_of_ble_eq_true rfl) dX12_readMan_20 ⟨Nat.le_refl 0, Nat.le_refl 0⟩) X (fun t20 H lc q18 X19 => ?_)
    unfold po_X12_skip at q18
    obtain ⟨q21, q22, q23, q24, q25, q26⟩ := q18
    have F27 : Fr [(131, 15), (131, 16), (131, 4), (131, 11), (131, 12), (131, 13), (131, 14), (131, 18), (131, 21)] [134, 331, 336] τ t20 := Fr_call Fr_rfl q22 (by decide)
    obtain ⟨v28, z29⟩ : ∃ x, t20 131 4 = x := ⟨_, rfl⟩
    rw [z29] at q23
    obtain ⟨v30, z31⟩ : ∃ x, t20 131 11 = x := ⟨_, rfl⟩
    rw [z31] at q24
    have e32 := congrArg Int32.toInt z2
    have e33 := congrArg Int32.toInt z29
    have e34 := congrArg Int32.toInt z2
    have e35 := congrArg Int32.toInt z29
    have e36 := congrArg Int32.toInt z5
    have e37 := congrArg Int32.toInt z31
    refine r_aload_n S dX12_readMan_23 rfl (lv_at hl 1 rfl) ?_
    refine r_bipush S dX12_readMan_24 (by decide) (fun v38 z39 => ?_)
    have r40 := R_eq z39
    refine r_iload_n S dX12_readMan_26 rfl (lv_at hl 0 rfl) ?_
    refine r_iadd S dX12_readMan_27 (fun v41 z42 => ?_)
    obtain ⟨e43, r44⟩ := i_add (lo := 28) (hi := 37) z42 r40 r17 rfl
    refine r_ki (q_V (As := [.int v41]) (rest := []) (K := 38) (ci := 10) S X19 (c_X12_fresh l G t20 q21 v41 (R_of (lo := 19) (hi := 37) r44 rfl)) ck12_228 (Nat.le_of_ble_eq_true rfl) rfl (fun _ => ⟨_, rfl⟩) ⟨_, _, rfl⟩ ⟨Nat.le_of_ble_eq_true rfl, Nat.le_of_ble_eq_true rfl⟩ rfl hl.1 rfl (Nat.le_of_ble_eq_true rfl) dX12_readMan_28 ⟨Nat.le_refl 0, Nat.le_refl 0⟩) X19 (fun v48 t47 H lc q45 X46 => ?_)
    unfold po_X12_fresh at q45
    obtain ⟨q49, q50, q51, q52, q53, q54, q55⟩ := q45
    have F56 : Fr [(131, 15), (131, 16), (131, 4), (131, 11), (131, 12), (131, 13), (131, 14), (131, 18), (131, 21)] [134, 331, 336] τ t47 := Fr_call F27 q50 (by decide)
    obtain ⟨v57, z58⟩ : ∃ x, t47 131 4 = x := ⟨_, rfl⟩
    rw [z58] at q52
    obtain ⟨v59, z60⟩ : ∃ x, t47 131 11 = x := ⟨_, rfl⟩
    rw [z60] at q53
    have e61 := congrArg Int32.toInt z29
    have e62 := congrArg Int32.toInt z58
    have e63 := congrArg Int32.toInt z31
    have e64 := congrArg Int32.toInt z60
    refine r_if_eq (tgt := 44) S dX12_readMan_31 (by decide) (fun c65 => ?_) (fun c65 => ?_)
    ·
      have r66 : R (0) (0) v48 := ⟨by omega, by omega⟩
      refine r_iconst S dX12_readMan_44 (by decide) (fun v67 z68 => ?_)
      have r69 := R_eq z68
      exact r_ret S hr hlk X46 ⟨q49, F56, (R_of r69 rfl), (by rw [z58]; exact R_of q52 rfl), (by rw [z60]; exact R_of q53 rfl), (by have h1_0 := congrArg Int32.toInt z58; have h2_0 := congrArg Int32.toInt z2; omega), (by have h1_0 := congrArg Int32.toInt z58; have h2_0 := congrArg Int32.toInt z2; omega)⟩ (nr_bool (R_of (lo := 0) (hi := 1) r69 rfl)) dX12_readMan_45
    ·
      have r70 : R (1) (1) v48 := ⟨by omega, by omega⟩
      refine r_aload_n S dX12_readMan_34 rfl (lv_at hl 1 rfl) ?_
      refine r_iconst S dX12_readMan_35 (by decide) (fun v71 z72 => ?_)
      have r73 := R_eq z72
      refine r_bipush S dX12_readMan_36 (by decide) (fun v74 z75 => ?_)
      have r76 := R_eq z75
      refine r_ki (q_V (As := [.int v71, .int v74]) (rest := []) (K := 38) (ci := 10) S X46 (c_X12_takes_0_20 l G t47 q49 v71 v74 r73 r76) ck12_212 (Nat.le_of_ble_eq_true rfl) rfl (fun _ => ⟨_, rfl⟩) ⟨_, _, rfl⟩ ⟨Nat.le_of_ble_eq_true rfl, Nat.le_of_ble_eq_true rfl⟩ rfl hl.1 rfl (Nat.le_of_ble_eq_true rfl) dX12_readMan_38 ⟨Nat.le_refl 0, Nat.le_refl 0⟩) X46 (fun v80 t79 H lc q77 X78 => ?_)
      unfold po_X12_takes_0_20 at q77
      obtain ⟨q81, q82, q83, q84, q85, q86, q87, q88⟩ := q77
      have F89 : Fr [(131, 15), (131, 16), (131, 4), (131, 11), (131, 12), (131, 13), (131, 14), (131, 18), (131, 21)] [134, 331, 336] τ t79 := Fr_call F56 q82 (by decide)
      obtain ⟨v90, z91⟩ : ∃ x, t79 131 4 = x := ⟨_, rfl⟩
      rw [z91] at q85
      obtain ⟨v92, z93⟩ : ∃ x, t79 131 11 = x := ⟨_, rfl⟩
      rw [z93] at q86
      have e94 := congrArg Int32.toInt z58
      have e95 := congrArg Int32.toInt z91
      have e96 := congrArg Int32.toInt z60
      have e97 := congrArg Int32.toInt z93
      refine r_if_ne (tgt := 46) S dX12_readMan_41 (by decide) (fun c98 => ?_) (fun c98 => ?_)
      ·
        have r99 : R (1) (1) v80 := ⟨by omega, by omega⟩
        have p100 := q84 (by omega)
        obtain ⟨v101, z102⟩ : ∃ x, t79 131 18 = x := ⟨_, rfl⟩
        rw [z102] at p100
        refine r_aload_n S dX12_readMan_46 rfl (lv_at hl 1 rfl) ?_
        refine r_get (K := 38) (v := .ref (G.2.2.2.1 134)) S X78 (Nat.le_of_ble_eq_true rfl) rfl lk12_37_10 (fun _ => ⟨_, rfl, rfl⟩) dX12_readMan_47 ?_
        refine r_iconst S dX12_readMan_50 (by decide) (fun v103 z104 => ?_)
        have r105 := R_eq z104
        refine r_iload_n S dX12_readMan_51 rfl (lv_at hl 0 rfl) ?_
        refine r_iadd S dX12_readMan_52 (fun v106 z107 => ?_)
        obtain ⟨e108, r109⟩ := i_add (lo := 5) (hi := 14) z107 r105 r17 rfl
        refine r_aload_n S dX12_readMan_53 rfl (lv_at hl 1 rfl) ?_
        refine r_geti (K := 38) S X78 (Nat.le_of_ble_eq_true rfl) rfl lk12_193_10 (fun _ => ⟨_, rfl, rfl⟩) z102 dX12_readMan_54 ?_
        refine r_ast (n := 125) (K := 41) S X78 (Nat.le_of_ble_eq_true rfl) rfl (fun _ _ => rfl) (ix_of r109 rfl) dX12_readMan_57 (fun t110 H lc M111 X112 => ?_)
        have I113 := Inv_mu q81 M111 (show Rg (kd 134) _ v101 from wrs (K := 41) (a := 5) (n := 10) (R_of r109 rfl) (R_of (lo := 0) (hi := 20) p100 rfl) (by decide +kernel))
        have F114 : Fr [(131, 15), (131, 16), (131, 4), (131, 11), (131, 12), (131, 13), (131, 14), (131, 18), (131, 21)] [134, 331, 336] τ t110 := Fr_cell F89 M111 (by decide)
        refine r_iconst S dX12_readMan_58 (by decide) (fun v115 z116 => ?_)
        have r117 := R_eq z116
        refine r_istore_n (lv' := [(2, .int v115), (1, .int v10), (0, .ref (G.2.2.2.1 131))]) S dX12_readMan_59 rfl hl (by decide) rfl (fun ls hl => ?_)
        have L452 : ∀ (n : Nat) (t444 : Tau) (H : Heap) (lc : List Loc) (ls : Array Slot) (i442 : Int32), Xd G s H lc t444 → Inv t444 → Fr [(131, 15), (131, 16), (131, 4), (131, 11), (131, 12), (131, 13), (131, 14), (131, 18), (131, 21)] [134, 331, 336] τ t444 → R (0) (9) i442 → t444 134 1 = v10 → t444 131 4 = v90 → t444 131 11 = v92 → t444 131 18 = v101 → lv_has ls 3 [(0, .ref (G.2.2.2.1 131)), (1, .int v10), (2, .int i442)] → (9 - i442.toInt).toNat < n → W p l e (Rm 4 87) s m ([.ref (G.2.2.2.1 131)] : List Value).toArray below meth c H lc 0 0 (MQ below (va_Qi (po_X12_readMan τ    ) (Bs G) G.2.2.2.2) ([.ref (G.2.2.2.1 131)] : List Value).toArray s 0 0 G.2.2.2.2) (F0 m 60 ls []) := by
          intro n
          induction n with
          | zero => intros; omega
          | succ n ih453 =>
            intro t444 H lc ls i442 X447 I445 F446 r443 z448 z449 z450 z451 hl hm
            refine r_iload_n S dX12_readMan_60 rfl (lv_at hl 2 rfl) ?_
            refine r_bipush S dX12_readMan_61 (by decide) (fun v454 z455 => ?_)
            have r456 := R_eq z455
            refine r_icmp_ge (tgt := 87) S dX12_readMan_63 (by decide) (fun c457 => ?_) (fun c457 => ?_)
            ·
              have r458 : R (9) (9) i442 := ⟨by omega, by omega⟩
              have L856 : ∀ (n : Nat) (t845 : Tau) (H : Heap) (lc : List Loc) (ls : Array Slot) (f850 : Int32) (f853 : Int32), Xd G s H lc t845 → Inv t845 → Fr [(131, 15), (131, 16), (131, 4), (131, 11), (131, 12), (131, 13), (131, 14), (131, 18), (131, 21)] [134, 331, 336] τ t845 → t845 134 1 = v10 → t845 131 4 = f850 → R (0) (940) f850 → t845 131 11 = f853 → R (0) (4) f853 → v1.toInt < f850.toInt → lv_has ls 3 [(0, .ref (G.2.2.2.1 131)), (1, .int v10)] → (940 - f850.toInt).toNat < n → W p l e (Rm 4 87) s m ([.ref (G.2.2.2.1 131)] : List Value).toArray below meth c H lc 0 0 (MQ below (va_Qi (po_X12_readMan τ    ) (Bs G) G.2.2.2.2) ([.ref (G.2.2.2.1 131)] : List Value).toArray s 0 0 G.2.2.2.2) (F0 m 87 ls []) := by
                intro n
                induction n with
                | zero => intros; omega
                | succ n ih858 =>
                  intro t845 H lc ls f850 f853 X848 I846 F847 z849 z852 r851 z855 r854 x857 hl hm
                  refine r_aload_n S dX12_readMan_87 rfl (lv_at hl 0 rfl) ?_
                  refine r_bipush S dX12_readMan_88 (by decide) (fun v859 z860 => ?_)
                  have r861 := R_eq z860
                  refine r_ki (q_V (As := [.int v859]) (rest := []) (K := 38) (ci := 10) S X848 (c_X12_isSign l G t845 I846 v859 (R_of (lo := -2147483648) (hi := 2147483647) r861 rfl)) ck12_180 (Nat.le_of_ble_eq_true rfl) rfl (fun _ => ⟨_, rfl⟩) ⟨_, _, rfl⟩ ⟨Nat.le_of_ble_eq_true rfl, Nat.le_of_ble_eq_true rfl⟩ rfl hl.1 rfl (Nat.le_of_ble_eq_true rfl) dX12_readMan_90 ⟨Nat.le_refl 0, Nat.le_refl 0⟩) X848 (fun v865 t864 H lc q862 X863 => ?_)
                  unfold po_X12_isSign at q862
                  obtain ⟨q866, q867, q868⟩ := q862
                  rw [q866] at X863
                  rw [q866] at q868
                  refine r_if_ne (tgt := 168) S dX12_readMan_93 (by decide) (fun c869 => ?_) (fun c869 => ?_)
                  ·
                    have r870 : R (1) (1) v865 := ⟨by omega, by omega⟩
                    have p871 := q868 (by omega)
                    have r872 : R (3) (3) f853 := z855 ▸ p871
                    have r873 : R (3) (3) f853 := ⟨by omega, by omega⟩
                    refine r_aload_n S dX12_readMan_168 rfl (lv_at hl 0 rfl) ?_
                    refine r_get (K := 38) (v := .ref (G.2.2.2.1 134)) S X863 (Nat.le_of_ble_eq_true rfl) rfl lk12_37_10 (fun _ => ⟨_, rfl, rfl⟩) dX12_readMan_169 ?_
                    refine r_iconst S dX12_readMan_172 (by decide) (fun v874 z875 => ?_)
                    have r876 := R_eq z875
                    refine r_dup2 S dX12_readMan_173 rfl rfl ?_
                    refine r_aldi (x := v10) (n := 125) (K := 41) S X863 (Nat.le_of_ble_eq_true rfl) rfl (fun _ => rfl) (ix_of r876 rfl) (zc' (n := 1) (by omega) z849) dX12_readMan_174 ?_
                    refine r_iconst S dX12_readMan_175 (by decide) (fun v878 z879 => ?_)
                    have r880 := R_eq z879
                    refine r_iadd S dX12_readMan_176 (fun v881 z882 => ?_)
                    obtain ⟨e883, r884⟩ := i_add (lo := 1) (hi := 10) z882 r17 r880 rfl
                    refine r_ast (n := 125) (K := 41) S X863 (Nat.le_of_ble_eq_true rfl) rfl (fun _ _ => rfl) (ix_of r876 rfl) dX12_readMan_177 (fun t885 H lc M886 X887 => ?_)
                    have I888 := Inv_mu I846 M886 (show Rg (kd 134) _ v881 from wrs (K := 41) (a := 1) (n := 1) (R_of r876 rfl) (R_of (lo := 0) (hi := 10) r884 rfl) (by decide +kernel))
                    have F889 : Fr [(131, 15), (131, 16), (131, 4), (131, 11), (131, 12), (131, 13), (131, 14), (131, 18), (131, 21)] [134, 331, 336] τ t885 := Fr_cell F847 M886 (by decide)
                    refine r_iconst S dX12_readMan_178 (by decide) (fun v890 z891 => ?_)
                    have r892 := R_eq z891
                    exact r_ret S hr hlk X887 ⟨I888, F889, (R_of r892 rfl), (by rw [((M886.2 131 4 (Or.inl (by decide))).trans z852)]; exact R_of r851 rfl), (by rw [((M886.2 131 11 (Or.inl (by decide))).trans z855)]; exact R_of r873 rfl), (by have h1_0 := congrArg Int32.toInt ((M886.2 131 4 (Or.inl (by decide))).trans z852); have h2_0 := congrArg Int32.toInt z2; omega), (by have h1_0 := congrArg Int32.toInt ((M886.2 131 4 (Or.inl (by decide))).trans z852); have h2_0 := congrArg Int32.toInt z2; omega)⟩ (nr_bool (R_of (lo := 0) (hi := 1) r892 rfl)) dX12_readMan_179
                  ·
                    have r893 : R (0) (0) v865 := ⟨by omega, by omega⟩
                    refine r_aload_n S dX12_readMan_96 rfl (lv_at hl 0 rfl) ?_
                    refine r_bipush S dX12_readMan_97 (by decide) (fun v894 z895 => ?_)
                    have r896 := R_eq z895
                    refine r_aload_n S dX12_readMan_99 rfl (lv_at hl 0 rfl) ?_
                    refine r_get (K := 38) (v := .ref (G.2.2.2.1 134)) S X863 (Nat.le_of_ble_eq_true rfl) rfl lk12_37_10 (fun _ => ⟨_, rfl, rfl⟩) dX12_readMan_100 ?_
                    refine r_iconst S dX12_readMan_103 (by decide) (fun v897 z898 => ?_)
                    have r899 := R_eq z898
                    refine r_aldn (n := 125) (K := 41) S X863 (Nat.le_of_ble_eq_true rfl) rfl (fun _ => rfl) (ix_of r899 rfl) dX12_readMan_104 (fun v900 z901 => ?_)
                    have r902 : R (0) (9) v900 := rds (K := 41) (a := 0) (n := 1) I846 rfl z901 (R_of r899 rfl) (by decide +kernel)
                    refine r_ki (q_V (As := [.int v894, .int v900]) (rest := []) (K := 38) (ci := 10) S X863 (c_X12_looksAt_a l G t845 I846 v894 v900 (R_of (lo := 0) (hi := 19) r896 rfl) r902) ck12_204 (Nat.le_of_ble_eq_true rfl) rfl (fun _ => ⟨_, rfl⟩) ⟨_, _, rfl⟩ ⟨Nat.le_of_ble_eq_true rfl, Nat.le_of_ble_eq_true rfl⟩ rfl hl.1 rfl (Nat.le_of_ble_eq_true rfl) dX12_readMan_105 ⟨Nat.le_refl 0, Nat.le_refl 0⟩) X863 (fun v906 t905 H lc q903 X904 => ?_)
                    unfold po_X12_looksAt_a at q903
                    obtain ⟨q907, q908, q909, q910, q911⟩ := q903
                    have F912 : Fr [(131, 15), (131, 16), (131, 4), (131, 11), (131, 12), (131, 13), (131, 14), (131, 18), (131, 21)] [134, 331, 336] τ t905 := Fr_call F847 q908 (by decide)
                    have e913 := congrArg Int32.toInt z855
                    have e914 := congrArg Int32.toInt ((q908 131 11 (by decide)).trans z855)
                    refine r_if_ne (tgt := 113) S dX12_readMan_108 (by decide) (fun c915 => ?_) (fun c915 => ?_)
                    ·
                      have r916 : R (1) (1) v906 := ⟨by omega, by omega⟩
                      have p917 := q910 (by omega)
                      obtain ⟨v918, z919⟩ : ∃ x, t905 131 18 = x := ⟨_, rfl⟩
                      rw [z919] at p917
                      refine r_bipush S dX12_readMan_113 (by decide) (fun v920 z921 => ?_)
                      have r922 := R_eq z921
                      refine r_bipush S dX12_readMan_115 (by decide) (fun v923 z924 => ?_)
                      have r925 := R_eq z924
                      refine r_iload_n S dX12_readMan_117 rfl (lv_at hl 1 rfl) ?_
                      refine r_imul S dX12_readMan_118 (fun v926 z927 => ?_)
                      obtain ⟨e928, r929⟩ := i_mul (lo := 0) (hi := 81) z927 r925 r17 rfl rfl
                      have e930 : v926.toInt = 9 * v10.toInt := by rw [e928, show v923.toInt = 9 by omega]
                      refine r_iadd S dX12_readMan_119 (fun v931 z932 => ?_)
                      obtain ⟨e933, r934⟩ := i_add (lo := 15) (hi := 96) z932 r922 r929 rfl
                      refine r_aload_n S dX12_readMan_120 rfl (lv_at hl 0 rfl) ?_
                      refine r_geti (K := 38) S X904 (Nat.le_of_ble_eq_true rfl) rfl lk12_193_10 (fun _ => ⟨_, rfl, rfl⟩) z919 dX12_readMan_121 ?_
                      refine r_iadd S dX12_readMan_124 (fun v935 z936 => ?_)
                      obtain ⟨e937, r938⟩ := i_add (lo := 15) (hi := 104) z936 r934 p917 rfl
                      refine r_istore_n (lv' := [(2, .int v935), (0, .ref (G.2.2.2.1 131)), (1, .int v10)]) S dX12_readMan_125 rfl hl (by decide) rfl (fun ls hl => ?_)
                      refine r_aload_n S dX12_readMan_126 rfl (lv_at hl 1 rfl) ?_
                      refine r_get (K := 38) (v := .ref (G.2.2.2.1 134)) S X904 (Nat.le_of_ble_eq_true rfl) rfl lk12_37_10 (fun _ => ⟨_, rfl, rfl⟩) dX12_readMan_127 ?_
                      refine r_iload_n S dX12_readMan_130 rfl (lv_at hl 0 rfl) ?_
                      refine r_aldn (n := 125) (K := 41) S X904 (Nat.le_of_ble_eq_true rfl) rfl (fun _ => rfl) (ix_of r938 rfl) dX12_readMan_131 (fun v939 z940 => ?_)
                      have r941 : R (-9) (9) v939 := rds (K := 41) (a := 15) (n := 90) q907 rfl z940 (R_of r938 rfl) (by decide +kernel)
                      have g942 : Rg 41 v935.toNatClampNeg v939 := rd q907 rfl z940
                      refine r_if_eq (tgt := 141) S dX12_readMan_132 (by decide) (fun c943 => ?_) (fun c943 => ?_)
                      ·
                        have r944 : R (0) (0) v939 := ⟨by omega, by omega⟩
                        refine r_aload_n S dX12_readMan_141 rfl (lv_at hl 1 rfl) ?_
                        refine r_kv (q_V (As := []) (rest := []) (K := 38) (ci := 10) S X904 (c_X12_skip l G t905 q907 ) ck12_186 (Nat.le_of_ble_eq_true rfl) rfl (fun _ => ⟨_, rfl⟩) ⟨_, _, rfl⟩ ⟨Nat.le_of_ble_eq_true rfl, Nat.le_of_ble_eq_true rfl⟩ rfl hl.1 rfl (Nat.le_of_ble_eq_true rfl) dX12_readMan_142 ⟨Nat.le_refl 0, Nat.le_refl 0⟩) X904 (fun t947 H lc q945 X946 => ?_)
                        unfold po_X12_skip at q945
                        obtain ⟨q948, q949, q950, q951, q952, q953⟩ := q945
                        have F954 : Fr [(131, 15), (131, 16), (131, 4), (131, 11), (131, 12), (131, 13), (131, 14), (131, 18), (131, 21)] [134, 331, 336] τ t947 := Fr_call F912 q949 (by decide)
                        obtain ⟨v955, z956⟩ : ∃ x, t947 131 4 = x := ⟨_, rfl⟩
                        rw [z956] at q950
                        obtain ⟨v957, z958⟩ : ∃ x, t947 131 11 = x := ⟨_, rfl⟩
                        rw [z958] at q951
                        have e959 := congrArg Int32.toInt ((q908 131 4 (by decide)).trans z852)
                        have e960 := congrArg Int32.toInt z956
                        have e961 := congrArg Int32.toInt ((q908 131 4 (by decide)).trans z852)
                        have e962 := congrArg Int32.toInt z956
                        have e963 := congrArg Int32.toInt ((q908 131 11 (by decide)).trans z855)
                        have e964 := congrArg Int32.toInt z958
                        refine r_aload_n S dX12_readMan_145 rfl (lv_at hl 1 rfl) ?_
                        refine r_iconst S dX12_readMan_146 (by decide) (fun v965 z966 => ?_)
                        have r967 := R_eq z966
                        refine r_ki (q_V (As := [.int v965]) (rest := []) (K := 38) (ci := 10) S X946 (c_X12_takesMind_1 l G t947 q948 v965 r967) ck12_234 (Nat.le_of_ble_eq_true rfl) rfl (fun _ => ⟨_, rfl⟩) ⟨_, _, rfl⟩ ⟨Nat.le_of_ble_eq_true rfl, Nat.le_of_ble_eq_true rfl⟩ rfl hl.1 rfl (Nat.le_of_ble_eq_true rfl) dX12_readMan_147 ⟨Nat.le_refl 0, Nat.le_refl 0⟩) X946 (fun v971 t970 H lc q968 X969 => ?_)
                        unfold po_X12_takesMind_1 at q968
                        obtain ⟨q972, q973, q974, q975, q976, q977, q978⟩ := q968
                        have F979 : Fr [(131, 15), (131, 16), (131, 4), (131, 11), (131, 12), (131, 13), (131, 14), (131, 18), (131, 21)] [134, 331, 336] τ t970 := Fr_call F954 q973 (by decide)
                        obtain ⟨v980, z981⟩ : ∃ x, t970 131 4 = x := ⟨_, rfl⟩
                        rw [z981] at q975
                        obtain ⟨v982, z983⟩ : ∃ x, t970 131 11 = x := ⟨_, rfl⟩
                        rw [z983] at q976
                        have e984 := congrArg Int32.toInt z956
                        have e985 := congrArg Int32.toInt z981
                        have e986 := congrArg Int32.toInt z956
                        have e987 := congrArg Int32.toInt z981
                        refine r_if_ne (tgt := 155) S dX12_readMan_150 (by decide) (fun c988 => ?_) (fun c988 => ?_)
                        ·
                          have r989 : R (1) (1) v971 := ⟨by omega, by omega⟩
                          refine r_aload_n S dX12_readMan_155 rfl (lv_at hl 1 rfl) ?_
                          refine r_get (K := 38) (v := .ref (G.2.2.2.1 134)) S X969 (Nat.le_of_ble_eq_true rfl) rfl lk12_37_10 (fun _ => ⟨_, rfl, rfl⟩) dX12_readMan_156 ?_
                          refine r_iload_n S dX12_readMan_159 rfl (lv_at hl 0 rfl) ?_
                          refine r_aload_n S dX12_readMan_160 rfl (lv_at hl 1 rfl) ?_
                          refine r_getn (K := 38) S X969 (Nat.le_of_ble_eq_true rfl) rfl lk12_215_10 (fun _ => ⟨_, rfl, rfl⟩) dX12_readMan_161 (fun v990 z991 => ?_)
                          have r992 : R (-9) (9) v990 := rd q972 rfl z991
                          refine r_ast (n := 125) (K := 41) S X969 (Nat.le_of_ble_eq_true rfl) rfl (fun _ _ => rfl) (ix_of r938 rfl) dX12_readMan_164 (fun t993 H lc M994 X995 => ?_)
                          have I996 := Inv_mu q972 M994 (show Rg (kd 134) _ v990 from wrs (K := 41) (a := 15) (n := 90) (R_of r938 rfl) (R_of (lo := -9) (hi := 9) r992 rfl) (by decide +kernel))
                          have F997 : Fr [(131, 15), (131, 16), (131, 4), (131, 11), (131, 12), (131, 13), (131, 14), (131, 18), (131, 21)] [134, 331, 336] τ t993 := Fr_cell F979 M994 (by decide)
                          refine r_goto (tgt := 87) S dX12_readMan_165 (by decide) ?_
                          exact ih858 t993 _ _ _ v980 v982 X995 I996 F997 ((M994.2 134 1 (Or.inr (ixne r938 rfl))).trans ((q973 134 1 (by decide)).trans ((q949 134 1 (by decide)).trans ((q908 134 1 (by decide)).trans z849)))) ((M994.2 131 4 (Or.inl (by decide))).trans z981) ⟨by omega, by omega⟩ ((M994.2 131 11 (Or.inl (by decide))).trans z983) ⟨by omega, by omega⟩ (by omega) (lv_sub hl [1, 2] rfl) (by omega)
                        ·
                          have r998 : R (0) (0) v971 := ⟨by omega, by omega⟩
                          refine r_iconst S dX12_readMan_153 (by decide) (fun v999 z1000 => ?_)
                          have r1001 := R_eq z1000
                          exact r_ret S hr hlk X969 ⟨q972, F979, (R_of r1001 rfl), (by rw [z981]; exact R_of q975 rfl), (by rw [z983]; exact R_of q976 rfl), (by have h1_0 := congrArg Int32.toInt z981; have h2_0 := congrArg Int32.toInt z2; omega), (by have h1_0 := congrArg Int32.toInt z981; have h2_0 := congrArg Int32.toInt z2; omega)⟩ (nr_bool (R_of (lo := 0) (hi := 1) r1001 rfl)) dX12_readMan_154
                      ·
                        refine r_aload_n S dX12_readMan_135 rfl (lv_at hl 1 rfl) ?_
                        refine r_iconst S dX12_readMan_136 (by decide) (fun v1002 z1003 => ?_)
                        have r1004 := R_eq z1003
                        refine r_ki (q_V (As := [.int v1002]) (rest := []) (K := 38) (ci := 10) S X904 (c_X12_bad l G t905 q907 v1002 (R_of (lo := -2147483648) (hi := 2147483647) r1004 rfl)) ck12_183 (Nat.le_of_ble_eq_true rfl) rfl (fun _ => ⟨_, rfl⟩) ⟨_, _, rfl⟩ ⟨Nat.le_of_ble_eq_true rfl, Nat.le_of_ble_eq_true rfl⟩ rfl hl.1 rfl (Nat.le_of_ble_eq_true rfl) dX12_readMan_137 ⟨Nat.le_refl 0, Nat.le_refl 0⟩) X904 (fun v1008 t1007 H lc q1005 X1006 => ?_)
                        unfold po_X12_bad at q1005
                        obtain ⟨q1009, q1010, q1011⟩ := q1005
                        have F1012 : Fr [(131, 15), (131, 16), (131, 4), (131, 11), (131, 12), (131, 13), (131, 14), (131, 18), (131, 21)] [134, 331, 336] τ t1007 := Fr_call F912 q1010 (by decide)
                        exact r_ret S hr hlk X1006 ⟨q1009, F1012, (R_of q1011 rfl), (by rw [((q1010 131 4 (by decide)).trans ((q908 131 4 (by decide)).trans z852))]; exact R_of r851 rfl), (by rw [((q1010 131 11 (by decide)).trans ((q908 131 11 (by decide)).trans z855))]; exact R_of r854 rfl), (by have h1_0 := congrArg Int32.toInt ((q1010 131 4 (by decide)).trans ((q908 131 4 (by decide)).trans z852)); have h2_0 := congrArg Int32.toInt z2; omega), (by have h1_0 := congrArg Int32.toInt ((q1010 131 4 (by decide)).trans ((q908 131 4 (by decide)).trans z852)); have h2_0 := congrArg Int32.toInt z2; omega)⟩ (nr_bool (R_of (lo := 0) (hi := 1) q1011 rfl)) dX12_readMan_140
                    ·
                      have r1013 : R (0) (0) v906 := ⟨by omega, by omega⟩
                      refine r_iconst S dX12_readMan_111 (by decide) (fun v1014 z1015 => ?_)
                      have r1016 := R_eq z1015
                      exact r_ret S hr hlk X904 ⟨q907, F912, (R_of r1016 rfl), (by rw [((q908 131 4 (by decide)).trans z852)]; exact R_of r851 rfl), (by rw [((q908 131 11 (by decide)).trans z855)]; exact R_of r854 rfl), (by have h1_0 := congrArg Int32.toInt ((q908 131 4 (by decide)).trans z852); have h2_0 := congrArg Int32.toInt z2; omega), (by have h1_0 := congrArg Int32.toInt ((q908 131 4 (by decide)).trans z852); have h2_0 := congrArg Int32.toInt z2; omega)⟩ (nr_bool (R_of (lo := 0) (hi := 1) r1016 rfl)) dX12_readMan_112
              exact L856 _ t444 _ _ _ v90 v92 X447 I445 F446 z448 z449 ⟨by omega, by omega⟩ z450 ⟨by omega, by omega⟩ (by omega) (lv_sub hl [0, 1] rfl) (Nat.lt_succ_self _)
            ·
              have r1017 : R (0) (8) i442 := ⟨by omega, by omega⟩
              refine r_aload_n S dX12_readMan_66 rfl (lv_at hl 0 rfl) ?_
              refine r_get (K := 38) (v := .ref (G.2.2.2.1 134)) S X447 (Nat.le_of_ble_eq_true rfl) rfl lk12_37_10 (fun _ => ⟨_, rfl, rfl⟩) dX12_readMan_67 ?_
              refine r_bipush S dX12_readMan_70 (by decide) (fun v1018 z1019 => ?_)
              have r1020 := R_eq z1019
              refine r_bipush S dX12_readMan_72 (by decide) (fun v1021 z1022 => ?_)
              have r1023 := R_eq z1022
              refine r_iload_n S dX12_readMan_74 rfl (lv_at hl 1 rfl) ?_
              refine r_imul S dX12_readMan_75 (fun v1024 z1025 => ?_)
              obtain ⟨e1026, r1027⟩ := i_mul (lo := 0) (hi := 81) z1025 r1023 r17 rfl rfl
              have e1028 : v1024.toInt = 9 * v10.toInt := by rw [e1026, show v1021.toInt = 9 by omega]
              refine r_iadd S dX12_readMan_76 (fun v1029 z1030 => ?_)
              obtain ⟨e1031, r1032⟩ := i_add (lo := 15) (hi := 96) z1030 r1020 r1027 rfl
              refine r_iload_n S dX12_readMan_77 rfl (lv_at hl 2 rfl) ?_
              refine r_iadd S dX12_readMan_78 (fun v1033 z1034 => ?_)
              obtain ⟨e1035, r1036⟩ := i_add (lo := 15) (hi := 104) z1034 r1032 r1017 rfl
              refine r_iconst S dX12_readMan_79 (by decide) (fun v1037 z1038 => ?_)
              have r1039 := R_eq z1038
              refine r_ast (n := 125) (K := 41) S X447 (Nat.le_of_ble_eq_true rfl) rfl (fun _ _ => rfl) (ix_of r1036 rfl) dX12_readMan_80 (fun t1040 H lc M1041 X1042 => ?_)
              have I1043 := Inv_mu I445 M1041 (show Rg (kd 134) _ v1037 from wrs (K := 41) (a := 15) (n := 90) (R_of r1036 rfl) (R_of (lo := -9) (hi := 9) r1039 rfl) (by decide +kernel))
              have F1044 : Fr [(131, 15), (131, 16), (131, 4), (131, 11), (131, 12), (131, 13), (131, 14), (131, 18), (131, 21)] [134, 331, 336] τ t1040 := Fr_cell F446 M1041 (by decide)
              refine r_iinc (k := 2) S dX12_readMan_81 hl rfl (by decide) (by decide) (fun v1045 d1046 ls z1047 z1048 hl => ?_)
              obtain ⟨e1049, r1050⟩ := i_add (lo := 1) (hi := 9) z1047 r1017 (R_eq z1048) rfl
              have hl : lv_has ls 3 [(2, .int v1045), (0, .ref (G.2.2.2.1 131)), (1, .int v10)] := hl
              refine r_goto (tgt := 60) S dX12_readMan_84 (by decide) ?_
              exact ih453 t1040 _ _ _ v1045 X1042 I1043 F1044 (R_of r1050 rfl) ((M1041.2 134 1 (Or.inr (ixne r1036 rfl))).trans z448) ((M1041.2 131 4 (Or.inl (by decide))).trans z449) ((M1041.2 131 11 (Or.inl (by decide))).trans z450) ((M1041.2 131 18 (Or.inl (by decide))).trans z451) (lv_sub hl [1, 2, 0] rfl) (by omega)
        exact L452 _ t110 _ _ _ v115 X112 I113 F114 (R_of r117 rfl) ((M111.2 134 1 (Or.inr (ixne r109 rfl))).trans ((q82 134 1 (by decide)).trans ((q50 134 1 (by decide)).trans ((q22 134 1 (by decide)).trans (zc (n := 1) (by omega) z11))))) ((M111.2 131 4 (Or.inl (by decide))).trans z91) ((M111.2 131 11 (Or.inl (by decide))).trans z93) ((M111.2 131 18 (Or.inl (by decide))).trans z102) (lv_sub hl [2, 1, 0] rfl) (Nat.lt_succ_self _)
      ·
        have r1051 : R (0) (0) v80 := ⟨by omega, by omega⟩
        refine r_iconst S dX12_readMan_44 (by decide) (fun v1052 z1053 => ?_)
        have r1054 := R_eq z1053
        exact r_ret S hr hlk X78 ⟨q81, F89, (R_of r1054 rfl), (by rw [z91]; exact R_of q85 rfl), (by rw [z93]; exact R_of q86 rfl), (by have h1_0 := congrArg Int32.toInt z91; have h2_0 := congrArg Int32.toInt z2; omega), (by have h1_0 := congrArg Int32.toInt z91; have h2_0 := congrArg Int32.toInt z2; omega)⟩ (nr_bool (R_of (lo := 0) (hi := 1) r1054 rfl)) dX12_readMan_45
  ·
    have r1055 : R (10) (10) v10 := ⟨by omega, by omega⟩
    refine r_aload_n S dX12_readMan_13 rfl (lv_at hl 1 rfl) ?_
    refine r_iconst S dX12_readMan_14 (by decide) (fun v1056 z1057 => ?_)
    have r1058 := R_eq z1057
    refine r_ki (q_V (As := [.int v1056]) (rest := []) (K := 38) (ci := 10) S X (c_X12_bad l G τ hI v1056 (R_of (lo := -2147483648) (hi := 2147483647) r1058 rfl)) ck12_183 (Nat.le_of_ble_eq_true rfl) rfl (fun _ => ⟨_, rfl⟩) ⟨_, _, rfl⟩ ⟨Nat.le_of_ble_eq_true rfl, Nat.le_of_ble_eq_true rfl⟩ rfl hl.1 rfl (Nat.le_of_ble_eq_true rfl) dX12_readMan_15 ⟨Nat.le_refl 0, Nat.le_refl 0⟩) X (fun v1062 t1061 H lc q1059 X1060 => ?_)
    unfold po_X12_bad at q1059
    obtain ⟨q1063, q1064, q1065⟩ := q1059
    have F1066 : Fr [(131, 15), (131, 16), (131, 4), (131, 11), (131, 12), (131, 13), (131, 14), (131, 18), (131, 21)] [134, 331, 336] τ t1061 := Fr_call Fr_rfl q1064 (by decide)
    exact r_ret S hr hlk X1060 ⟨q1063, F1066, (R_of q1065 rfl), (by rw [((q1064 131 4 (by decide)).trans z2)]; exact R_of r3 rfl), (by rw [((q1064 131 11 (by decide)).trans z5)]; exact R_of r6 rfl), (by have h1_0 := congrArg Int32.toInt ((q1064 131 4 (by decide)).trans z2); have h2_0 := congrArg Int32.toInt z2; omega), (by have h1_0 := congrArg Int32.toInt ((q1064 131 4 (by decide)).trans z2); have h2_0 := congrArg Int32.toInt z2; omega)⟩ (nr_bool (R_of (lo := 0) (hi := 1) q1065 rfl)) dX12_readMan_18
def po_X12_line (τ : Tau)     (r : Int32) (u : Tau) : Prop := Inv u ∧ Fr [(131, 15), (131, 16), (131, 4), (131, 11), (131, 12), (131, 13), (131, 14), (131, 18), (131, 20), (131, 21)] [134, 331, 336] τ u ∧ R (0) (1) r ∧ R (0) (940) (u 131 4) ∧ R (0) (4) (u 131 11) ∧ (τ 131 4).toInt ≤ (u 131 4).toInt ∧ (r.toInt = 1 → (τ 131 4).toInt < (u 131 4).toInt)
set_option maxHeartbeats 4000000 in
set_option maxRecDepth 100000 in
theorem c_X12_line (l : Launch) (G : Gx) (τ : Tau) (hI : Inv τ) : Ci l G yX12_line cX12_line 3 (some .boolean) 5 109 [.ref (G.2.2.2.1 131)] τ (po_X12_line τ    ) := by
  unfold Ci
  refine C_of (own := RX12) (by decide) rfl (Nat.le_of_ble_eq_true rfl) ?_
  intro p e s m below meth c ls S hr hlk X hl
  have hl : lv_has ls 3 [(0, .ref (G.2.2.2.1 131))] := hl
  obtain ⟨v1, z2⟩ : ∃ x, τ 131 4 = x := ⟨_, rfl⟩
  have r3 : R (0) (940) v1 := rd hI rfl z2
  obtain ⟨v4, z5⟩ : ∃ x, τ 131 11 = x := ⟨_, rfl⟩
  have r6 : R (0) (4) v4 := rd hI rfl z5
  refine r_aload_n S dX12_line_0 rfl (lv_at hl 0 rfl) ?_
  refine lv_ldc2 S.1.1 S.1.2.1 S.1.2.2.2.1 (S.1.2.2.2.2 _ kw29) dX12_line_1 ?_
  refine lv_topl (fun j7 z8 => ?_)
  refine r_ki (q_V (As := [.long j7]) (rest := []) (K := 38) (ci := 10) S X (c_X12_isWord l G τ hI j7) ck12_208 (Nat.le_of_ble_eq_true rfl) rfl (fun _ => ⟨_, rfl⟩) ⟨_, _, rfl⟩ ⟨Nat.le_of_ble_eq_true rfl, Nat.le_of_ble_eq_true rfl⟩ rfl hl.1 rfl (Nat.le_of_ble_eq_true rfl) dX12_line_4 ⟨Nat.le_refl 0, Nat.le_refl 0⟩) X (fun v12 t11 H lc q9 X10 => ?_)
  unfold po_X12_isWord at q9
  obtain ⟨q13, q14, q15⟩ := q9
  rw [q13] at X10
  rw [q13] at q15
  refine r_if_eq (tgt := 20) S dX12_line_7 (by decide) (fun c16 => ?_) (fun c16 => ?_)
  ·
    have r17 : R (0) (0) v12 := ⟨by omega, by omega⟩
    refine r_aload_n S dX12_line_20 rfl (lv_at hl 0 rfl) ?_
    refine lv_ldc2 S.1.1 S.1.2.1 S.1.2.2.2.1 (S.1.2.2.2.2 _ kw30) dX12_line_21 ?_
    refine lv_topl (fun j18 z19 => ?_)
    refine r_ki (q_V (As := [.long j18]) (rest := []) (K := 38) (ci := 10) S X10 (c_X12_isWord l G τ hI j18) ck12_208 (Nat.le_of_ble_eq_true rfl) rfl (fun _ => ⟨_, rfl⟩) ⟨_, _, rfl⟩ ⟨Nat.le_of_ble_eq_true rfl, Nat.le_of_ble_eq_true rfl⟩ rfl hl.1 rfl (Nat.le_of_ble_eq_true rfl) dX12_line_24 ⟨Nat.le_refl 0, Nat.le_refl 0⟩) X10 (fun v23 t22 H lc q20 X21 => ?_)
    unfold po_X12_isWord at q20
    obtain ⟨q24, q25, q26⟩ := q20
    rw [q24] at X21
    rw [q24] at q26
    refine r_if_eq (tgt := 40) S dX12_line_27 (by decide) (fun c27 => ?_) (fun c27 => ?_)
    ·
      have r28 : R (0) (0) v23 := ⟨by omega, by omega⟩
      refine r_aload_n S dX12_line_40 rfl (lv_at hl 0 rfl) ?_
      refine lv_ldc2 S.1.1 S.1.2.1 S.1.2.2.2.1 (S.1.2.2.2.2 _ kw31) dX12_line_41 ?_
      refine lv_topl (fun j29 z30 => ?_)
      refine r_ki (q_V (As := [.long j29]) (rest := []) (K := 38) (ci := 10) S X21 (c_X12_isWord l G τ hI j29) ck12_208 (Nat.le_of_ble_eq_true rfl) rfl (fun _ => ⟨_, rfl⟩) ⟨_, _, rfl⟩ ⟨Nat.le_of_ble_eq_true rfl, Nat.le_of_ble_eq_true rfl⟩ rfl hl.1 rfl (Nat.le_of_ble_eq_true rfl) dX12_line_44 ⟨Nat.le_refl 0, Nat.le_refl 0⟩) X21 (fun v34 t33 H lc q31 X32 => ?_)
      unfold po_X12_isWord at q31
      obtain ⟨q35, q36, q37⟩ := q31
      rw [q35] at X32
      rw [q35] at q37
      refine r_if_eq (tgt := 101) S dX12_line_47 (by decide) (fun c38 => ?_) (fun c38 => ?_)
      ·
        have r39 : R (0) (0) v34 := ⟨by omega, by omega⟩
        refine r_aload_n S dX12_line_101 rfl (lv_at hl 0 rfl) ?_
        refine lv_ldc2 S.1.1 S.1.2.1 S.1.2.2.2.1 (S.1.2.2.2.2 _ kw32) dX12_line_102 ?_
        refine lv_topl (fun j40 z41 => ?_)
        refine r_ki (q_V (As := [.long j40]) (rest := []) (K := 38) (ci := 10) S X32 (c_X12_isWord l G τ hI j40) ck12_208 (Nat.le_of_ble_eq_true rfl) rfl (fun _ => ⟨_, rfl⟩) ⟨_, _, rfl⟩ ⟨Nat.le_of_ble_eq_true rfl, Nat.le_of_ble_eq_true rfl⟩ rfl hl.1 rfl (Nat.le_of_ble_eq_true rfl) dX12_line_105 ⟨Nat.le_refl 0, Nat.le_refl 0⟩) X32 (fun v45 t44 H lc q42 X43 => ?_)
        unfold po_X12_isWord at q42
        obtain ⟨q46, q47, q48⟩ := q42
        rw [q46] at X43
        rw [q46] at q48
        refine r_if_eq (tgt := 116) S dX12_line_108 (by decide) (fun c49 => ?_) (fun c49 => ?_)
        ·
          have r50 : R (0) (0) v45 := ⟨by omega, by omega⟩
          refine r_aload_n S dX12_line_116 rfl (lv_at hl 0 rfl) ?_
          refine lv_ldc2 S.1.1 S.1.2.1 S.1.2.2.2.1 (S.1.2.2.2.2 _ kw33) dX12_line_117 ?_
          refine lv_topl (fun j51 z52 => ?_)
          refine r_ki (q_V (As := [.long j51]) (rest := []) (K := 38) (ci := 10) S X43 (c_X12_isWord l G τ hI j51) ck12_208 (Nat.le_of_ble_eq_true rfl) rfl (fun _ => ⟨_, rfl⟩) ⟨_, _, rfl⟩ ⟨Nat.le_of_ble_eq_true rfl, Nat.le_of_ble_eq_true rfl⟩ rfl hl.1 rfl (Nat.le_of_ble_eq_true rfl) dX12_line_120 ⟨Nat.le_refl 0, Nat.le_refl 0⟩) X43 (fun v56 t55 H lc q53 X54 => ?_)
          unfold po_X12_isWord at q53
          obtain ⟨q57, q58, q59⟩ := q53
          rw [q57] at X54
          rw [q57] at q59
          refine r_istore_n (lv' := [(1, .int v56), (0, .ref (G.2.2.2.1 131))]) S dX12_line_123 rfl hl (by decide) rfl (fun ls hl => ?_)
          refine r_iload_n S dX12_line_124 rfl (lv_at hl 0 rfl) ?_
          refine r_if_ne (tgt := 144) S dX12_line_125 (by decide) (fun c60 => ?_) (fun c60 => ?_)
          ·
            have r61 : R (1) (1) v56 := ⟨by omega, by omega⟩
            have p62 := q59 (by omega)
            have r63 : R (1) (1) v4 := z5 ▸ p62
            have r64 : R (1) (1) v4 := ⟨by omega, by omega⟩
            refine r_aload_n S dX12_line_144 rfl (lv_at hl 1 rfl) ?_
            refine r_kv (q_V (As := []) (rest := []) (K := 38) (ci := 10) S X54 (c_X12_skip l G τ hI ) ck12_186 (Nat.le_of_ble_eq_true rfl) rfl (fun _ => ⟨_, rfl⟩) ⟨_, _, rfl⟩ ⟨Nat.le_of_ble_eq_true rfl, Nat.le_of_ble_eq_true rfl⟩ rfl hl.1 rfl (Nat.le_of_ble_eq_true rfl) dX12_line_145 ⟨Nat.le_refl 0, Nat.le_refl 0⟩) X54 (fun t67 H lc q65 X66 => ?_)
            unfold po_X12_skip at q65
            obtain ⟨q68, q69, q70, q71, q72, q73⟩ := q65
            have F74 : Fr [(131, 15), (131, 16), (131, 4), (131, 11), (131, 12), (131, 13), (131, 14), (131, 18), (131, 20), (131, 21)] [134, 331, 336] τ t67 := Fr_call Fr_rfl q69 (by decide)
            obtain ⟨v75, z76⟩ : ∃ x, t67 131 4 = x := ⟨_, rfl⟩
            rw [z76] at q70
            obtain ⟨v77, z78⟩ : ∃ x, t67 131 11 = x := ⟨_, rfl⟩
            rw [z78] at q71
            have e79 := congrArg Int32.toInt z2
            have e80 := congrArg Int32.toInt z76
            have e81 := congrArg Int32.toInt z2
            have e82 := congrArg Int32.toInt z76
            have e83 := congrArg Int32.toInt z5
            have e84 := congrArg Int32.toInt z78
            refine r_aload_n S dX12_line_148 rfl (lv_at hl 1 rfl) ?_
            refine r_bipush S dX12_line_149 (by decide) (fun v85 z86 => ?_)
            have r87 := R_eq z86
            refine r_aload_n S dX12_line_151 rfl (lv_at hl 1 rfl) ?_
            refine r_get (K := 38) (v := .ref (G.2.2.2.1 134)) S X66 (Nat.le_of_ble_eq_true rfl) rfl lk12_37_10 (fun _ => ⟨_, rfl, rfl⟩) dX12_line_152 ?_
            refine r_iconst S dX12_line_155 (by decide) (fun v88 z89 => ?_)
            have r90 := R_eq z89
            refine r_aldn (n := 125) (K := 41) S X66 (Nat.le_of_ble_eq_true rfl) rfl (fun _ => rfl) (ix_of r90 rfl) dX12_line_156 (fun v91 z92 => ?_)
            have r93 : R (0) (10) v91 := rds (K := 41) (a := 1) (n := 1) q68 rfl z92 (R_of r90 rfl) (by decide +kernel)
            refine r_ki (q_V (As := [.int v85, .int v91]) (rest := []) (K := 38) (ci := 10) S X66 (c_X12_looksAt_m l G t67 q68 v85 v91 (R_of (lo := 9) (hi := 28) r87 rfl) r93) ck12_204 (Nat.le_of_ble_eq_true rfl) rfl (fun _ => ⟨_, rfl⟩) ⟨_, _, rfl⟩ ⟨Nat.le_of_ble_eq_true rfl, Nat.le_of_ble_eq_true rfl⟩ rfl hl.1 rfl (Nat.le_of_ble_eq_true rfl) dX12_line_157 ⟨Nat.le_refl 0, Nat.le_refl 0⟩) X66 (fun v97 t96 H lc q94 X95 => ?_)
            unfold po_X12_looksAt_m at q94
            obtain ⟨q98, q99, q100, q101, q102⟩ := q94
            have F103 : Fr [(131, 15), (131, 16), (131, 4), (131, 11), (131, 12), (131, 13), (131, 14), (131, 18), (131, 20), (131, 21)] [134, 331, 336] τ t96 := Fr_call F74 q99 (by decide)
            have e104 := congrArg Int32.toInt z78
            have e105 := congrArg Int32.toInt ((q99 131 11 (by decide)).trans z78)
            refine r_if_ne (tgt := 165) S dX12_line_160 (by decide) (fun c106 => ?_) (fun c106 => ?_)
            ·
              have r107 : R (1) (1) v97 := ⟨by omega, by omega⟩
              have p108 := q101 (by omega)
              obtain ⟨v109, z110⟩ : ∃ x, t96 131 18 = x := ⟨_, rfl⟩
              rw [z110] at p108
              refine r_aload_n S dX12_line_165 rfl (lv_at hl 1 rfl) ?_
              refine r_geti (K := 38) S X95 (Nat.le_of_ble_eq_true rfl) rfl lk12_193_10 (fun _ => ⟨_, rfl, rfl⟩) z110 dX12_line_166 ?_
              refine r_istore_n (lv' := [(2, .int v109), (1, .int v56), (0, .ref (G.2.2.2.1 131))]) S dX12_line_169 rfl hl (by decide) rfl (fun ls hl => ?_)
              refine r_iload_n S dX12_line_170 rfl (lv_at hl 1 rfl) ?_
              refine r_if_eq (tgt := 192) S dX12_line_171 (by decide) (fun c111 => ?_) (fun c111 => ?_)
              ·
                exfalso; omega
              ·
                refine r_aload_n S dX12_line_174 rfl (lv_at hl 2 rfl) ?_
                refine r_get (K := 38) (v := .ref (G.2.2.2.1 134)) S X95 (Nat.le_of_ble_eq_true rfl) rfl lk12_37_10 (fun _ => ⟨_, rfl, rfl⟩) dX12_line_175 ?_
                refine r_bipush S dX12_line_178 (by decide) (fun v112 z113 => ?_)
                have r114 := R_eq z113
                refine r_iload_n S dX12_line_180 rfl (lv_at hl 0 rfl) ?_
                refine r_iadd S dX12_line_181 (fun v115 z116 => ?_)
                obtain ⟨e117, r118⟩ := i_add (lo := 105) (hi := 114) z116 r114 p108 rfl
                refine r_aldn (n := 125) (K := 41) S X95 (Nat.le_of_ble_eq_true rfl) rfl (fun _ => rfl) (ix_of r118 rfl) dX12_line_182 (fun v119 z120 => ?_)
                have r121 : R (0) (10) v119 := rds (K := 41) (a := 105) (n := 10) q98 rfl z120 (R_of r118 rfl) (by decide +kernel)
                have g122 : Rg 41 v115.toNatClampNeg v119 := rd q98 rfl z120
                refine r_if_le (tgt := 192) S dX12_line_183 (by decide) (fun c123 => ?_) (fun c123 => ?_)
                ·
                  have r124 : R (0) (0) v119 := ⟨by omega, by omega⟩
                  refine r_aload_n S dX12_line_192 rfl (lv_at hl 2 rfl) ?_
                  refine r_kv (q_V (As := []) (rest := []) (K := 38) (ci := 10) S X95 (c_X12_skip l G t96 q98 ) ck12_186 (Nat.le_of_ble_eq_true rfl) rfl (fun _ => ⟨_, rfl⟩) ⟨_, _, rfl⟩ ⟨Nat.le_of_ble_eq_true rfl, Nat.le_of_ble_eq_true rfl⟩ rfl hl.1 rfl (Nat.le_of_ble_eq_true rfl) dX12_line_193 ⟨Nat.le_refl 0, Nat.le_refl 0⟩) X95 (fun t127 H lc q125 X126 => ?_)
                  unfold po_X12_skip at q125
                  obtain ⟨q128, q129, q130, q131, q132, q133⟩ := q125
                  have F134 : Fr [(131, 15), (131, 16), (131, 4), (131, 11), (131, 12), (131, 13), (131, 14), (131, 18), (131, 20), (131, 21)] [134, 331, 336] τ t127 := Fr_call F103 q129 (by decide)
                  obtain ⟨v135, z136⟩ : ∃ x, t127 131 4 = x := ⟨_, rfl⟩
                  rw [z136] at q130
                  obtain ⟨v137, z138⟩ : ∃ x, t127 131 11 = x := ⟨_, rfl⟩
                  rw [z138] at q131
                  have e139 := congrArg Int32.toInt ((q99 131 4 (by decide)).trans z76)
                  have e140 := congrArg Int32.toInt z136
                  have e141 := congrArg Int32.toInt ((q99 131 4 (by decide)).trans z76)
                  have e142 := congrArg Int32.toInt z136
                  have e143 := congrArg Int32.toInt ((q99 131 11 (by decide)).trans z78)
                  have e144 := congrArg Int32.toInt z138
                  refine r_aload_n S dX12_line_196 rfl (lv_at hl 2 rfl) ?_
                  refine r_bipush S dX12_line_197 (by decide) (fun v145 z146 => ?_)
                  have r147 := R_eq z146
                  refine r_aload_n S dX12_line_199 rfl (lv_at hl 2 rfl) ?_
                  refine r_get (K := 38) (v := .ref (G.2.2.2.1 134)) S X126 (Nat.le_of_ble_eq_true rfl) rfl lk12_37_10 (fun _ => ⟨_, rfl, rfl⟩) dX12_line_200 ?_
                  refine r_iconst S dX12_line_203 (by decide) (fun v148 z149 => ?_)
                  have r150 := R_eq z149
                  refine r_aldi (x := v91) (n := 125) (K := 41) S X126 (Nat.le_of_ble_eq_true rfl) rfl (fun _ => rfl) (ix_of r150 rfl) (zc' (n := 1) (by omega) ((q129 134 1 (by decide)).trans ((q99 134 1 (by decide)).trans (zc (n := 1) (by omega) z92)))) dX12_line_204 ?_
                  refine r_ki (q_V (As := [.int v145, .int v91]) (rest := []) (K := 38) (ci := 10) S X126 (c_X12_looksAt_m l G t127 q128 v145 v91 (R_of (lo := 9) (hi := 28) r147 rfl) r93) ck12_204 (Nat.le_of_ble_eq_true rfl) rfl (fun _ => ⟨_, rfl⟩) ⟨_, _, rfl⟩ ⟨Nat.le_of_ble_eq_true rfl, Nat.le_of_ble_eq_true rfl⟩ rfl hl.1 rfl (Nat.le_of_ble_eq_true rfl) dX12_line_205 ⟨Nat.le_refl 0, Nat.le_refl 0⟩) X126 (fun v155 t154 H lc q152 X153 => ?_)
                  unfold po_X12_looksAt_m at q152
                  obtain ⟨q156, q157, q158, q159, q160⟩ := q152
                  have F161 : Fr [(131, 15), (131, 16), (131, 4), (131, 11), (131, 12), (131, 13), (131, 14), (131, 18), (131, 20), (131, 21)] [134, 331, 336] τ t154 := Fr_call F134 q157 (by decide)
                  have e162 := congrArg Int32.toInt z138
                  have e163 := congrArg Int32.toInt ((q157 131 11 (by decide)).trans z138)
                  refine r_if_ne (tgt := 213) S dX12_line_208 (by decide) (fun c164 => ?_) (fun c164 => ?_)
                  ·
                    have r165 : R (1) (1) v155 := ⟨by omega, by omega⟩
                    have p166 := q159 (by omega)
                    obtain ⟨v167, z168⟩ : ∃ x, t154 131 18 = x := ⟨_, rfl⟩
                    rw [z168] at p166
                    refine r_aload_n S dX12_line_213 rfl (lv_at hl 2 rfl) ?_
                    refine r_geti (K := 38) S X153 (Nat.le_of_ble_eq_true rfl) rfl lk12_193_10 (fun _ => ⟨_, rfl, rfl⟩) z168 dX12_line_214 ?_
                    refine r_iload_n S dX12_line_217 rfl (lv_at hl 0 rfl) ?_
                    refine r_icmp_eq (tgt := 244) S dX12_line_218 (by decide) (fun c169 => ?_) (fun c169 => ?_)
                    ·
                      refine r_aload_n S dX12_line_244 rfl (lv_at hl 2 rfl) ?_
                      refine r_iconst S dX12_line_245 (by decide) (fun v170 z171 => ?_)
                      have r172 := R_eq z171
                      refine r_ki (q_V (As := [.int v170]) (rest := []) (K := 38) (ci := 10) S X153 (c_X12_bad l G t154 q156 v170 (R_of (lo := -2147483648) (hi := 2147483647) r172 rfl)) ck12_183 (Nat.le_of_ble_eq_true rfl) rfl (fun _ => ⟨_, rfl⟩) ⟨_, _, rfl⟩ ⟨Nat.le_of_ble_eq_true rfl, Nat.le_of_ble_eq_true rfl⟩ rfl hl.1 rfl (Nat.le_of_ble_eq_true rfl) dX12_line_246 ⟨Nat.le_refl 0, Nat.le_refl 0⟩) X153 (fun v176 t175 H lc q173 X174 => ?_)
                      unfold po_X12_bad at q173
                      obtain ⟨q177, q178, q179⟩ := q173
                      have F180 : Fr [(131, 15), (131, 16), (131, 4), (131, 11), (131, 12), (131, 13), (131, 14), (131, 18), (131, 20), (131, 21)] [134, 331, 336] τ t175 := Fr_call F161 q178 (by decide)
                      exact r_ret S hr hlk X174 ⟨q177, F180, (R_of q179 rfl), (by rw [((q178 131 4 (by decide)).trans ((q157 131 4 (by decide)).trans z136))]; exact R_of q130 rfl), (by rw [((q178 131 11 (by decide)).trans ((q157 131 11 (by decide)).trans z138))]; exact R_of q131 rfl), (by have h1_0 := congrArg Int32.toInt ((q178 131 4 (by decide)).trans ((q157 131 4 (by decide)).trans z136)); have h2_0 := congrArg Int32.toInt z2; omega), (by have h1_0 := congrArg Int32.toInt ((q178 131 4 (by decide)).trans ((q157 131 4 (by decide)).trans z136)); have h2_0 := congrArg Int32.toInt z2; omega)⟩ (nr_bool (R_of (lo := 0) (hi := 1) q179 rfl)) dX12_line_249
                    ·
                      refine r_iload_n S dX12_line_221 rfl (lv_at hl 1 rfl) ?_
                      refine r_if_ne (tgt := 250) S dX12_line_222 (by decide) (fun c181 => ?_) (fun c181 => ?_)
                      ·
                        refine r_iload_n S dX12_line_250 rfl (lv_at hl 1 rfl) ?_
                        refine r_if_eq (tgt := 272) S dX12_line_251 (by decide) (fun c182 => ?_) (fun c182 => ?_)
                        ·
                          exfalso; omega
                        ·
                          refine r_aload_n S dX12_line_254 rfl (lv_at hl 2 rfl) ?_
                          refine r_get (K := 38) (v := .ref (G.2.2.2.1 134)) S X153 (Nat.le_of_ble_eq_true rfl) rfl lk12_37_10 (fun _ => ⟨_, rfl, rfl⟩) dX12_line_255 ?_
                          refine r_bipush S dX12_line_258 (by decide) (fun v183 z184 => ?_)
                          have r185 := R_eq z184
                          refine r_iload_n S dX12_line_260 rfl (lv_at hl 0 rfl) ?_
                          refine r_iadd S dX12_line_261 (fun v186 z187 => ?_)
                          obtain ⟨e188, r189⟩ := i_add (lo := 105) (hi := 114) z187 r185 p108 rfl
                          refine r_aload_n S dX12_line_262 rfl (lv_at hl 2 rfl) ?_
                          refine r_geti (K := 38) S X153 (Nat.le_of_ble_eq_true rfl) rfl lk12_193_10 (fun _ => ⟨_, rfl, rfl⟩) z168 dX12_line_263 ?_
                          refine r_iconst S dX12_line_266 (by decide) (fun v190 z191 => ?_)
                          have r192 := R_eq z191
                          refine r_iadd S dX12_line_267 (fun v193 z194 => ?_)
                          obtain ⟨e195, r196⟩ := i_add (lo := 1) (hi := 10) z194 p166 r192 rfl
                          refine r_ast (n := 125) (K := 41) S X153 (Nat.le_of_ble_eq_true rfl) rfl (fun _ _ => rfl) (ix_of r189 rfl) dX12_line_268 (fun t197 H lc M198 X199 => ?_)
                          have I200 := Inv_mu q156 M198 (show Rg (kd 134) _ v193 from wrs (K := 41) (a := 105) (n := 10) (R_of r189 rfl) (R_of (lo := 0) (hi := 10) r196 rfl) (by decide +kernel))
                          have F201 : Fr [(131, 15), (131, 16), (131, 4), (131, 11), (131, 12), (131, 13), (131, 14), (131, 18), (131, 20), (131, 21)] [134, 331, 336] τ t197 := Fr_cell F161 M198 (by decide)
                          refine r_goto (tgt := 318) S dX12_line_269 (by decide) ?_
                          refine r_aload_n S dX12_line_318 rfl (lv_at hl 2 rfl) ?_
                          refine r_kv (q_V (As := []) (rest := []) (K := 38) (ci := 10) S X199 (c_X12_skip l G t197 I200 ) ck12_186 (Nat.le_of_ble_eq_true rfl) rfl (fun _ => ⟨_, rfl⟩) ⟨_, _, rfl⟩ ⟨Nat.le_of_ble_eq_true rfl, Nat.le_of_ble_eq_true rfl⟩ rfl hl.1 rfl (Nat.le_of_ble_eq_true rfl) dX12_line_319 ⟨Nat.le_refl 0, Nat.le_refl 0⟩) X199 (fun t204 H lc q202 X203 => ?_)
                          unfold po_X12_skip at q202
                          obtain ⟨q205, q206, q207, q208, q209, q210⟩ := q202
                          have F211 : Fr [(131, 15), (131, 16), (131, 4), (131, 11), (131, 12), (131, 13), (131, 14), (131, 18), (131, 20), (131, 21)] [134, 331, 336] τ t204 := Fr_call F201 q206 (by decide)
                          obtain ⟨v212, z213⟩ : ∃ x, t204 131 4 = x := ⟨_, rfl⟩
                          rw [z213] at q207
                          obtain ⟨v214, z215⟩ : ∃ x, t204 131 11 = x := ⟨_, rfl⟩
                          rw [z215] at q208
                          have e216 := congrArg Int32.toInt ((M198.2 131 4 (Or.inl (by decide))).trans ((q157 131 4 (by decide)).trans z136))
                          have e217 := congrArg Int32.toInt z213
                          have e218 := congrArg Int32.toInt ((M198.2 131 4 (Or.inl (by decide))).trans ((q157 131 4 (by decide)).trans z136))
                          have e219 := congrArg Int32.toInt z213
                          have e220 := congrArg Int32.toInt ((M198.2 131 11 (Or.inl (by decide))).trans ((q157 131 11 (by decide)).trans z138))
                          have e221 := congrArg Int32.toInt z215
                          refine r_iconst S dX12_line_322 (by decide) (fun v222 z223 => ?_)
                          have r224 := R_eq z223
                          exact r_ret S hr hlk X203 ⟨q205, F211, (R_of r224 rfl), (by rw [z213]; exact R_of q207 rfl), (by rw [z215]; exact R_of q208 rfl), (by have h1_0 := congrArg Int32.toInt z213; have h2_0 := congrArg Int32.toInt z2; omega), (by have h1_0 := congrArg Int32.toInt z213; have h2_0 := congrArg Int32.toInt z2; omega)⟩ (nr_bool (R_of (lo := 0) (hi := 1) r224 rfl)) dX12_line_323
                      ·
                        exfalso; omega
                  ·
                    have r225 : R (0) (0) v155 := ⟨by omega, by omega⟩
                    refine r_iconst S dX12_line_211 (by decide) (fun v226 z227 => ?_)
                    have r228 := R_eq z227
                    exact r_ret S hr hlk X153 ⟨q156, F161, (R_of r228 rfl), (by rw [((q157 131 4 (by decide)).trans z136)]; exact R_of q130 rfl), (by rw [((q157 131 11 (by decide)).trans z138)]; exact R_of q131 rfl), (by have h1_0 := congrArg Int32.toInt ((q157 131 4 (by decide)).trans z136); have h2_0 := congrArg Int32.toInt z2; omega), (by have h1_0 := congrArg Int32.toInt ((q157 131 4 (by decide)).trans z136); have h2_0 := congrArg Int32.toInt z2; omega)⟩ (nr_bool (R_of (lo := 0) (hi := 1) r228 rfl)) dX12_line_212
                ·
                  have r229 : R (1) (10) v119 := ⟨by omega, by omega⟩
                  refine r_aload_n S dX12_line_186 rfl (lv_at hl 2 rfl) ?_
                  refine r_iconst S dX12_line_187 (by decide) (fun v230 z231 => ?_)
                  have r232 := R_eq z231
                  refine r_ki (q_V (As := [.int v230]) (rest := []) (K := 38) (ci := 10) S X95 (c_X12_bad l G t96 q98 v230 (R_of (lo := -2147483648) (hi := 2147483647) r232 rfl)) ck12_183 (Nat.le_of_ble_eq_true rfl) rfl (fun _ => ⟨_, rfl⟩) ⟨_, _, rfl⟩ ⟨Nat.le_of_ble_eq_true rfl, Nat.le_of_ble_eq_true rfl⟩ rfl hl.1 rfl (Nat.le_of_ble_eq_true rfl) dX12_line_188 ⟨Nat.le_refl 0, Nat.le_refl 0⟩) X95 (fun v236 t235 H lc q233 X234 => ?_)
                  unfold po_X12_bad at q233
                  obtain ⟨q237, q238, q239⟩ := q233
                  have F240 : Fr [(131, 15), (131, 16), (131, 4), (131, 11), (131, 12), (131, 13), (131, 14), (131, 18), (131, 20), (131, 21)] [134, 331, 336] τ t235 := Fr_call F103 q238 (by decide)
                  exact r_ret S hr hlk X234 ⟨q237, F240, (R_of q239 rfl), (by rw [((q238 131 4 (by decide)).trans ((q99 131 4 (by decide)).trans z76))]; exact R_of q70 rfl), (by rw [((q238 131 11 (by decide)).trans ((q99 131 11 (by decide)).trans z78))]; exact R_of q71 rfl), (by have h1_0 := congrArg Int32.toInt ((q238 131 4 (by decide)).trans ((q99 131 4 (by decide)).trans z76)); have h2_0 := congrArg Int32.toInt z2; omega), (by have h1_0 := congrArg Int32.toInt ((q238 131 4 (by decide)).trans ((q99 131 4 (by decide)).trans z76)); have h2_0 := congrArg Int32.toInt z2; omega)⟩ (nr_bool (R_of (lo := 0) (hi := 1) q239 rfl)) dX12_line_191
            ·
              have r241 : R (0) (0) v97 := ⟨by omega, by omega⟩
              refine r_iconst S dX12_line_163 (by decide) (fun v242 z243 => ?_)
              have r244 := R_eq z243
              exact r_ret S hr hlk X95 ⟨q98, F103, (R_of r244 rfl), (by rw [((q99 131 4 (by decide)).trans z76)]; exact R_of q70 rfl), (by rw [((q99 131 11 (by decide)).trans z78)]; exact R_of q71 rfl), (by have h1_0 := congrArg Int32.toInt ((q99 131 4 (by decide)).trans z76); have h2_0 := congrArg Int32.toInt z2; omega), (by have h1_0 := congrArg Int32.toInt ((q99 131 4 (by decide)).trans z76); have h2_0 := congrArg Int32.toInt z2; omega)⟩ (nr_bool (R_of (lo := 0) (hi := 1) r244 rfl)) dX12_line_164
          ·
            have r245 : R (0) (0) v56 := ⟨by omega, by omega⟩
            refine r_aload_n S dX12_line_128 rfl (lv_at hl 1 rfl) ?_
            refine lv_ldc2 S.1.1 S.1.2.1 S.1.2.2.2.1 (S.1.2.2.2.2 _ kw34) dX12_line_129 ?_
            refine lv_topl (fun j246 z247 => ?_)
            refine r_ki (q_V (As := [.long j246]) (rest := []) (K := 38) (ci := 10) S X54 (c_X12_isWord l G τ hI j246) ck12_208 (Nat.le_of_ble_eq_true rfl) rfl (fun _ => ⟨_, rfl⟩) ⟨_, _, rfl⟩ ⟨Nat.le_of_ble_eq_true rfl, Nat.le_of_ble_eq_true rfl⟩ rfl hl.1 rfl (Nat.le_of_ble_eq_true rfl) dX12_line_132 ⟨Nat.le_refl 0, Nat.le_refl 0⟩) X54 (fun v251 t250 H lc q248 X249 => ?_)
            unfold po_X12_isWord at q248
            obtain ⟨q252, q253, q254⟩ := q248
            rw [q252] at X249
            rw [q252] at q254
            refine r_if_ne (tgt := 144) S dX12_line_135 (by decide) (fun c255 => ?_) (fun c255 => ?_)
            ·
              have r256 : R (1) (1) v251 := ⟨by omega, by omega⟩
              have p257 := q254 (by omega)
              have r258 : R (1) (1) v4 := z5 ▸ p257
              have r259 : R (1) (1) v4 := ⟨by omega, by omega⟩
              refine r_aload_n S dX12_line_144 rfl (lv_at hl 1 rfl) ?_
              refine r_kv (q_V (As := []) (rest := []) (K := 38) (ci := 10) S X249 (c_X12_skip l G τ hI ) ck12_186 (Nat.le_of_ble_eq_true rfl) rfl (fun _ => ⟨_, rfl⟩) ⟨_, _, rfl⟩ ⟨Nat.le_of_ble_eq_true rfl, Nat.le_of_ble_eq_true rfl⟩ rfl hl.1 rfl (Nat.le_of_ble_eq_true rfl) dX12_line_145 ⟨Nat.le_refl 0, Nat.le_refl 0⟩) X249 (fun t262 H lc q260 X261 => ?_)
              unfold po_X12_skip at q260
              obtain ⟨q263, q264, q265, q266, q267, q268⟩ := q260
              have F269 : Fr [(131, 15), (131, 16), (131, 4), (131, 11), (131, 12), (131, 13), (131, 14), (131, 18), (131, 20), (131, 21)] [134, 331, 336] τ t262 := Fr_call Fr_rfl q264 (by decide)
              obtain ⟨v270, z271⟩ : ∃ x, t262 131 4 = x := ⟨_, rfl⟩
              rw [z271] at q265
              obtain ⟨v272, z273⟩ : ∃ x, t262 131 11 = x := ⟨_, rfl⟩
              rw [z273] at q266
              have e274 := congrArg Int32.toInt z2
              have e275 := congrArg Int32.toInt z271
              have e276 := congrArg Int32.toInt z2
              have e277 := congrArg Int32.toInt z271
              have e278 := congrArg Int32.toInt z5
              have e279 := congrArg Int32.toInt z273
              refine r_aload_n S dX12_line_148 rfl (lv_at hl 1 rfl) ?_
              refine r_bipush S dX12_line_149 (by decide) (fun v280 z281 => ?_)
              have r282 := R_eq z281
              refine r_aload_n S dX12_line_151 rfl (lv_at hl 1 rfl) ?_
              refine r_get (K := 38) (v := .ref (G.2.2.2.1 134)) S X261 (Nat.le_of_ble_eq_true rfl) rfl lk12_37_10 (fun _ => ⟨_, rfl, rfl⟩) dX12_line_152 ?_
              refine r_iconst S dX12_line_155 (by decide) (fun v283 z284 => ?_)
              have r285 := R_eq z284
              refine r_aldn (n := 125) (K := 41) S X261 (Nat.le_of_ble_eq_true rfl) rfl (fun _ => rfl) (ix_of r285 rfl) dX12_line_156 (fun v286 z287 => ?_)
              have r288 : R (0) (10) v286 := rds (K := 41) (a := 1) (n := 1) q263 rfl z287 (R_of r285 rfl) (by decide +kernel)
              refine r_ki (q_V (As := [.int v280, .int v286]) (rest := []) (K := 38) (ci := 10) S X261 (c_X12_looksAt_m l G t262 q263 v280 v286 (R_of (lo := 9) (hi := 28) r282 rfl) r288) ck12_204 (Nat.le_of_ble_eq_true rfl) rfl (fun _ => ⟨_, rfl⟩) ⟨_, _, rfl⟩ ⟨Nat.le_of_ble_eq_true rfl, Nat.le_of_ble_eq_true rfl⟩ rfl hl.1 rfl (Nat.le_of_ble_eq_true rfl) dX12_line_157 ⟨Nat.le_refl 0, Nat.le_refl 0⟩) X261 (fun v292 t291 H lc q289 X290 => ?_)
              unfold po_X12_looksAt_m at q289
              obtain ⟨q293, q294, q295, q296, q297⟩ := q289
              have F298 : Fr [(131, 15), (131, 16), (131, 4), (131, 11), (131, 12), (131, 13), (131, 14), (131, 18), (131, 20), (131, 21)] [134, 331, 336] τ t291 := Fr_call F269 q294 (by decide)
              have e299 := congrArg Int32.toInt z273
              have e300 := congrArg Int32.toInt ((q294 131 11 (by decide)).trans z273)
              refine r_if_ne (tgt := 165) S dX12_line_160 (by decide) (fun c301 => ?_) (fun c301 => ?_)
              ·
                have r302 : R (1) (1) v292 := ⟨by omega, by omega⟩
                have p303 := q296 (by omega)
                obtain ⟨v304, z305⟩ : ∃ x, t291 131 18 = x := ⟨_, rfl⟩
                rw [z305] at p303
                refine r_aload_n S dX12_line_165 rfl (lv_at hl 1 rfl) ?_
                refine r_geti (K := 38) S X290 (Nat.le_of_ble_eq_true rfl) rfl lk12_193_10 (fun _ => ⟨_, rfl, rfl⟩) z305 dX12_line_166 ?_
                refine r_istore_n (lv' := [(2, .int v304), (1, .int v56), (0, .ref (G.2.2.2.1 131))]) S dX12_line_169 rfl hl (by decide) rfl (fun ls hl => ?_)
                refine r_iload_n S dX12_line_170 rfl (lv_at hl 1 rfl) ?_
                refine r_if_eq (tgt := 192) S dX12_line_171 (by decide) (fun c306 => ?_) (fun c306 => ?_)
                ·
                  refine r_aload_n S dX12_line_192 rfl (lv_at hl 2 rfl) ?_
                  refine r_kv (q_V (As := []) (rest := []) (K := 38) (ci := 10) S X290 (c_X12_skip l G t291 q293 ) ck12_186 (Nat.le_of_ble_eq_true rfl) rfl (fun _ => ⟨_, rfl⟩) ⟨_, _, rfl⟩ ⟨Nat.le_of_ble_eq_true rfl, Nat.le_of_ble_eq_true rfl⟩ rfl hl.1 rfl (Nat.le_of_ble_eq_true rfl) dX12_line_193 ⟨Nat.le_refl 0, Nat.le_refl 0⟩) X290 (fun t309 H lc q307 X308 => ?_)
                  unfold po_X12_skip at q307
                  obtain ⟨q310, q311, q312, q313, q314, q315⟩ := q307
                  have F316 : Fr [(131, 15), (131, 16), (131, 4), (131, 11), (131, 12), (131, 13), (131, 14), (131, 18), (131, 20), (131, 21)] [134, 331, 336] τ t309 := Fr_call F298 q311 (by decide)
                  obtain ⟨v317, z318⟩ : ∃ x, t309 131 4 = x := ⟨_, rfl⟩
                  rw [z318] at q312
                  obtain ⟨v319, z320⟩ : ∃ x, t309 131 11 = x := ⟨_, rfl⟩
                  rw [z320] at q313
                  have e321 := congrArg Int32.toInt ((q294 131 4 (by decide)).trans z271)
                  have e322 := congrArg Int32.toInt z318
                  have e323 := congrArg Int32.toInt ((q294 131 4 (by decide)).trans z271)
                  have e324 := congrArg Int32.toInt z318
                  have e325 := congrArg Int32.toInt ((q294 131 11 (by decide)).trans z273)
                  have e326 := congrArg Int32.toInt z320
                  refine r_aload_n S dX12_line_196 rfl (lv_at hl 2 rfl) ?_
                  refine r_bipush S dX12_line_197 (by decide) (fun v327 z328 => ?_)
                  have r329 := R_eq z328
                  refine r_aload_n S dX12_line_199 rfl (lv_at hl 2 rfl) ?_
                  refine r_get (K := 38) (v := .ref (G.2.2.2.1 134)) S X308 (Nat.le_of_ble_eq_true rfl) rfl lk12_37_10 (fun _ => ⟨_, rfl, rfl⟩) dX12_line_200 ?_
                  refine r_iconst S dX12_line_203 (by decide) (fun v330 z331 => ?_)
                  have r332 := R_eq z331
                  refine r_aldi (x := v286) (n := 125) (K := 41) S X308 (Nat.le_of_ble_eq_true rfl) rfl (fun _ => rfl) (ix_of r332 rfl) (zc' (n := 1) (by omega) ((q311 134 1 (by decide)).trans ((q294 134 1 (by decide)).trans (zc (n := 1) (by omega) z287)))) dX12_line_204 ?_
                  refine r_ki (q_V (As := [.int v327, .int v286]) (rest := []) (K := 38) (ci := 10) S X308 (c_X12_looksAt_m l G t309 q310 v327 v286 (R_of (lo := 9) (hi := 28) r329 rfl) r288) ck12_204 (Nat.le_of_ble_eq_true rfl) rfl (fun _ => ⟨_, rfl⟩) ⟨_, _, rfl⟩ ⟨Nat.le_of_ble_eq_true rfl, Nat.le_of_ble_eq_true rfl⟩ rfl hl.1 rfl (Nat.le_of_ble_eq_true rfl) dX12_line_205 ⟨Nat.le_refl 0, Nat.le_refl 0⟩) X308 (fun v337 t336 H lc q334 X335 => ?_)
                  unfold po_X12_looksAt_m at q334
                  obtain ⟨q338, q339, q340, q341, q342⟩ := q334
                  have F343 : Fr [(131, 15), (131, 16), (131, 4), (131, 11), (131, 12), (131, 13), (131, 14), (131, 18), (131, 20), (131, 21)] [134, 331, 336] τ t336 := Fr_call F316 q339 (by decide)
                  have e344 := congrArg Int32.toInt z320
                  have e345 := congrArg Int32.toInt ((q339 131 11 (by decide)).trans z320)
                  refine r_if_ne (tgt := 213) S dX12_line_208 (by decide) (fun c346 => ?_) (fun c346 => ?_)
                  ·
                    have r347 : R (1) (1) v337 := ⟨by omega, by omega⟩
                    have p348 := q341 (by omega)
                    obtain ⟨v349, z350⟩ : ∃ x, t336 131 18 = x := ⟨_, rfl⟩
                    rw [z350] at p348
                    refine r_aload_n S dX12_line_213 rfl (lv_at hl 2 rfl) ?_
                    refine r_geti (K := 38) S X335 (Nat.le_of_ble_eq_true rfl) rfl lk12_193_10 (fun _ => ⟨_, rfl, rfl⟩) z350 dX12_line_214 ?_
                    refine r_iload_n S dX12_line_217 rfl (lv_at hl 0 rfl) ?_
                    refine r_icmp_eq (tgt := 244) S dX12_line_218 (by decide) (fun c351 => ?_) (fun c351 => ?_)
                    ·
                      refine r_aload_n S dX12_line_244 rfl (lv_at hl 2 rfl) ?_
                      refine r_iconst S dX12_line_245 (by decide) (fun v352 z353 => ?_)
                      have r354 := R_eq z353
                      refine r_ki (q_V (As := [.int v352]) (rest := []) (K := 38) (ci := 10) S X335 (c_X12_bad l G t336 q338 v352 (R_of (lo := -2147483648) (hi := 2147483647) r354 rfl)) ck12_183 (Nat.le_of_ble_eq_true rfl) rfl (fun _ => ⟨_, rfl⟩) ⟨_, _, rfl⟩ ⟨Nat.le_of_ble_eq_true rfl, Nat.le_of_ble_eq_true rfl⟩ rfl hl.1 rfl (Nat.le_of_ble_eq_true rfl) dX12_line_246 ⟨Nat.le_refl 0, Nat.le_refl 0⟩) X335 (fun v358 t357 H lc q355 X356 => ?_)
                      unfold po_X12_bad at q355
                      obtain ⟨q359, q360, q361⟩ := q355
                      have F362 : Fr [(131, 15), (131, 16), (131, 4), (131, 11), (131, 12), (131, 13), (131, 14), (131, 18), (131, 20), (131, 21)] [134, 331, 336] τ t357 := Fr_call F343 q360 (by decide)
                      exact r_ret S hr hlk X356 ⟨q359, F362, (R_of q361 rfl), (by rw [((q360 131 4 (by decide)).trans ((q339 131 4 (by decide)).trans z318))]; exact R_of q312 rfl), (by rw [((q360 131 11 (by decide)).trans ((q339 131 11 (by decide)).trans z320))]; exact R_of q313 rfl), (by have h1_0 := congrArg Int32.toInt ((q360 131 4 (by decide)).trans ((q339 131 4 (by decide)).trans z318)); have h2_0 := congrArg Int32.toInt z2; omega), (by have h1_0 := congrArg Int32.toInt ((q360 131 4 (by decide)).trans ((q339 131 4 (by decide)).trans z318)); have h2_0 := congrArg Int32.toInt z2; omega)⟩ (nr_bool (R_of (lo := 0) (hi := 1) q361 rfl)) dX12_line_249
                    ·
                      refine r_iload_n S dX12_line_221 rfl (lv_at hl 1 rfl) ?_
                      refine r_if_ne (tgt := 250) S dX12_line_222 (by decide) (fun c363 => ?_) (fun c363 => ?_)
                      ·
                        exfalso; omega
                      ·
                        refine r_aload_n S dX12_line_225 rfl (lv_at hl 2 rfl) ?_
                        refine r_get (K := 38) (v := .ref (G.2.2.2.1 134)) S X335 (Nat.le_of_ble_eq_true rfl) rfl lk12_37_10 (fun _ => ⟨_, rfl, rfl⟩) dX12_line_226 ?_
                        refine r_bipush S dX12_line_229 (by decide) (fun v364 z365 => ?_)
                        have r366 := R_eq z365
                        refine r_iload_n S dX12_line_231 rfl (lv_at hl 0 rfl) ?_
                        refine r_iadd S dX12_line_232 (fun v367 z368 => ?_)
                        obtain ⟨e369, r370⟩ := i_add (lo := 115) (hi := 124) z368 r366 p303 rfl
                        refine r_aldn (n := 125) (K := 41) S X335 (Nat.le_of_ble_eq_true rfl) rfl (fun _ => rfl) (ix_of r370 rfl) dX12_line_233 (fun v371 z372 => ?_)
                        have r373 : R (0) (1023) v371 := rds (K := 41) (a := 115) (n := 10) q338 rfl z372 (R_of r370 rfl) (by decide +kernel)
                        have g374 : Rg 41 v367.toNatClampNeg v371 := rd q338 rfl z372
                        refine r_aload_n S dX12_line_234 rfl (lv_at hl 2 rfl) ?_
                        refine r_geti (K := 38) S X335 (Nat.le_of_ble_eq_true rfl) rfl lk12_193_10 (fun _ => ⟨_, rfl, rfl⟩) z350 dX12_line_235 ?_
                        refine r_ki (q_S (As := [.int v371, .int v349]) (rest := []) S X335 (c_X12_bitOf l G t336 q338 v371 v349 (R_of (lo := -2147483648) (hi := 2147483647) r373 rfl) (R_of (lo := -2147483648) (hi := 2147483647) p348 rfl)) ck12_221 ⟨Nat.le_of_ble_eq_true rfl, Nat.le_of_ble_eq_true rfl⟩ rfl hl.1 rfl (Nat.le_of_ble_eq_true rfl) dX12_line_238 ⟨Nat.le_refl 0, Nat.le_refl 0⟩) X335 (fun v378 t377 H lc q375 X376 => ?_)
                        unfold po_X12_bitOf at q375
                        obtain ⟨q379, q380⟩ := q375
                        rw [q379] at X376
                        refine r_if_eq (tgt := 250) S dX12_line_241 (by decide) (fun c381 => ?_) (fun c381 => ?_)
                        ·
                          have r382 : R (0) (0) v378 := ⟨by omega, by omega⟩
                          refine r_iload_n S dX12_line_250 rfl (lv_at hl 1 rfl) ?_
                          refine r_if_eq (tgt := 272) S dX12_line_251 (by decide) (fun c383 => ?_) (fun c383 => ?_)
                          ·
                            refine r_aload_n S dX12_line_272 rfl (lv_at hl 2 rfl) ?_
                            refine r_get (K := 38) (v := .ref (G.2.2.2.1 134)) S X376 (Nat.le_of_ble_eq_true rfl) rfl lk12_37_10 (fun _ => ⟨_, rfl, rfl⟩) dX12_line_273 ?_
                            refine r_bipush S dX12_line_276 (by decide) (fun v384 z385 => ?_)
                            have r386 := R_eq z385
                            refine r_iload_n S dX12_line_278 rfl (lv_at hl 0 rfl) ?_
                            refine r_iadd S dX12_line_279 (fun v387 z388 => ?_)
                            obtain ⟨e389, r390⟩ := i_add (lo := 115) (hi := 124) z388 r386 p303 rfl
                            refine r_dup2 S dX12_line_280 rfl rfl ?_
                            refine r_aldn (n := 125) (K := 41) S X376 (Nat.le_of_ble_eq_true rfl) rfl (fun _ => rfl) (ix_of r390 rfl) dX12_line_281 (fun v391 z392 => ?_)
                            have r393 : R (0) (1023) v391 := rds (K := 41) (a := 115) (n := 10) q338 rfl z392 (R_of r390 rfl) (by decide +kernel)
                            have g394 : Rg 41 v387.toNatClampNeg v391 := rd q338 rfl z392
                            refine r_iconst S dX12_line_282 (by decide) (fun v395 z396 => ?_)
                            have r397 := R_eq z396
                            refine r_aload_n S dX12_line_283 rfl (lv_at hl 2 rfl) ?_
                            refine r_geti (K := 38) S X376 (Nat.le_of_ble_eq_true rfl) rfl lk12_193_10 (fun _ => ⟨_, rfl, rfl⟩) z350 dX12_line_284 ?_
                            refine r_ishl S dX12_line_287 (fun v398 z399 => ?_)
                            have r401 : R (1) (512) v398 := i_shl z399 r397 p348 rfl
                            refine r_ior S dX12_line_288 (fun v402 z403 => ?_)
                            have r405 : R (0) (1023) v402 := i_or 10 z403 r393 r401 rfl
                            refine r_ast (n := 125) (K := 41) S X376 (Nat.le_of_ble_eq_true rfl) rfl (fun _ _ => rfl) (ix_of r390 rfl) dX12_line_289 (fun t406 H lc M407 X408 => ?_)
                            have I409 := Inv_mu q338 M407 (show Rg (kd 134) _ v402 from wrs (K := 41) (a := 115) (n := 10) (R_of r390 rfl) (R_of (lo := 0) (hi := 1023) r405 rfl) (by decide +kernel))
                            have F410 : Fr [(131, 15), (131, 16), (131, 4), (131, 11), (131, 12), (131, 13), (131, 14), (131, 18), (131, 20), (131, 21)] [134, 331, 336] τ t406 := Fr_cell F343 M407 (by decide)
                            refine r_aload_n S dX12_line_290 rfl (lv_at hl 2 rfl) ?_
                            refine r_get (K := 38) (v := .ref (G.2.2.2.1 134)) S X408 (Nat.le_of_ble_eq_true rfl) rfl lk12_37_10 (fun _ => ⟨_, rfl, rfl⟩) dX12_line_291 ?_
                            refine r_bipush S dX12_line_294 (by decide) (fun v411 z412 => ?_)
                            have r413 := R_eq z412
                            refine r_aload_n S dX12_line_296 rfl (lv_at hl 2 rfl) ?_
                            refine r_geti (K := 38) S X408 (Nat.le_of_ble_eq_true rfl) rfl lk12_193_10 (fun _ => ⟨_, rfl, rfl⟩) ((M407.2 131 18 (Or.inl (by decide))).trans z350) dX12_line_297 ?_
                            refine r_iadd S dX12_line_300 (fun v414 z415 => ?_)
                            obtain ⟨e416, r417⟩ := i_add (lo := 115) (hi := 124) z415 r413 p348 rfl
                            refine r_dup2 S dX12_line_301 rfl rfl ?_
                            refine r_aldn (n := 125) (K := 41) S X408 (Nat.le_of_ble_eq_true rfl) rfl (fun _ => rfl) (ix_of r417 rfl) dX12_line_302 (fun v418 z419 => ?_)
                            have r420 : R (0) (1023) v418 := rds (K := 41) (a := 115) (n := 10) I409 rfl z419 (R_of r417 rfl) (by decide +kernel)
                            have g421 : Rg 41 v414.toNatClampNeg v418 := rd I409 rfl z419
                            refine r_iconst S dX12_line_303 (by decide) (fun v422 z423 => ?_)
                            have r424 := R_eq z423
                            refine r_iload_n S dX12_line_304 rfl (lv_at hl 0 rfl) ?_
                            refine r_ishl S dX12_line_305 (fun v425 z426 => ?_)
                            have r428 : R (1) (512) v425 := i_shl z426 r424 p303 rfl
                            refine r_ior S dX12_line_306 (fun v429 z430 => ?_)
                            have r432 : R (0) (1023) v429 := i_or 10 z430 r420 r428 rfl
                            refine r_ast (n := 125) (K := 41) S X408 (Nat.le_of_ble_eq_true rfl) rfl (fun _ _ => rfl) (ix_of r417 rfl) dX12_line_307 (fun t433 H lc M434 X435 => ?_)
                            have I436 := Inv_mu I409 M434 (show Rg (kd 134) _ v429 from wrs (K := 41) (a := 115) (n := 10) (R_of r417 rfl) (R_of (lo := 0) (hi := 1023) r432 rfl) (by decide +kernel))
                            have F437 : Fr [(131, 15), (131, 16), (131, 4), (131, 11), (131, 12), (131, 13), (131, 14), (131, 18), (131, 20), (131, 21)] [134, 331, 336] τ t433 := Fr_cell F410 M434 (by decide)
                            refine r_aload_n S dX12_line_308 rfl (lv_at hl 2 rfl) ?_
                            refine r_get (K := 38) (v := .ref (G.2.2.2.1 134)) S X435 (Nat.le_of_ble_eq_true rfl) rfl lk12_37_10 (fun _ => ⟨_, rfl, rfl⟩) dX12_line_309 ?_
                            refine r_iconst S dX12_line_312 (by decide) (fun v438 z439 => ?_)
                            have r440 := R_eq z439
                            refine r_dup2 S dX12_line_313 rfl rfl ?_
                            refine r_aldn (n := 125) (K := 41) S X435 (Nat.le_of_ble_eq_true rfl) rfl (fun _ => rfl) (ix_of r440 rfl) dX12_line_314 (fun v441 z442 => ?_)
                            have r444 := R_any v441
                            refine r_iconst S dX12_line_315 (by decide) (fun v445 z446 => ?_)
                            have r447 := R_eq z446
                            refine r_iadd S dX12_line_316 (fun v448 z449 => ?_)
                            have r450 := R_any v448
                            refine r_ast (n := 125) (K := 41) S X435 (Nat.le_of_ble_eq_true rfl) rfl (fun _ _ => rfl) (ix_of r440 rfl) dX12_line_317 (fun t451 H lc M452 X453 => ?_)
                            have I454 := Inv_mu I436 M452 (show Rg (kd 134) _ v448 from wrs (K := 41) (a := 4) (n := 1) (R_of r440 rfl) (R_of (lo := -2147483648) (hi := 2147483647) r450 rfl) (by decide +kernel))
                            have F455 : Fr [(131, 15), (131, 16), (131, 4), (131, 11), (131, 12), (131, 13), (131, 14), (131, 18), (131, 20), (131, 21)] [134, 331, 336] τ t451 := Fr_cell F437 M452 (by decide)
                            refine r_aload_n S dX12_line_318 rfl (lv_at hl 2 rfl) ?_
                            refine r_kv (q_V (As := []) (rest := []) (K := 38) (ci := 10) S X453 (c_X12_skip l G t451 I454 ) ck12_186 (Nat.le_of_ble_eq_true rfl) rfl (fun _ => ⟨_, rfl⟩) ⟨_, _, rfl⟩ ⟨Nat.le_of_ble_eq_true rfl, Nat.le_of_ble_eq_true rfl⟩ rfl hl.1 rfl (Nat.le_of_ble_eq_true rfl) dX12_line_319 ⟨Nat.le_refl 0, Nat.le_refl 0⟩) X453 (fun t458 H lc q456 X457 => ?_)
                            unfold po_X12_skip at q456
                            obtain ⟨q459, q460, q461, q462, q463, q464⟩ := q456
                            have F465 : Fr [(131, 15), (131, 16), (131, 4), (131, 11), (131, 12), (131, 13), (131, 14), (131, 18), (131, 20), (131, 21)] [134, 331, 336] τ t458 := Fr_call F455 q460 (by decide)
                            obtain ⟨v466, z467⟩ : ∃ x, t458 131 4 = x := ⟨_, rfl⟩
                            rw [z467] at q461
                            obtain ⟨v468, z469⟩ : ∃ x, t458 131 11 = x := ⟨_, rfl⟩
                            rw [z469] at q462
                            have e470 := congrArg Int32.toInt ((M452.2 131 4 (Or.inl (by decide))).trans ((M434.2 131 4 (Or.inl (by decide))).trans ((M407.2 131 4 (Or.inl (by decide))).trans ((q339 131 4 (by decide)).trans z318))))
                            have e471 := congrArg Int32.toInt z467
                            have e472 := congrArg Int32.toInt ((M452.2 131 4 (Or.inl (by decide))).trans ((M434.2 131 4 (Or.inl (by decide))).trans ((M407.2 131 4 (Or.inl (by decide))).trans ((q339 131 4 (by decide)).trans z318))))
                            have e473 := congrArg Int32.toInt z467
                            have e474 := congrArg Int32.toInt ((M452.2 131 11 (Or.inl (by decide))).trans ((M434.2 131 11 (Or.inl (by decide))).trans ((M407.2 131 11 (Or.inl (by decide))).trans ((q339 131 11 (by decide)).trans z320))))
                            have e475 := congrArg Int32.toInt z469
                            refine r_iconst S dX12_line_322 (by decide) (fun v476 z477 => ?_)
                            have r478 := R_eq z477
                            exact r_ret S hr hlk X457 ⟨q459, F465, (R_of r478 rfl), (by rw [z467]; exact R_of q461 rfl), (by rw [z469]; exact R_of q462 rfl), (by have h1_0 := congrArg Int32.toInt z467; have h2_0 := congrArg Int32.toInt z2; omega), (by have h1_0 := congrArg Int32.toInt z467; have h2_0 := congrArg Int32.toInt z2; omega)⟩ (nr_bool (R_of (lo := 0) (hi := 1) r478 rfl)) dX12_line_323
                          ·
                            exfalso; omega
                        ·
                          have r479 : R (1) (1) v378 := ⟨by omega, by omega⟩
                          refine r_aload_n S dX12_line_244 rfl (lv_at hl 2 rfl) ?_
                          refine r_iconst S dX12_line_245 (by decide) (fun v480 z481 => ?_)
                          have r482 := R_eq z481
                          refine r_ki (q_V (As := [.int v480]) (rest := []) (K := 38) (ci := 10) S X376 (c_X12_bad l G t336 q338 v480 (R_of (lo := -2147483648) (hi := 2147483647) r482 rfl)) ck12_183 (Nat.le_of_ble_eq_true rfl) rfl (fun _ => ⟨_, rfl⟩) ⟨_, _, rfl⟩ ⟨Nat.le_of_ble_eq_true rfl, Nat.le_of_ble_eq_true rfl⟩ rfl hl.1 rfl (Nat.le_of_ble_eq_true rfl) dX12_line_246 ⟨Nat.le_refl 0, Nat.le_refl 0⟩) X376 (fun v486 t485 H lc q483 X484 => ?_)
                          unfold po_X12_bad at q483
                          obtain ⟨q487, q488, q489⟩ := q483
                          have F490 : Fr [(131, 15), (131, 16), (131, 4), (131, 11), (131, 12), (131, 13), (131, 14), (131, 18), (131, 20), (131, 21)] [134, 331, 336] τ t485 := Fr_call F343 q488 (by decide)
                          exact r_ret S hr hlk X484 ⟨q487, F490, (R_of q489 rfl), (by rw [((q488 131 4 (by decide)).trans ((q339 131 4 (by decide)).trans z318))]; exact R_of q312 rfl), (by rw [((q488 131 11 (by decide)).trans ((q339 131 11 (by decide)).trans z320))]; exact R_of q313 rfl), (by have h1_0 := congrArg Int32.toInt ((q488 131 4 (by decide)).trans ((q339 131 4 (by decide)).trans z318)); have h2_0 := congrArg Int32.toInt z2; omega), (by have h1_0 := congrArg Int32.toInt ((q488 131 4 (by decide)).trans ((q339 131 4 (by decide)).trans z318)); have h2_0 := congrArg Int32.toInt z2; omega)⟩ (nr_bool (R_of (lo := 0) (hi := 1) q489 rfl)) dX12_line_249
                  ·
                    have r491 : R (0) (0) v337 := ⟨by omega, by omega⟩
                    refine r_iconst S dX12_line_211 (by decide) (fun v492 z493 => ?_)
                    have r494 := R_eq z493
                    exact r_ret S hr hlk X335 ⟨q338, F343, (R_of r494 rfl), (by rw [((q339 131 4 (by decide)).trans z318)]; exact R_of q312 rfl), (by rw [((q339 131 11 (by decide)).trans z320)]; exact R_of q313 rfl), (by have h1_0 := congrArg Int32.toInt ((q339 131 4 (by decide)).trans z318); have h2_0 := congrArg Int32.toInt z2; omega), (by have h1_0 := congrArg Int32.toInt ((q339 131 4 (by decide)).trans z318); have h2_0 := congrArg Int32.toInt z2; omega)⟩ (nr_bool (R_of (lo := 0) (hi := 1) r494 rfl)) dX12_line_212
                ·
                  exfalso; omega
              ·
                have r495 : R (0) (0) v292 := ⟨by omega, by omega⟩
                refine r_iconst S dX12_line_163 (by decide) (fun v496 z497 => ?_)
                have r498 := R_eq z497
                exact r_ret S hr hlk X290 ⟨q293, F298, (R_of r498 rfl), (by rw [((q294 131 4 (by decide)).trans z271)]; exact R_of q265 rfl), (by rw [((q294 131 11 (by decide)).trans z273)]; exact R_of q266 rfl), (by have h1_0 := congrArg Int32.toInt ((q294 131 4 (by decide)).trans z271); have h2_0 := congrArg Int32.toInt z2; omega), (by have h1_0 := congrArg Int32.toInt ((q294 131 4 (by decide)).trans z271); have h2_0 := congrArg Int32.toInt z2; omega)⟩ (nr_bool (R_of (lo := 0) (hi := 1) r498 rfl)) dX12_line_164
            ·
              have r499 : R (0) (0) v251 := ⟨by omega, by omega⟩
              refine r_aload_n S dX12_line_138 rfl (lv_at hl 1 rfl) ?_
              refine r_iconst S dX12_line_139 (by decide) (fun v500 z501 => ?_)
              have r502 := R_eq z501
              refine r_ki (q_V (As := [.int v500]) (rest := []) (K := 38) (ci := 10) S X249 (c_X12_bad l G τ hI v500 (R_of (lo := -2147483648) (hi := 2147483647) r502 rfl)) ck12_183 (Nat.le_of_ble_eq_true rfl) rfl (fun _ => ⟨_, rfl⟩) ⟨_, _, rfl⟩ ⟨Nat.le_of_ble_eq_true rfl, Nat.le_of_ble_eq_true rfl⟩ rfl hl.1 rfl (Nat.le_of_ble_eq_true rfl) dX12_line_140 ⟨Nat.le_refl 0, Nat.le_refl 0⟩) X249 (fun v506 t505 H lc q503 X504 => ?_)
              unfold po_X12_bad at q503
              obtain ⟨q507, q508, q509⟩ := q503
              have F510 : Fr [(131, 15), (131, 16), (131, 4), (131, 11), (131, 12), (131, 13), (131, 14), (131, 18), (131, 20), (131, 21)] [134, 331, 336] τ t505 := Fr_call Fr_rfl q508 (by decide)
              exact r_ret S hr hlk X504 ⟨q507, F510, (R_of q509 rfl), (by rw [((q508 131 4 (by decide)).trans z2)]; exact R_of r3 rfl), (by rw [((q508 131 11 (by decide)).trans z5)]; exact R_of r6 rfl), (by have h1_0 := congrArg Int32.toInt ((q508 131 4 (by decide)).trans z2); have h2_0 := congrArg Int32.toInt z2; omega), (by have h1_0 := congrArg Int32.toInt ((q508 131 4 (by decide)).trans z2); have h2_0 := congrArg Int32.toInt z2; omega)⟩ (nr_bool (R_of (lo := 0) (hi := 1) q509 rfl)) dX12_line_143
        ·
          have r511 : R (1) (1) v45 := ⟨by omega, by omega⟩
          have p512 := q48 (by omega)
          have r513 : R (1) (1) v4 := z5 ▸ p512
          have r514 : R (1) (1) v4 := ⟨by omega, by omega⟩
          refine r_aload_n S dX12_line_111 rfl (lv_at hl 0 rfl) ?_
          refine r_ki (q_V (As := []) (rest := []) (K := 38) (ci := 10) S X43 (c_X12_readMan l G τ hI ) ck12_231 (Nat.le_of_ble_eq_true rfl) rfl (fun _ => ⟨_, rfl⟩) ⟨_, _, rfl⟩ ⟨Nat.le_of_ble_eq_true rfl, Nat.le_of_ble_eq_true rfl⟩ rfl hl.1 rfl (Nat.le_of_ble_eq_true rfl) dX12_line_112 ⟨Nat.le_refl 0, Nat.le_refl 0⟩) X43 (fun v518 t517 H lc q515 X516 => ?_)
          unfold po_X12_readMan at q515
          obtain ⟨q519, q520, q521, q522, q523, q524, q525⟩ := q515
          have F526 : Fr [(131, 15), (131, 16), (131, 4), (131, 11), (131, 12), (131, 13), (131, 14), (131, 18), (131, 20), (131, 21)] [134, 331, 336] τ t517 := Fr_call Fr_rfl q520 (by decide)
          obtain ⟨v527, z528⟩ : ∃ x, t517 131 4 = x := ⟨_, rfl⟩
          rw [z528] at q522
          obtain ⟨v529, z530⟩ : ∃ x, t517 131 11 = x := ⟨_, rfl⟩
          rw [z530] at q523
          have e531 := congrArg Int32.toInt z2
          have e532 := congrArg Int32.toInt z528
          have e533 := congrArg Int32.toInt z2
          have e534 := congrArg Int32.toInt z528
          exact r_ret S hr hlk X516 ⟨q519, F526, q521, (by rw [z528]; exact R_of q522 rfl), (by rw [z530]; exact R_of q523 rfl), (by have h1_0 := congrArg Int32.toInt z528; have h2_0 := congrArg Int32.toInt z2; omega), (by have h1_0 := congrArg Int32.toInt z528; have h2_0 := congrArg Int32.toInt z2; omega)⟩ (nr_bool (R_of (lo := 0) (hi := 1) q521 rfl)) dX12_line_115
      ·
        have r535 : R (1) (1) v34 := ⟨by omega, by omega⟩
        have p536 := q37 (by omega)
        have r537 : R (1) (1) v4 := z5 ▸ p536
        have r538 : R (1) (1) v4 := ⟨by omega, by omega⟩
        refine r_aload_n S dX12_line_50 rfl (lv_at hl 0 rfl) ?_
        refine r_get (K := 38) (v := .ref (G.2.2.2.1 134)) S X32 (Nat.le_of_ble_eq_true rfl) rfl lk12_37_10 (fun _ => ⟨_, rfl, rfl⟩) dX12_line_51 ?_
        refine r_iconst S dX12_line_54 (by decide) (fun v539 z540 => ?_)
        have r541 := R_eq z540
        refine r_aldn (n := 125) (K := 41) S X32 (Nat.le_of_ble_eq_true rfl) rfl (fun _ => rfl) (ix_of r541 rfl) dX12_line_55 (fun v542 z543 => ?_)
        have r544 : R (0) (9) v542 := rds (K := 41) (a := 0) (n := 1) hI rfl z543 (R_of r541 rfl) (by decide +kernel)
        refine r_bipush S dX12_line_56 (by decide) (fun v545 z546 => ?_)
        have r547 := R_eq z546
        refine r_icmp_ne (tgt := 67) S dX12_line_58 (by decide) (fun c548 => ?_) (fun c548 => ?_)
        ·
          have r549 : R (0) (8) v542 := ⟨by omega, by omega⟩
          refine r_aload_n S dX12_line_67 rfl (lv_at hl 0 rfl) ?_
          refine r_kv (q_V (As := []) (rest := []) (K := 38) (ci := 10) S X32 (c_X12_skip l G τ hI ) ck12_186 (Nat.le_of_ble_eq_true rfl) rfl (fun _ => ⟨_, rfl⟩) ⟨_, _, rfl⟩ ⟨Nat.le_of_ble_eq_true rfl, Nat.le_of_ble_eq_true rfl⟩ rfl hl.1 rfl (Nat.le_of_ble_eq_true rfl) dX12_line_68 ⟨Nat.le_refl 0, Nat.le_refl 0⟩) X32 (fun t552 H lc q550 X551 => ?_)
          unfold po_X12_skip at q550
          obtain ⟨q553, q554, q555, q556, q557, q558⟩ := q550
          have F559 : Fr [(131, 15), (131, 16), (131, 4), (131, 11), (131, 12), (131, 13), (131, 14), (131, 18), (131, 20), (131, 21)] [134, 331, 336] τ t552 := Fr_call Fr_rfl q554 (by decide)
          obtain ⟨v560, z561⟩ : ∃ x, t552 131 4 = x := ⟨_, rfl⟩
          rw [z561] at q555
          obtain ⟨v562, z563⟩ : ∃ x, t552 131 11 = x := ⟨_, rfl⟩
          rw [z563] at q556
          have e564 := congrArg Int32.toInt z2
          have e565 := congrArg Int32.toInt z561
          have e566 := congrArg Int32.toInt z2
          have e567 := congrArg Int32.toInt z561
          have e568 := congrArg Int32.toInt z5
          have e569 := congrArg Int32.toInt z563
          refine r_aload_n S dX12_line_71 rfl (lv_at hl 0 rfl) ?_
          refine r_bipush S dX12_line_72 (by decide) (fun v570 z571 => ?_)
          have r572 := R_eq z571
          refine r_aload_n S dX12_line_74 rfl (lv_at hl 0 rfl) ?_
          refine r_get (K := 38) (v := .ref (G.2.2.2.1 134)) S X551 (Nat.le_of_ble_eq_true rfl) rfl lk12_37_10 (fun _ => ⟨_, rfl, rfl⟩) dX12_line_75 ?_
          refine r_iconst S dX12_line_78 (by decide) (fun v573 z574 => ?_)
          have r575 := R_eq z574
          refine r_aldi (x := v542) (n := 125) (K := 41) S X551 (Nat.le_of_ble_eq_true rfl) rfl (fun _ => rfl) (ix_of r575 rfl) (zc' (n := 0) (by omega) ((q554 134 0 (by decide)).trans (zc (n := 0) (by omega) z543))) dX12_line_79 ?_
          refine r_iadd S dX12_line_80 (fun v577 z578 => ?_)
          obtain ⟨e579, r580⟩ := i_add (lo := 19) (hi := 27) z578 r572 r549 rfl
          refine r_ki (q_V (As := [.int v577]) (rest := []) (K := 38) (ci := 10) S X551 (c_X12_fresh l G t552 q553 v577 (R_of (lo := 19) (hi := 37) r580 rfl)) ck12_228 (Nat.le_of_ble_eq_true rfl) rfl (fun _ => ⟨_, rfl⟩) ⟨_, _, rfl⟩ ⟨Nat.le_of_ble_eq_true rfl, Nat.le_of_ble_eq_true rfl⟩ rfl hl.1 rfl (Nat.le_of_ble_eq_true rfl) dX12_line_81 ⟨Nat.le_refl 0, Nat.le_refl 0⟩) X551 (fun v584 t583 H lc q581 X582 => ?_)
          unfold po_X12_fresh at q581
          obtain ⟨q585, q586, q587, q588, q589, q590, q591⟩ := q581
          have F592 : Fr [(131, 15), (131, 16), (131, 4), (131, 11), (131, 12), (131, 13), (131, 14), (131, 18), (131, 20), (131, 21)] [134, 331, 336] τ t583 := Fr_call F559 q586 (by decide)
          obtain ⟨v593, z594⟩ : ∃ x, t583 131 4 = x := ⟨_, rfl⟩
          rw [z594] at q588
          obtain ⟨v595, z596⟩ : ∃ x, t583 131 11 = x := ⟨_, rfl⟩
          rw [z596] at q589
          have e597 := congrArg Int32.toInt z561
          have e598 := congrArg Int32.toInt z594
          have e599 := congrArg Int32.toInt z563
          have e600 := congrArg Int32.toInt z596
          refine r_if_ne (tgt := 89) S dX12_line_84 (by decide) (fun c601 => ?_) (fun c601 => ?_)
          ·
            have r602 : R (1) (1) v584 := ⟨by omega, by omega⟩
            refine r_aload_n S dX12_line_89 rfl (lv_at hl 0 rfl) ?_
            refine r_get (K := 38) (v := .ref (G.2.2.2.1 134)) S X582 (Nat.le_of_ble_eq_true rfl) rfl lk12_37_10 (fun _ => ⟨_, rfl, rfl⟩) dX12_line_90 ?_
            refine r_iconst S dX12_line_93 (by decide) (fun v603 z604 => ?_)
            have r605 := R_eq z604
            refine r_dup2 S dX12_line_94 rfl rfl ?_
            refine r_aldi (x := v542) (n := 125) (K := 41) S X582 (Nat.le_of_ble_eq_true rfl) rfl (fun _ => rfl) (ix_of r605 rfl) (zc' (n := 0) (by omega) ((q586 134 0 (by decide)).trans ((q554 134 0 (by decide)).trans (zc (n := 0) (by omega) z543)))) dX12_line_95 ?_
            refine r_iconst S dX12_line_96 (by decide) (fun v607 z608 => ?_)
            have r609 := R_eq z608
            refine r_iadd S dX12_line_97 (fun v610 z611 => ?_)
            obtain ⟨e612, r613⟩ := i_add (lo := 1) (hi := 9) z611 r549 r609 rfl
            refine r_ast (n := 125) (K := 41) S X582 (Nat.le_of_ble_eq_true rfl) rfl (fun _ _ => rfl) (ix_of r605 rfl) dX12_line_98 (fun t614 H lc M615 X616 => ?_)
            have I617 := Inv_mu q585 M615 (show Rg (kd 134) _ v610 from wrs (K := 41) (a := 0) (n := 1) (R_of r605 rfl) (R_of (lo := 0) (hi := 9) r613 rfl) (by decide +kernel))
            have F618 : Fr [(131, 15), (131, 16), (131, 4), (131, 11), (131, 12), (131, 13), (131, 14), (131, 18), (131, 20), (131, 21)] [134, 331, 336] τ t614 := Fr_cell F592 M615 (by decide)
            refine r_iconst S dX12_line_99 (by decide) (fun v619 z620 => ?_)
            have r621 := R_eq z620
            exact r_ret S hr hlk X616 ⟨I617, F618, (R_of r621 rfl), (by rw [((M615.2 131 4 (Or.inl (by decide))).trans z594)]; exact R_of q588 rfl), (by rw [((M615.2 131 11 (Or.inl (by decide))).trans z596)]; exact R_of q589 rfl), (by have h1_0 := congrArg Int32.toInt ((M615.2 131 4 (Or.inl (by decide))).trans z594); have h2_0 := congrArg Int32.toInt z2; omega), (by have h1_0 := congrArg Int32.toInt ((M615.2 131 4 (Or.inl (by decide))).trans z594); have h2_0 := congrArg Int32.toInt z2; omega)⟩ (nr_bool (R_of (lo := 0) (hi := 1) r621 rfl)) dX12_line_100
          ·
            have r622 : R (0) (0) v584 := ⟨by omega, by omega⟩
            refine r_iconst S dX12_line_87 (by decide) (fun v623 z624 => ?_)
            have r625 := R_eq z624
            exact r_ret S hr hlk X582 ⟨q585, F592, (R_of r625 rfl), (by rw [z594]; exact R_of q588 rfl), (by rw [z596]; exact R_of q589 rfl), (by have h1_0 := congrArg Int32.toInt z594; have h2_0 := congrArg Int32.toInt z2; omega), (by have h1_0 := congrArg Int32.toInt z594; have h2_0 := congrArg Int32.toInt z2; omega)⟩ (nr_bool (R_of (lo := 0) (hi := 1) r625 rfl)) dX12_line_88
        ·
          have r626 : R (9) (9) v542 := ⟨by omega, by omega⟩
          refine r_aload_n S dX12_line_61 rfl (lv_at hl 0 rfl) ?_
          refine r_iconst S dX12_line_62 (by decide) (fun v627 z628 => ?_)
          have r629 := R_eq z628
          refine r_ki (q_V (As := [.int v627]) (rest := []) (K := 38) (ci := 10) S X32 (c_X12_bad l G τ hI v627 (R_of (lo := -2147483648) (hi := 2147483647) r629 rfl)) ck12_183 (Nat.le_of_ble_eq_true rfl) rfl (fun _ => ⟨_, rfl⟩) ⟨_, _, rfl⟩ ⟨Nat.le_of_ble_eq_true rfl, Nat.le_of_ble_eq_true rfl⟩ rfl hl.1 rfl (Nat.le_of_ble_eq_true rfl) dX12_line_63 ⟨Nat.le_refl 0, Nat.le_refl 0⟩) X32 (fun v633 t632 H lc q630 X631 => ?_)
          unfold po_X12_bad at q630
          obtain ⟨q634, q635, q636⟩ := q630
          have F637 : Fr [(131, 15), (131, 16), (131, 4), (131, 11), (131, 12), (131, 13), (131, 14), (131, 18), (131, 20), (131, 21)] [134, 331, 336] τ t632 := Fr_call Fr_rfl q635 (by decide)
          exact r_ret S hr hlk X631 ⟨q634, F637, (R_of q636 rfl), (by rw [((q635 131 4 (by decide)).trans z2)]; exact R_of r3 rfl), (by rw [((q635 131 11 (by decide)).trans z5)]; exact R_of r538 rfl), (by have h1_0 := congrArg Int32.toInt ((q635 131 4 (by decide)).trans z2); have h2_0 := congrArg Int32.toInt z2; omega), (by have h1_0 := congrArg Int32.toInt ((q635 131 4 (by decide)).trans z2); have h2_0 := congrArg Int32.toInt z2; omega)⟩ (nr_bool (R_of (lo := 0) (hi := 1) q636 rfl)) dX12_line_66
    ·
      have r638 : R (1) (1) v23 := ⟨by omega, by omega⟩
      have p639 := q26 (by omega)
      have r640 : R (1) (1) v4 := z5 ▸ p639
      have r641 : R (1) (1) v4 := ⟨by omega, by omega⟩
      refine r_aload_n S dX12_line_30 rfl (lv_at hl 0 rfl) ?_
      refine r_iconst S dX12_line_31 (by decide) (fun v642 z643 => ?_)
      have r644 := R_eq z643
      refine r_iconst S dX12_line_32 (by decide) (fun v645 z646 => ?_)
      have r647 := R_eq z646
      refine r_iconst S dX12_line_33 (by decide) (fun v648 z649 => ?_)
      have r650 := R_eq z649
      refine r_bipush S dX12_line_34 (by decide) (fun v651 z652 => ?_)
      have r653 := R_eq z652
      refine r_ki (q_V (As := [.int v642, .int v645, .int v648, .int v651]) (rest := []) (K := 38) (ci := 10) S X21 (c_X12_once_1 l G τ hI v642 v645 v648 v651 r644 r647 r650 r653) ck12_224 (Nat.le_of_ble_eq_true rfl) rfl (fun _ => ⟨_, rfl⟩) ⟨_, _, rfl⟩ ⟨Nat.le_of_ble_eq_true rfl, Nat.le_of_ble_eq_true rfl⟩ rfl hl.1 rfl (Nat.le_of_ble_eq_true rfl) dX12_line_36 ⟨Nat.le_refl 0, Nat.le_refl 0⟩) X21 (fun v657 t656 H lc q654 X655 => ?_)
      unfold po_X12_once_1 at q654
      obtain ⟨q658, q659, q660, q661, q662, q663, q664⟩ := q654
      have F665 : Fr [(131, 15), (131, 16), (131, 4), (131, 11), (131, 12), (131, 13), (131, 14), (131, 18), (131, 20), (131, 21)] [134, 331, 336] τ t656 := Fr_call Fr_rfl q659 (by decide)
      obtain ⟨v666, z667⟩ : ∃ x, t656 131 4 = x := ⟨_, rfl⟩
      rw [z667] at q661
      obtain ⟨v668, z669⟩ : ∃ x, t656 131 11 = x := ⟨_, rfl⟩
      rw [z669] at q662
      have e670 := congrArg Int32.toInt z2
      have e671 := congrArg Int32.toInt z667
      have e672 := congrArg Int32.toInt z2
      have e673 := congrArg Int32.toInt z667
      exact r_ret S hr hlk X655 ⟨q658, F665, q660, (by rw [z667]; exact R_of q661 rfl), (by rw [z669]; exact R_of q662 rfl), (by have h1_0 := congrArg Int32.toInt z667; have h2_0 := congrArg Int32.toInt z2; omega), (by have h1_0 := congrArg Int32.toInt z667; have h2_0 := congrArg Int32.toInt z2; omega)⟩ (nr_bool (R_of (lo := 0) (hi := 1) q660 rfl)) dX12_line_39
  ·
    have r674 : R (1) (1) v12 := ⟨by omega, by omega⟩
    have p675 := q15 (by omega)
    have r676 : R (1) (1) v4 := z5 ▸ p675
    have r677 : R (1) (1) v4 := ⟨by omega, by omega⟩
    refine r_aload_n S dX12_line_10 rfl (lv_at hl 0 rfl) ?_
    refine r_iconst S dX12_line_11 (by decide) (fun v678 z679 => ?_)
    have r680 := R_eq z679
    refine r_iconst S dX12_line_12 (by decide) (fun v681 z682 => ?_)
    have r683 := R_eq z682
    refine r_iconst S dX12_line_13 (by decide) (fun v684 z685 => ?_)
    have r686 := R_eq z685
    refine r_bipush S dX12_line_14 (by decide) (fun v687 z688 => ?_)
    have r689 := R_eq z688
    refine r_ki (q_V (As := [.int v678, .int v681, .int v684, .int v687]) (rest := []) (K := 38) (ci := 10) S X10 (c_X12_once_0 l G τ hI v678 v681 v684 v687 r680 r683 r686 r689) ck12_224 (Nat.le_of_ble_eq_true rfl) rfl (fun _ => ⟨_, rfl⟩) ⟨_, _, rfl⟩ ⟨Nat.le_of_ble_eq_true rfl, Nat.le_of_ble_eq_true rfl⟩ rfl hl.1 rfl (Nat.le_of_ble_eq_true rfl) dX12_line_16 ⟨Nat.le_refl 0, Nat.le_refl 0⟩) X10 (fun v693 t692 H lc q690 X691 => ?_)
    unfold po_X12_once_0 at q690
    obtain ⟨q694, q695, q696, q697, q698, q699, q700⟩ := q690
    have F701 : Fr [(131, 15), (131, 16), (131, 4), (131, 11), (131, 12), (131, 13), (131, 14), (131, 18), (131, 20), (131, 21)] [134, 331, 336] τ t692 := Fr_call Fr_rfl q695 (by decide)
    obtain ⟨v702, z703⟩ : ∃ x, t692 131 4 = x := ⟨_, rfl⟩
    rw [z703] at q697
    obtain ⟨v704, z705⟩ : ∃ x, t692 131 11 = x := ⟨_, rfl⟩
    rw [z705] at q698
    have e706 := congrArg Int32.toInt z2
    have e707 := congrArg Int32.toInt z703
    have e708 := congrArg Int32.toInt z2
    have e709 := congrArg Int32.toInt z703
    exact r_ret S hr hlk X691 ⟨q694, F701, q696, (by rw [z703]; exact R_of q697 rfl), (by rw [z705]; exact R_of q698 rfl), (by have h1_0 := congrArg Int32.toInt z703; have h2_0 := congrArg Int32.toInt z2; omega), (by have h1_0 := congrArg Int32.toInt z703; have h2_0 := congrArg Int32.toInt z2; omega)⟩ (nr_bool (R_of (lo := 0) (hi := 1) q696 rfl)) dX12_line_19
