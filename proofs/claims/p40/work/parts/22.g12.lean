def po_X12_bad (τ : Tau)  (a0 : Int32) (r : Int32) (u : Tau) : Prop := Inv u ∧ Fr [(131, 15), (131, 16)] [] τ u ∧ R (0) (0) r
set_option maxHeartbeats 4000000 in
set_option maxRecDepth 100000 in
theorem c_X12_bad (l : Launch) (G : Gx) (τ : Tau) (hI : Inv τ) (a0 : Int32) (h_a0 : R (-2147483648) (2147483647) a0) : Ci l G yX12_bad cX12_bad 2 (some .boolean) 0 0 [.ref (G.2.2.2.1 131), .int a0] τ (po_X12_bad τ  a0) := by
  unfold Ci
  refine C_of (own := RX12) (by decide) rfl (Nat.le_of_ble_eq_true rfl) ?_
  intro p e s m below meth c ls S hr hlk X hl
  have hl : lv_has ls 2 [(0, .ref (G.2.2.2.1 131)), (1, .int a0)] := hl
  refine r_aload_n S dX12_bad_0 rfl (lv_at hl 0 rfl) ?_
  refine r_iload_n S dX12_bad_1 rfl (lv_at hl 1 rfl) ?_
  refine r_put (K := 38) (ty := .int) S X (Nat.le_of_ble_eq_true rfl) rfl lk12_174_10 (fun _ => ⟨_, rfl, Nat.le_of_ble_eq_true rfl, rfl⟩) (fun _ _ _ h => by cases h; exact ⟨rfl, rfl⟩) rfl rfl dX12_bad_2 (fun t1 H lc M2 X3 => ?_)
  have I4 := Inv_mu hI M2 (R_any a0)
  have F5 : Fr [(131, 15), (131, 16)] [] τ t1 := Fr_mu Fr_rfl M2 (by decide)
  refine r_aload_n S dX12_bad_5 rfl (lv_at hl 0 rfl) ?_
  refine r_aload_n S dX12_bad_6 rfl (lv_at hl 0 rfl) ?_
  refine r_getn (K := 38) S X3 (Nat.le_of_ble_eq_true rfl) rfl lk12_151_10 (fun _ => ⟨_, rfl, rfl⟩) dX12_bad_7 (fun v6 z7 => ?_)
  have r8 : R (0) (940) v6 := rd I4 rfl z7
  refine r_put (K := 38) (ty := .int) S X3 (Nat.le_of_ble_eq_true rfl) rfl lk12_177_10 (fun _ => ⟨_, rfl, Nat.le_of_ble_eq_true rfl, rfl⟩) (fun _ _ _ h => by cases h; exact ⟨rfl, rfl⟩) rfl rfl dX12_bad_10 (fun t9 H lc M10 X11 => ?_)
  have I12 := Inv_mu I4 M10 (R_any v6)
  have F13 : Fr [(131, 15), (131, 16)] [] τ t9 := Fr_mu F5 M10 (by decide)
  refine r_iconst S dX12_bad_13 (by decide) (fun v14 z15 => ?_)
  have r16 := R_eq z15
  exact r_ret S hr hlk X11 ⟨I12, F13, r16⟩ (nr_bool (R_of (lo := 0) (hi := 1) r16 rfl)) dX12_bad_14
def po_X12_isWord (τ : Tau)   (r : Int32) (u : Tau) : Prop := u = τ ∧ R (0) (1) r ∧ (r.toInt = 1 → R (1) (1) (u 131 11))
set_option maxHeartbeats 4000000 in
set_option maxRecDepth 100000 in
theorem c_X12_isWord (l : Launch) (G : Gx) (τ : Tau) (hI : Inv τ) (a0 : Int64) : Ci l G yX12_isWord cX12_isWord 3 (some .boolean) 0 0 [.ref (G.2.2.2.1 131), .long a0] τ (po_X12_isWord τ  ) := by
  unfold Ci
  refine C_of (own := RX12) (by decide) rfl (Nat.le_of_ble_eq_true rfl) ?_
  intro p e s m below meth c ls S hr hlk X hl
  have hl : lv_has ls 3 [(0, .ref (G.2.2.2.1 131)), (1, .long a0)] := hl
  refine r_aload_n S dX12_isWord_0 rfl (lv_at hl 0 rfl) ?_
  refine r_getn (K := 38) S X (Nat.le_of_ble_eq_true rfl) rfl lk12_157_10 (fun _ => ⟨_, rfl, rfl⟩) dX12_isWord_1 (fun v1 z2 => ?_)
  have r3 : R (0) (4) v1 := rd hI rfl z2
  refine r_iconst S dX12_isWord_4 (by decide) (fun v4 z5 => ?_)
  have r6 := R_eq z5
  refine r_icmp_ne (tgt := 21) S dX12_isWord_5 (by decide) (fun c7 => ?_) (fun c7 => ?_)
  ·
    refine r_iconst S dX12_isWord_21 (by decide) (fun v8 z9 => ?_)
    have r10 := R_eq z9
    exact r_ret S hr hlk X ⟨rfl, (R_of r10 rfl), (fun h => by exfalso; omega)⟩ (nr_bool (R_of (lo := 0) (hi := 1) r10 rfl)) dX12_isWord_22
  ·
    have r11 : R (1) (1) v1 := ⟨by omega, by omega⟩
    refine r_aload_n S dX12_isWord_8 rfl (lv_at hl 0 rfl) ?_
    refine r_getJ (K := 38) S X (Nat.le_of_ble_eq_true rfl) rfl lk12_170_10 (fun _ => ⟨_, rfl, rfl⟩) dX12_isWord_9 (fun j12 => ?_)
    refine lv_lload_n S.1.1 S.1.2.1 dX12_isWord_12 rfl (lv_at hl 1 rfl) ?_
    refine r_lcmp S dX12_isWord_13 (fun v13 r14 => ?_)
    refine r_if_ne (tgt := 21) S dX12_isWord_14 (by decide) (fun c15 => ?_) (fun c15 => ?_)
    ·
      refine r_iconst S dX12_isWord_21 (by decide) (fun v16 z17 => ?_)
      have r18 := R_eq z17
      exact r_ret S hr hlk X ⟨rfl, (R_of r18 rfl), (fun h => by exfalso; omega)⟩ (nr_bool (R_of (lo := 0) (hi := 1) r18 rfl)) dX12_isWord_22
    ·
      have r19 : R (0) (0) v13 := ⟨by omega, by omega⟩
      refine r_iconst S dX12_isWord_17 (by decide) (fun v20 z21 => ?_)
      have r22 := R_eq z21
      refine r_goto (tgt := 22) S dX12_isWord_18 (by decide) ?_
      exact r_ret S hr hlk X ⟨rfl, (R_of r22 rfl), (fun h => (by rw [z2]; exact R_of r11 rfl))⟩ (nr_bool (R_of (lo := 0) (hi := 1) r22 rfl)) dX12_isWord_22
def po_X12_isSign (τ : Tau)  (a0 : Int32) (r : Int32) (u : Tau) : Prop := u = τ ∧ R (0) (1) r ∧ (r.toInt = 1 → R (3) (3) (u 131 11))
set_option maxHeartbeats 4000000 in
set_option maxRecDepth 100000 in
theorem c_X12_isSign (l : Launch) (G : Gx) (τ : Tau) (hI : Inv τ) (a0 : Int32) (h_a0 : R (-2147483648) (2147483647) a0) : Ci l G yX12_isSign cX12_isSign 2 (some .boolean) 0 0 [.ref (G.2.2.2.1 131), .int a0] τ (po_X12_isSign τ  a0) := by
  unfold Ci
  refine C_of (own := RX12) (by decide) rfl (Nat.le_of_ble_eq_true rfl) ?_
  intro p e s m below meth c ls S hr hlk X hl
  have hl : lv_has ls 2 [(0, .ref (G.2.2.2.1 131)), (1, .int a0)] := hl
  refine r_aload_n S dX12_isSign_0 rfl (lv_at hl 0 rfl) ?_
  refine r_getn (K := 38) S X (Nat.le_of_ble_eq_true rfl) rfl lk12_157_10 (fun _ => ⟨_, rfl, rfl⟩) dX12_isSign_1 (fun v1 z2 => ?_)
  have r3 : R (0) (4) v1 := rd hI rfl z2
  refine r_iconst S dX12_isSign_4 (by decide) (fun v4 z5 => ?_)
  have r6 := R_eq z5
  refine r_icmp_ne (tgt := 20) S dX12_isSign_5 (by decide) (fun c7 => ?_) (fun c7 => ?_)
  ·
    refine r_iconst S dX12_isSign_20 (by decide) (fun v8 z9 => ?_)
    have r10 := R_eq z9
    exact r_ret S hr hlk X ⟨rfl, (R_of r10 rfl), (fun h => by exfalso; omega)⟩ (nr_bool (R_of (lo := 0) (hi := 1) r10 rfl)) dX12_isSign_21
  ·
    have r11 : R (3) (3) v1 := ⟨by omega, by omega⟩
    refine r_aload_n S dX12_isSign_8 rfl (lv_at hl 0 rfl) ?_
    refine r_getn (K := 38) S X (Nat.le_of_ble_eq_true rfl) rfl lk12_167_10 (fun _ => ⟨_, rfl, rfl⟩) dX12_isSign_9 (fun v12 z13 => ?_)
    have r15 := R_any v12
    refine r_iload_n S dX12_isSign_12 rfl (lv_at hl 1 rfl) ?_
    refine r_icmp_ne (tgt := 20) S dX12_isSign_13 (by decide) (fun c16 => ?_) (fun c16 => ?_)
    ·
      refine r_iconst S dX12_isSign_20 (by decide) (fun v17 z18 => ?_)
      have r19 := R_eq z18
      exact r_ret S hr hlk X ⟨rfl, (R_of r19 rfl), (fun h => by exfalso; omega)⟩ (nr_bool (R_of (lo := 0) (hi := 1) r19 rfl)) dX12_isSign_21
    ·
      refine r_iconst S dX12_isSign_16 (by decide) (fun v20 z21 => ?_)
      have r22 := R_eq z21
      refine r_goto (tgt := 21) S dX12_isSign_17 (by decide) ?_
      exact r_ret S hr hlk X ⟨rfl, (R_of r22 rfl), (fun h => (by rw [z2]; exact R_of r11 rfl))⟩ (nr_bool (R_of (lo := 0) (hi := 1) r22 rfl)) dX12_isSign_21
def po_X12_sign (τ : Tau)  (a0 : Int32) (r : Int32) (u : Tau) : Prop := Inv u ∧ Fr [(131, 15), (131, 16), (131, 4), (131, 11), (131, 12), (131, 13), (131, 14)] [] τ u ∧ R (0) (1) r ∧ R (0) (940) (u 131 4) ∧ R (0) (4) (u 131 11) ∧ (τ 131 4).toInt ≤ (u 131 4).toInt
set_option maxHeartbeats 4000000 in
set_option maxRecDepth 100000 in
theorem c_X12_sign (l : Launch) (G : Gx) (τ : Tau) (hI : Inv τ) (a0 : Int32) (h_a0 : R (-2147483648) (2147483647) a0) : Ci l G yX12_sign cX12_sign 2 (some .boolean) 2 43 [.ref (G.2.2.2.1 131), .int a0] τ (po_X12_sign τ  a0) := by
  unfold Ci
  refine C_of (own := RX12) (by decide) rfl (Nat.le_of_ble_eq_true rfl) ?_
  intro p e s m below meth c ls S hr hlk X hl
  have hl : lv_has ls 2 [(0, .ref (G.2.2.2.1 131)), (1, .int a0)] := hl
  obtain ⟨v1, z2⟩ : ∃ x, τ 131 4 = x := ⟨_, rfl⟩
  have r3 : R (0) (940) v1 := rd hI rfl z2
  obtain ⟨v4, z5⟩ : ∃ x, τ 131 11 = x := ⟨_, rfl⟩
  have r6 : R (0) (4) v4 := rd hI rfl z5
  refine r_aload_n S dX12_sign_0 rfl (lv_at hl 0 rfl) ?_
  refine r_iload_n S dX12_sign_1 rfl (lv_at hl 1 rfl) ?_
  refine r_ki (q_V (As := [.int a0]) (rest := []) (K := 38) (ci := 10) S X (c_X12_isSign l G τ hI a0 h_a0) ck12_180 (Nat.le_of_ble_eq_true rfl) rfl (fun _ => ⟨_, rfl⟩) ⟨_, _, rfl⟩ ⟨Nat.le_of_ble_eq_true rfl, Nat.le_of_ble_eq_true rfl⟩ rfl hl.1 rfl (Nat.le_of_ble_eq_true rfl) dX12_sign_2 ⟨Nat.le_refl 0, Nat.le_refl 0⟩) X (fun v10 t9 H lc q7 X8 => ?_)
  unfold po_X12_isSign at q7
  obtain ⟨q11, q12, q13⟩ := q7
  rw [q11] at X8
  rw [q11] at q13
  refine r_if_ne (tgt := 14) S dX12_sign_5 (by decide) (fun c14 => ?_) (fun c14 => ?_)
  ·
    have r15 : R (1) (1) v10 := ⟨by omega, by omega⟩
    have p16 := q13 (by omega)
    have r17 : R (3) (3) v4 := z5 ▸ p16
    have r18 : R (3) (3) v4 := ⟨by omega, by omega⟩
    refine r_aload_n S dX12_sign_14 rfl (lv_at hl 0 rfl) ?_
    refine r_kv (q_V (As := []) (rest := []) (K := 38) (ci := 10) S X8 (c_X12_skip l G τ hI ) ck12_186 (Nat.le_of_ble_eq_true rfl) rfl (fun _ => ⟨_, rfl⟩) ⟨_, _, rfl⟩ ⟨Nat.le_of_ble_eq_true rfl, Nat.le_of_ble_eq_true rfl⟩ rfl hl.1 rfl (Nat.le_of_ble_eq_true rfl) dX12_sign_15 ⟨Nat.le_refl 0, Nat.le_refl 0⟩) X8 (fun t21 H lc q19 X20 => ?_)
    unfold po_X12_skip at q19
    obtain ⟨q22, q23, q24, q25, q26, q27⟩ := q19
    have F28 : Fr [(131, 15), (131, 16), (131, 4), (131, 11), (131, 12), (131, 13), (131, 14)] [] τ t21 := Fr_call Fr_rfl q23 (by decide)
    obtain ⟨v29, z30⟩ : ∃ x, t21 131 4 = x := ⟨_, rfl⟩
    rw [z30] at q24
    obtain ⟨v31, z32⟩ : ∃ x, t21 131 11 = x := ⟨_, rfl⟩
    rw [z32] at q25
    have e33 := congrArg Int32.toInt z2
    have e34 := congrArg Int32.toInt z30
    have e35 := congrArg Int32.toInt z2
    have e36 := congrArg Int32.toInt z30
    have e37 := congrArg Int32.toInt z5
    have e38 := congrArg Int32.toInt z32
    refine r_iconst S dX12_sign_18 (by decide) (fun v39 z40 => ?_)
    have r41 := R_eq z40
    exact r_ret S hr hlk X20 ⟨q22, F28, (R_of r41 rfl), (by rw [z30]; exact R_of q24 rfl), (by rw [z32]; exact R_of q25 rfl), (by have h1_0 := congrArg Int32.toInt z30; have h2_0 := congrArg Int32.toInt z2; omega)⟩ (nr_bool (R_of (lo := 0) (hi := 1) r41 rfl)) dX12_sign_19
  ·
    have r42 : R (0) (0) v10 := ⟨by omega, by omega⟩
    refine r_aload_n S dX12_sign_8 rfl (lv_at hl 0 rfl) ?_
    refine r_iconst S dX12_sign_9 (by decide) (fun v43 z44 => ?_)
    have r45 := R_eq z44
    refine r_ki (q_V (As := [.int v43]) (rest := []) (K := 38) (ci := 10) S X8 (c_X12_bad l G τ hI v43 (R_of (lo := -2147483648) (hi := 2147483647) r45 rfl)) ck12_183 (Nat.le_of_ble_eq_true rfl) rfl (fun _ => ⟨_, rfl⟩) ⟨_, _, rfl⟩ ⟨Nat.le_of_ble_eq_true rfl, Nat.le_of_ble_eq_true rfl⟩ rfl hl.1 rfl (Nat.le_of_ble_eq_true rfl) dX12_sign_10 ⟨Nat.le_refl 0, Nat.le_refl 0⟩) X8 (fun v49 t48 H lc q46 X47 => ?_)
    unfold po_X12_bad at q46
    obtain ⟨q50, q51, q52⟩ := q46
    have F53 : Fr [(131, 15), (131, 16), (131, 4), (131, 11), (131, 12), (131, 13), (131, 14)] [] τ t48 := Fr_call Fr_rfl q51 (by decide)
    exact r_ret S hr hlk X47 ⟨q50, F53, (R_of q52 rfl), (by rw [((q51 131 4 (by decide)).trans z2)]; exact R_of r3 rfl), (by rw [((q51 131 11 (by decide)).trans z5)]; exact R_of r6 rfl), (by have h1_0 := congrArg Int32.toInt ((q51 131 4 (by decide)).trans z2); have h2_0 := congrArg Int32.toInt z2; omega)⟩ (nr_bool (R_of (lo := 0) (hi := 1) q52 rfl)) dX12_sign_13
def po_X12_isName (τ : Tau)   (r : Int32) (u : Tau) : Prop := u = τ ∧ R (0) (1) r ∧ (r.toInt = 1 → R (1) (1) (u 131 11))
set_option maxHeartbeats 4000000 in
set_option maxRecDepth 100000 in
theorem c_X12_isName (l : Launch) (G : Gx) (τ : Tau) (hI : Inv τ) : Ci l G yX12_isName cX12_isName 3 (some .boolean) 0 0 [.ref (G.2.2.2.1 131)] τ (po_X12_isName τ  ) := by
  unfold Ci
  refine C_of (own := RX12) (by decide) rfl (Nat.le_of_ble_eq_true rfl) ?_
  intro p e s m below meth c ls S hr hlk X hl
  have hl : lv_has ls 3 [(0, .ref (G.2.2.2.1 131))] := hl
  obtain ⟨v1, z2⟩ : ∃ x, τ 131 11 = x := ⟨_, rfl⟩
  have r3 : R (0) (4) v1 := rd hI rfl z2
  refine r_aload_n S dX12_isName_0 rfl (lv_at hl 0 rfl) ?_
  refine r_geti (K := 38) S X (Nat.le_of_ble_eq_true rfl) rfl lk12_157_10 (fun _ => ⟨_, rfl, rfl⟩) z2 dX12_isName_1 ?_
  refine r_iconst S dX12_isName_4 (by decide) (fun v4 z5 => ?_)
  have r6 := R_eq z5
  refine r_icmp_ne (tgt := 12) S dX12_isName_5 (by decide) (fun c7 => ?_) (fun c7 => ?_)
  ·
    refine r_iconst S dX12_isName_12 (by decide) (fun v8 z9 => ?_)
    have r10 := R_eq z9
    refine r_istore_n (lv' := [(1, .int v8), (0, .ref (G.2.2.2.1 131))]) S dX12_isName_13 rfl hl (by decide) rfl (fun ls hl => ?_)
    refine r_iconst S dX12_isName_14 (by decide) (fun v11 z12 => ?_)
    have r13 := R_eq z12
    refine r_istore_n (lv' := [(2, .int v11), (1, .int v8), (0, .ref (G.2.2.2.1 131))]) S dX12_isName_15 rfl hl (by decide) rfl (fun ls hl => ?_)
    have L211 : ∀ (n : Nat) (H : Heap) (lc : List Loc) (ls : Array Slot) (i206 : Int32) (i208 : Int32), Xd G s H lc τ → R (0) (0) i206 → R (0) (24) i208 → lv_has ls 3 [(0, .ref (G.2.2.2.1 131)), (1, .int i206), (2, .int i208)] → (24 - i208.toInt).toNat < n → W p l e (Rm 0 0) s m ([.ref (G.2.2.2.1 131)] : List Value).toArray below meth c H lc 0 0 (MQ below (va_Qi (po_X12_isName τ  ) (Bs G) G.2.2.2.2) ([.ref (G.2.2.2.1 131)] : List Value).toArray s 0 0 G.2.2.2.2) (F0 m 16 ls []) := by
      intro n
      induction n with
      | zero => intros; omega
      | succ n ih212 =>
        intro H lc ls i206 i208 X210 r207 r209 hl hm
        refine r_iload_n S dX12_isName_16 rfl (lv_at hl 2 rfl) ?_
        refine r_bipush S dX12_isName_17 (by decide) (fun v213 z214 => ?_)
        have r215 := R_eq z214
        refine r_icmp_ge (tgt := 52) S dX12_isName_19 (by decide) (fun c216 => ?_) (fun c216 => ?_)
        ·
          have r217 : R (24) (24) i208 := ⟨by omega, by omega⟩
          refine r_iload_n S dX12_isName_52 rfl (lv_at hl 1 rfl) ?_
          exact r_ret S hr hlk X210 ⟨rfl, (R_of r207 rfl), (fun h => by exfalso; omega)⟩ (nr_bool (R_of (lo := 0) (hi := 1) r207 rfl)) dX12_isName_53
        ·
          have r218 : R (0) (23) i208 := ⟨by omega, by omega⟩
          refine r_iload_n S dX12_isName_22 rfl (lv_at hl 1 rfl) ?_
          refine r_if_eq (tgt := 44) S dX12_isName_23 (by decide) (fun c219 => ?_) (fun c219 => ?_)
          ·
            refine r_iconst S dX12_isName_44 (by decide) (fun v220 z221 => ?_)
            have r222 := R_eq z221
            refine r_istore_n (lv' := [(1, .int v220), (0, .ref (G.2.2.2.1 131)), (2, .int i208)]) S dX12_isName_45 rfl hl (by decide) rfl (fun ls hl => ?_)
            refine r_iinc (k := 2) S dX12_isName_46 hl rfl (by decide) (by decide) (fun v223 d224 ls z225 z226 hl => ?_)
            obtain ⟨e227, r228⟩ := i_add (lo := 1) (hi := 24) z225 r218 (R_eq z226) rfl
            have hl : lv_has ls 3 [(2, .int v223), (1, .int v220), (0, .ref (G.2.2.2.1 131))] := hl
            refine r_goto (tgt := 16) S dX12_isName_49 (by decide) ?_
            exact ih212 _ _ _ v220 v223 X210 r222 (R_of r228 rfl) (lv_sub hl [2, 1, 0] rfl) (by omega)
          ·
            exfalso; omega
    exact L211 _ _ _ _ v8 v11 X r10 (R_of r13 rfl) (lv_sub hl [2, 1, 0] rfl) (Nat.lt_succ_self _)
  ·
    have r229 : R (1) (1) v1 := ⟨by omega, by omega⟩
    refine r_iconst S dX12_isName_8 (by decide) (fun v230 z231 => ?_)
    have r232 := R_eq z231
    refine r_goto (tgt := 13) S dX12_isName_9 (by decide) ?_
    refine r_istore_n (lv' := [(1, .int v230), (0, .ref (G.2.2.2.1 131))]) S dX12_isName_13 rfl hl (by decide) rfl (fun ls hl => ?_)
    refine r_iconst S dX12_isName_14 (by decide) (fun v233 z234 => ?_)
    have r235 := R_eq z234
    refine r_istore_n (lv' := [(2, .int v233), (1, .int v230), (0, .ref (G.2.2.2.1 131))]) S dX12_isName_15 rfl hl (by decide) rfl (fun ls hl => ?_)
    have L682 : ∀ (n : Nat) (H : Heap) (lc : List Loc) (ls : Array Slot) (i677 : Int32) (i679 : Int32), Xd G s H lc τ → R (0) (1) i677 → R (0) (24) i679 → lv_has ls 3 [(0, .ref (G.2.2.2.1 131)), (1, .int i677), (2, .int i679)] → (24 - i679.toInt).toNat < n → W p l e (Rm 0 0) s m ([.ref (G.2.2.2.1 131)] : List Value).toArray below meth c H lc 0 0 (MQ below (va_Qi (po_X12_isName τ  ) (Bs G) G.2.2.2.2) ([.ref (G.2.2.2.1 131)] : List Value).toArray s 0 0 G.2.2.2.2) (F0 m 16 ls []) := by
      intro n
      induction n with
      | zero => intros; omega
      | succ n ih683 =>
        intro H lc ls i677 i679 X681 r678 r680 hl hm
        refine r_iload_n S dX12_isName_16 rfl (lv_at hl 2 rfl) ?_
        refine r_bipush S dX12_isName_17 (by decide) (fun v684 z685 => ?_)
        have r686 := R_eq z685
        refine r_icmp_ge (tgt := 52) S dX12_isName_19 (by decide) (fun c687 => ?_) (fun c687 => ?_)
        ·
          have r688 : R (24) (24) i679 := ⟨by omega, by omega⟩
          refine r_iload_n S dX12_isName_52 rfl (lv_at hl 1 rfl) ?_
          exact r_ret S hr hlk X681 ⟨rfl, r678, (fun h => (by rw [z2]; exact R_of r229 rfl))⟩ (nr_bool (R_of (lo := 0) (hi := 1) r678 rfl)) dX12_isName_53
        ·
          have r689 : R (0) (23) i679 := ⟨by omega, by omega⟩
          refine r_iload_n S dX12_isName_22 rfl (lv_at hl 1 rfl) ?_
          refine r_if_eq (tgt := 44) S dX12_isName_23 (by decide) (fun c690 => ?_) (fun c690 => ?_)
          ·
            have r691 : R (0) (0) i677 := ⟨by omega, by omega⟩
            refine r_iconst S dX12_isName_44 (by decide) (fun v692 z693 => ?_)
            have r694 := R_eq z693
            refine r_istore_n (lv' := [(1, .int v692), (0, .ref (G.2.2.2.1 131)), (2, .int i679)]) S dX12_isName_45 rfl hl (by decide) rfl (fun ls hl => ?_)
            refine r_iinc (k := 2) S dX12_isName_46 hl rfl (by decide) (by decide) (fun v695 d696 ls z697 z698 hl => ?_)
            obtain ⟨e699, r700⟩ := i_add (lo := 1) (hi := 24) z697 r689 (R_eq z698) rfl
            have hl : lv_has ls 3 [(2, .int v695), (1, .int v692), (0, .ref (G.2.2.2.1 131))] := hl
            refine r_goto (tgt := 16) S dX12_isName_49 (by decide) ?_
            exact ih683 _ _ _ v692 v695 X681 (R_of r694 rfl) (R_of r700 rfl) (lv_sub hl [2, 1, 0] rfl) (by omega)
          ·
            have r701 : R (1) (1) i677 := ⟨by omega, by omega⟩
            refine r_aload_n S dX12_isName_26 rfl (lv_at hl 0 rfl) ?_
            refine r_getJ (K := 38) S X681 (Nat.le_of_ble_eq_true rfl) rfl lk12_170_10 (fun _ => ⟨_, rfl, rfl⟩) dX12_isName_27 (fun j702 => ?_)
            refine r_aload_n S dX12_isName_30 rfl (lv_at hl 0 rfl) ?_
            refine r_get (K := 38) (v := .ref (G.2.2.2.1 137)) S X681 (Nat.le_of_ble_eq_true rfl) rfl lk12_47_10 (fun _ => ⟨_, rfl, rfl⟩) dX12_isName_31 ?_
            refine r_iload_n S dX12_isName_34 rfl (lv_at hl 2 rfl) ?_
            refine r_lald (n := 24) (K := 44) S X681 (Nat.le_of_ble_eq_true rfl) rfl (fun _ => rfl) (ix_of r689 rfl) dX12_isName_35 (fun j703 => ?_)
            refine r_lcmp S dX12_isName_36 (fun v704 r705 => ?_)
            refine r_if_eq (tgt := 44) S dX12_isName_37 (by decide) (fun c706 => ?_) (fun c706 => ?_)
            ·
              have r707 : R (0) (0) v704 := ⟨by omega, by omega⟩
              refine r_iconst S dX12_isName_44 (by decide) (fun v708 z709 => ?_)
              have r710 := R_eq z709
              refine r_istore_n (lv' := [(1, .int v708), (0, .ref (G.2.2.2.1 131)), (2, .int i679)]) S dX12_isName_45 rfl hl (by decide) rfl (fun ls hl => ?_)
              refine r_iinc (k := 2) S dX12_isName_46 hl rfl (by decide) (by decide) (fun v711 d712 ls z713 z714 hl => ?_)
              obtain ⟨e715, r716⟩ := i_add (lo := 1) (hi := 24) z713 r689 (R_eq z714) rfl
              have hl : lv_has ls 3 [(2, .int v711), (1, .int v708), (0, .ref (G.2.2.2.1 131))] := hl
              refine r_goto (tgt := 16) S dX12_isName_49 (by decide) ?_
              exact ih683 _ _ _ v708 v711 X681 (R_of r710 rfl) (R_of r716 rfl) (lv_sub hl [2, 1, 0] rfl) (by omega)
            ·
              refine r_iconst S dX12_isName_40 (by decide) (fun v717 z718 => ?_)
              have r719 := R_eq z718
              refine r_goto (tgt := 45) S dX12_isName_41 (by decide) ?_
              refine r_istore_n (lv' := [(1, .int v717), (0, .ref (G.2.2.2.1 131)), (2, .int i679)]) S dX12_isName_45 rfl hl (by decide) rfl (fun ls hl => ?_)
              refine r_iinc (k := 2) S dX12_isName_46 hl rfl (by decide) (by decide) (fun v720 d721 ls z722 z723 hl => ?_)
              obtain ⟨e724, r725⟩ := i_add (lo := 1) (hi := 24) z722 r689 (R_eq z723) rfl
              have hl : lv_has ls 3 [(2, .int v720), (1, .int v717), (0, .ref (G.2.2.2.1 131))] := hl
              refine r_goto (tgt := 16) S dX12_isName_49 (by decide) ?_
              exact ih683 _ _ _ v717 v720 X681 (R_of r719 rfl) (R_of r725 rfl) (lv_sub hl [2, 1, 0] rfl) (by omega)
    exact L682 _ _ _ _ v230 v233 X (R_of r232 rfl) (R_of r235 rfl) (lv_sub hl [2, 1, 0] rfl) (Nat.lt_succ_self _)
def po_X12_takes_1_8 (τ : Tau)  (a0 a1 : Int32) (r : Int32) (u : Tau) : Prop := Inv u ∧ Fr [(131, 15), (131, 16), (131, 4), (131, 11), (131, 12), (131, 13), (131, 14), (131, 18)] [] τ u ∧ R (0) (1) r ∧ (r.toInt = 1 → R (1) (8) (u 131 18)) ∧ R (0) (940) (u 131 4) ∧ R (0) (4) (u 131 11) ∧ (τ 131 4).toInt ≤ (u 131 4).toInt ∧ (r.toInt = 1 → (τ 131 11).toInt = 2)
set_option maxHeartbeats 4000000 in
set_option maxRecDepth 100000 in
theorem c_X12_takes_1_8 (l : Launch) (G : Gx) (τ : Tau) (hI : Inv τ) (a0 : Int32) (a1 : Int32) (h_a0 : R (1) (1) a0) (h_a1 : R (8) (8) a1) : Ci l G yX12_takes cX12_takes 3 (some .boolean) 2 43 [.ref (G.2.2.2.1 131), .int a0, .int a1] τ (po_X12_takes_1_8 τ  a0 a1) := by
  unfold Ci
  refine C_of (own := RX12) (by decide) rfl (Nat.le_of_ble_eq_true rfl) ?_
  intro p e s m below meth c ls S hr hlk X hl
  have hl : lv_has ls 3 [(0, .ref (G.2.2.2.1 131)), (1, .int a0), (2, .int a1)] := hl
  obtain ⟨v1, z2⟩ : ∃ x, τ 131 4 = x := ⟨_, rfl⟩
  have r3 : R (0) (940) v1 := rd hI rfl z2
  obtain ⟨v4, z5⟩ : ∃ x, τ 131 11 = x := ⟨_, rfl⟩
  have r6 : R (0) (4) v4 := rd hI rfl z5
  refine r_aload_n S dX12_takes_0 rfl (lv_at hl 0 rfl) ?_
  refine r_geti (K := 38) S X (Nat.le_of_ble_eq_true rfl) rfl lk12_157_10 (fun _ => ⟨_, rfl, rfl⟩) z5 dX12_takes_1 ?_
  refine r_iconst S dX12_takes_4 (by decide) (fun v7 z8 => ?_)
  have r9 := R_eq z8
  refine r_icmp_eq (tgt := 14) S dX12_takes_5 (by decide) (fun c10 => ?_) (fun c10 => ?_)
  ·
    have r11 : R (2) (2) v4 := ⟨by omega, by omega⟩
    refine r_aload_n S dX12_takes_14 rfl (lv_at hl 0 rfl) ?_
    refine r_getn (K := 38) S X (Nat.le_of_ble_eq_true rfl) rfl lk12_167_10 (fun _ => ⟨_, rfl, rfl⟩) dX12_takes_15 (fun v12 z13 => ?_)
    have r15 := R_any v12
    refine r_iload_n S dX12_takes_18 rfl (lv_at hl 1 rfl) ?_
    refine r_iload_n S dX12_takes_19 rfl (lv_at hl 2 rfl) ?_
    refine r_ki (q_S (As := [.int v12, .int a0, .int a1]) (rest := []) S X (c_X12_isIn l G τ hI v12 a0 a1 r15 (R_of (lo := -2147483648) (hi := 2147483647) h_a0 rfl) (R_of (lo := -2147483648) (hi := 2147483647) h_a1 rfl)) ck12_189 ⟨Nat.le_of_ble_eq_true rfl, Nat.le_of_ble_eq_true rfl⟩ rfl hl.1 rfl (Nat.le_of_ble_eq_true rfl) dX12_takes_20 ⟨Nat.le_refl 0, Nat.le_refl 0⟩) X (fun v19 t18 H lc q16 X17 => ?_)
    unfold po_X12_isIn at q16
    obtain ⟨q20, q21, q22⟩ := q16
    rw [q20] at X17
    refine r_if_ne (tgt := 32) S dX12_takes_23 (by decide) (fun c23 => ?_) (fun c23 => ?_)
    ·
      have r24 : R (1) (1) v19 := ⟨by omega, by omega⟩
      obtain ⟨p25, p26⟩ := q22 (by omega)
      have r27 : R (1) (8) v12 := ⟨by omega, by omega⟩
      refine r_aload_n S dX12_takes_32 rfl (lv_at hl 0 rfl) ?_
      refine r_aload_n S dX12_takes_33 rfl (lv_at hl 0 rfl) ?_
      refine r_geti (K := 38) S X17 (Nat.le_of_ble_eq_true rfl) rfl lk12_167_10 (fun _ => ⟨_, rfl, rfl⟩) z13 dX12_takes_34 ?_
      refine r_put (K := 38) (ty := .int) S X17 (Nat.le_of_ble_eq_true rfl) rfl lk12_193_10 (fun _ => ⟨_, rfl, Nat.le_of_ble_eq_true rfl, rfl⟩) (fun _ _ _ h => by cases h; exact ⟨rfl, rfl⟩) rfl rfl dX12_takes_37 (fun t28 H lc M29 X30 => ?_)
      have I31 := Inv_mu hI M29 (R_any v12)
      have F32 : Fr [(131, 15), (131, 16), (131, 4), (131, 11), (131, 12), (131, 13), (131, 14), (131, 18)] [] τ t28 := Fr_mu Fr_rfl M29 (by decide)
      refine r_aload_n S dX12_takes_40 rfl (lv_at hl 0 rfl) ?_
      refine r_kv (q_V (As := []) (rest := []) (K := 38) (ci := 10) S X30 (c_X12_skip l G t28 I31 ) ck12_186 (Nat.le_of_ble_eq_true rfl) rfl (fun _ => ⟨_, rfl⟩) ⟨_, _, rfl⟩ ⟨Nat.le_of_ble_eq_true rfl, Nat.le_of_ble_eq_true rfl⟩ rfl hl.1 rfl (Nat.le_of_ble_eq_true rfl) dX12_takes_41 ⟨Nat.le_refl 0, Nat.le_refl 0⟩) X30 (fun t35 H lc q33 X34 => ?_)
      unfold po_X12_skip at q33
      obtain ⟨q36, q37, q38, q39, q40, q41⟩ := q33
      have F42 : Fr [(131, 15), (131, 16), (131, 4), (131, 11), (131, 12), (131, 13), (131, 14), (131, 18)] [] τ t35 := Fr_call F32 q37 (by decide)
      obtain ⟨v43, z44⟩ : ∃ x, t35 131 4 = x := ⟨_, rfl⟩
      rw [z44] at q38
      obtain ⟨v45, z46⟩ : ∃ x, t35 131 11 = x := ⟨_, rfl⟩
      rw [z46] at q39
      have e47 := congrArg Int32.toInt ((M29.2 131 4 (Or.inr (by decide))).trans z2)
      have e48 := congrArg Int32.toInt z44
      have e49 := congrArg Int32.toInt ((M29.2 131 4 (Or.inr (by decide))).trans z2)
      have e50 := congrArg Int32.toInt z44
      have e51 := congrArg Int32.toInt ((M29.2 131 11 (Or.inr (by decide))).trans z5)
      have e52 := congrArg Int32.toInt z46
      refine r_iconst S dX12_takes_44 (by decide) (fun v53 z54 => ?_)
      have r55 := R_eq z54
      exact r_ret S hr hlk X34 ⟨q36, F42, (R_of r55 rfl), (fun h => (by rw [((q37 131 18 (by decide)).trans M29.1)]; exact R_of r27 rfl)), (by rw [z44]; exact R_of q38 rfl), (by rw [z46]; exact R_of q39 rfl), (by have h1_0 := congrArg Int32.toInt z44; have h2_0 := congrArg Int32.toInt z2; omega), (by have h1_0 := congrArg Int32.toInt z46; have h2_0 := congrArg Int32.toInt z5; omega)⟩ (nr_bool (R_of (lo := 0) (hi := 1) r55 rfl)) dX12_takes_45
    ·
      have r56 : R (0) (0) v19 := ⟨by omega, by omega⟩
      refine r_aload_n S dX12_takes_26 rfl (lv_at hl 0 rfl) ?_
      refine r_iconst S dX12_takes_27 (by decide) (fun v57 z58 => ?_)
      have r59 := R_eq z58
      refine r_ki (q_V (As := [.int v57]) (rest := []) (K := 38) (ci := 10) S X17 (c_X12_bad l G τ hI v57 (R_of (lo := -2147483648) (hi := 2147483647) r59 rfl)) ck12_183 (Nat.le_of_ble_eq_true rfl) rfl (fun _ => ⟨_, rfl⟩) ⟨_, _, rfl⟩ ⟨Nat.le_of_ble_eq_true rfl, Nat.le_of_ble_eq_true rfl⟩ rfl hl.1 rfl (Nat.le_of_ble_eq_true rfl) dX12_takes_28 ⟨Nat.le_refl 0, Nat.le_refl 0⟩) X17 (fun v63 t62 H lc q60 X61 => ?_)
      unfold po_X12_bad at q60
      obtain ⟨q64, q65, q66⟩ := q60
      have F67 : Fr [(131, 15), (131, 16), (131, 4), (131, 11), (131, 12), (131, 13), (131, 14), (131, 18)] [] τ t62 := Fr_call Fr_rfl q65 (by decide)
      exact r_ret S hr hlk X61 ⟨q64, F67, (R_of q66 rfl), (fun h => by exfalso; omega), (by rw [((q65 131 4 (by decide)).trans z2)]; exact R_of r3 rfl), (by rw [((q65 131 11 (by decide)).trans z5)]; exact R_of r11 rfl), (by have h1_0 := congrArg Int32.toInt ((q65 131 4 (by decide)).trans z2); have h2_0 := congrArg Int32.toInt z2; omega), (by have h1_0 := congrArg Int32.toInt ((q65 131 11 (by decide)).trans z5); have h2_0 := congrArg Int32.toInt z5; omega)⟩ (nr_bool (R_of (lo := 0) (hi := 1) q66 rfl)) dX12_takes_31
  ·
    refine r_aload_n S dX12_takes_8 rfl (lv_at hl 0 rfl) ?_
    refine r_iconst S dX12_takes_9 (by decide) (fun v68 z69 => ?_)
    have r70 := R_eq z69
    refine r_ki (q_V (As := [.int v68]) (rest := []) (K := 38) (ci := 10) S X (c_X12_bad l G τ hI v68 (R_of (lo := -2147483648) (hi := 2147483647) r70 rfl)) ck12_183 (Nat.le_of_ble_eq_true rfl) rfl (fun _ => ⟨_, rfl⟩) ⟨_, _, rfl⟩ ⟨Nat.le_of_ble_eq_true rfl, Nat.le_of_ble_eq_true rfl⟩ rfl hl.1 rfl (Nat.le_of_ble_eq_true rfl) dX12_takes_10 ⟨Nat.le_refl 0, Nat.le_refl 0⟩) X (fun v74 t73 H lc q71 X72 => ?_)
    unfold po_X12_bad at q71
    obtain ⟨q75, q76, q77⟩ := q71
    have F78 : Fr [(131, 15), (131, 16), (131, 4), (131, 11), (131, 12), (131, 13), (131, 14), (131, 18)] [] τ t73 := Fr_call Fr_rfl q76 (by decide)
    exact r_ret S hr hlk X72 ⟨q75, F78, (R_of q77 rfl), (fun h => by exfalso; omega), (by rw [((q76 131 4 (by decide)).trans z2)]; exact R_of r3 rfl), (by rw [((q76 131 11 (by decide)).trans z5)]; exact R_of r6 rfl), (by have h1_0 := congrArg Int32.toInt ((q76 131 4 (by decide)).trans z2); have h2_0 := congrArg Int32.toInt z2; omega), (by have h1_0 := congrArg Int32.toInt ((q76 131 11 (by decide)).trans z5); have h2_0 := congrArg Int32.toInt z5; omega)⟩ (nr_bool (R_of (lo := 0) (hi := 1) q77 rfl)) dX12_takes_13
def po_X12_takes_0_9 (τ : Tau)  (a0 a1 : Int32) (r : Int32) (u : Tau) : Prop := Inv u ∧ Fr [(131, 15), (131, 16), (131, 4), (131, 11), (131, 12), (131, 13), (131, 14), (131, 18)] [] τ u ∧ R (0) (1) r ∧ (r.toInt = 1 → R (0) (9) (u 131 18)) ∧ R (0) (940) (u 131 4) ∧ R (0) (4) (u 131 11) ∧ (τ 131 4).toInt ≤ (u 131 4).toInt ∧ (r.toInt = 1 → (τ 131 11).toInt = 2)
set_option maxHeartbeats 4000000 in
set_option maxRecDepth 100000 in
theorem c_X12_takes_0_9 (l : Launch) (G : Gx) (τ : Tau) (hI : Inv τ) (a0 : Int32) (a1 : Int32) (h_a0 : R (0) (0) a0) (h_a1 : R (9) (9) a1) : Ci l G yX12_takes cX12_takes 3 (some .boolean) 2 43 [.ref (G.2.2.2.1 131), .int a0, .int a1] τ (po_X12_takes_0_9 τ  a0 a1) := by
  unfold Ci
  refine C_of (own := RX12) (by decide) rfl (Nat.le_of_ble_eq_true rfl) ?_
  intro p e s m below meth c ls S hr hlk X hl
  have hl : lv_has ls 3 [(0, .ref (G.2.2.2.1 131)), (1, .int a0), (2, .int a1)] := hl
  obtain ⟨v1, z2⟩ : ∃ x, τ 131 4 = x := ⟨_, rfl⟩
  have r3 : R (0) (940) v1 := rd hI rfl z2
  obtain ⟨v4, z5⟩ : ∃ x, τ 131 11 = x := ⟨_, rfl⟩
  have r6 : R (0) (4) v4 := rd hI rfl z5
  refine r_aload_n S dX12_takes_0 rfl (lv_at hl 0 rfl) ?_
  refine r_geti (K := 38) S X (Nat.le_of_ble_eq_true rfl) rfl lk12_157_10 (fun _ => ⟨_, rfl, rfl⟩) z5 dX12_takes_1 ?_
  refine r_iconst S dX12_takes_4 (by decide) (fun v7 z8 => ?_)
  have r9 := R_eq z8
  refine r_icmp_eq (tgt := 14) S dX12_takes_5 (by decide) (fun c10 => ?_) (fun c10 => ?_)
  ·
    have r11 : R (2) (2) v4 := ⟨by omega, by omega⟩
    refine r_aload_n S dX12_takes_14 rfl (lv_at hl 0 rfl) ?_
    refine r_getn (K := 38) S X (Nat.le_of_ble_eq_true rfl) rfl lk12_167_10 (fun _ => ⟨_, rfl, rfl⟩) dX12_takes_15 (fun v12 z13 => ?_)
    have r15 := R_any v12
    refine r_iload_n S dX12_takes_18 rfl (lv_at hl 1 rfl) ?_
    refine r_iload_n S dX12_takes_19 rfl (lv_at hl 2 rfl) ?_
    refine r_ki (q_S (As := [.int v12, .int a0, .int a1]) (rest := []) S X (c_X12_isIn l G τ hI v12 a0 a1 r15 (R_of (lo := -2147483648) (hi := 2147483647) h_a0 rfl) (R_of (lo := -2147483648) (hi := 2147483647) h_a1 rfl)) ck12_189 ⟨Nat.le_of_ble_eq_true rfl, Nat.le_of_ble_eq_true rfl⟩ rfl hl.1 rfl (Nat.le_of_ble_eq_true rfl) dX12_takes_20 ⟨Nat.le_refl 0, Nat.le_refl 0⟩) X (fun v19 t18 H lc q16 X17 => ?_)
    unfold po_X12_isIn at q16
    obtain ⟨q20, q21, q22⟩ := q16
    rw [q20] at X17
    refine r_if_ne (tgt := 32) S dX12_takes_23 (by decide) (fun c23 => ?_) (fun c23 => ?_)
    ·
      have r24 : R (1) (1) v19 := ⟨by omega, by omega⟩
      obtain ⟨p25, p26⟩ := q22 (by omega)
      have r27 : R (0) (9) v12 := ⟨by omega, by omega⟩
      refine r_aload_n S dX12_takes_32 rfl (lv_at hl 0 rfl) ?_
      refine r_aload_n S dX12_takes_33 rfl (lv_at hl 0 rfl) ?_
      refine r_geti (K := 38) S X17 (Nat.le_of_ble_eq_true rfl) rfl lk12_167_10 (fun _ => ⟨_, rfl, rfl⟩) z13 dX12_takes_34 ?_
      refine r_put (K := 38) (ty := .int) S X17 (Nat.le_of_ble_eq_true rfl) rfl lk12_193_10 (fun _ => ⟨_, rfl, Nat.le_of_ble_eq_true rfl, rfl⟩) (fun _ _ _ h => by cases h; exact ⟨rfl, rfl⟩) rfl rfl dX12_takes_37 (fun t28 H lc M29 X30 => ?_)
      have I31 := Inv_mu hI M29 (R_any v12)
      have F32 : Fr [(131, 15), (131, 16), (131, 4), (131, 11), (131, 12), (131, 13), (131, 14), (131, 18)] [] τ t28 := Fr_mu Fr_rfl M29 (by decide)
      refine r_aload_n S dX12_takes_40 rfl (lv_at hl 0 rfl) ?_
      refine r_kv (q_V (As := []) (rest := []) (K := 38) (ci := 10) S X30 (c_X12_skip l G t28 I31 ) ck12_186 (Nat.le_of_ble_eq_true rfl) rfl (fun _ => ⟨_, rfl⟩) ⟨_, _, rfl⟩ ⟨Nat.le_of_ble_eq_true rfl, Nat.le_of_ble_eq_true rfl⟩ rfl hl.1 rfl (Nat.le_of_ble_eq_true rfl) dX12_takes_41 ⟨Nat.le_refl 0, Nat.le_refl 0⟩) X30 (fun t35 H lc q33 X34 => ?_)
      unfold po_X12_skip at q33
      obtain ⟨q36, q37, q38, q39, q40, q41⟩ := q33
      have F42 : Fr [(131, 15), (131, 16), (131, 4), (131, 11), (131, 12), (131, 13), (131, 14), (131, 18)] [] τ t35 := Fr_call F32 q37 (by decide)
      obtain ⟨v43, z44⟩ : ∃ x, t35 131 4 = x := ⟨_, rfl⟩
      rw [z44] at q38
      obtain ⟨v45, z46⟩ : ∃ x, t35 131 11 = x := ⟨_, rfl⟩
      rw [z46] at q39
      have e47 := congrArg Int32.toInt ((M29.2 131 4 (Or.inr (by decide))).trans z2)
      have e48 := congrArg Int32.toInt z44
      have e49 := congrArg Int32.toInt ((M29.2 131 4 (Or.inr (by decide))).trans z2)
      have e50 := congrArg Int32.toInt z44
      have e51 := congrArg Int32.toInt ((M29.2 131 11 (Or.inr (by decide))).trans z5)
      have e52 := congrArg Int32.toInt z46
      refine r_iconst S dX12_takes_44 (by decide) (fun v53 z54 => ?_)
      have r55 := R_eq z54
      exact r_ret S hr hlk X34 ⟨q36, F42, (R_of r55 rfl), (fun h => (by rw [((q37 131 18 (by decide)).trans M29.1)]; exact R_of r27 rfl)), (by rw [z44]; exact R_of q38 rfl), (by rw [z46]; exact R_of q39 rfl), (by have h1_0 := congrArg Int32.toInt z44; have h2_0 := congrArg Int32.toInt z2; omega), (by have h1_0 := congrArg Int32.toInt z46; have h2_0 := congrArg Int32.toInt z5; omega)⟩ (nr_bool (R_of (lo := 0) (hi := 1) r55 rfl)) dX12_takes_45
    ·
      have r56 : R (0) (0) v19 := ⟨by omega, by omega⟩
      refine r_aload_n S dX12_takes_26 rfl (lv_at hl 0 rfl) ?_
      refine r_iconst S dX12_takes_27 (by decide) (fun v57 z58 => ?_)
      have r59 := R_eq z58
      refine r_ki (q_V (As := [.int v57]) (rest := []) (K := 38) (ci := 10) S X17 (c_X12_bad l G τ hI v57 (R_of (lo := -2147483648) (hi := 2147483647) r59 rfl)) ck12_183 (Nat.le_of_ble_eq_true rfl) rfl (fun _ => ⟨_, rfl⟩) ⟨_, _, rfl⟩ ⟨Nat.le_of_ble_eq_true rfl, Nat.le_of_ble_eq_true rfl⟩ rfl hl.1 rfl (Nat.le_of_ble_eq_true rfl) dX12_takes_28 ⟨Nat.le_refl 0, Nat.le_refl 0⟩) X17 (fun v63 t62 H lc q60 X61 => ?_)
      unfold po_X12_bad at q60
      obtain ⟨q64, q65, q66⟩ := q60
      have F67 : Fr [(131, 15), (131, 16), (131, 4), (131, 11), (131, 12), (131, 13), (131, 14), (131, 18)] [] τ t62 := Fr_call Fr_rfl q65 (by decide)
      exact r_ret S hr hlk X61 ⟨q64, F67, (R_of q66 rfl), (fun h => by exfalso; omega), (by rw [((q65 131 4 (by decide)).trans z2)]; exact R_of r3 rfl), (by rw [((q65 131 11 (by decide)).trans z5)]; exact R_of r11 rfl), (by have h1_0 := congrArg Int32.toInt ((q65 131 4 (by decide)).trans z2); have h2_0 := congrArg Int32.toInt z2; omega), (by have h1_0 := congrArg Int32.toInt ((q65 131 11 (by decide)).trans z5); have h2_0 := congrArg Int32.toInt z5; omega)⟩ (nr_bool (R_of (lo := 0) (hi := 1) q66 rfl)) dX12_takes_31
  ·
    refine r_aload_n S dX12_takes_8 rfl (lv_at hl 0 rfl) ?_
    refine r_iconst S dX12_takes_9 (by decide) (fun v68 z69 => ?_)
    have r70 := R_eq z69
    refine r_ki (q_V (As := [.int v68]) (rest := []) (K := 38) (ci := 10) S X (c_X12_bad l G τ hI v68 (R_of (lo := -2147483648) (hi := 2147483647) r70 rfl)) ck12_183 (Nat.le_of_ble_eq_true rfl) rfl (fun _ => ⟨_, rfl⟩) ⟨_, _, rfl⟩ ⟨Nat.le_of_ble_eq_true rfl, Nat.le_of_ble_eq_true rfl⟩ rfl hl.1 rfl (Nat.le_of_ble_eq_true rfl) dX12_takes_10 ⟨Nat.le_refl 0, Nat.le_refl 0⟩) X (fun v74 t73 H lc q71 X72 => ?_)
    unfold po_X12_bad at q71
    obtain ⟨q75, q76, q77⟩ := q71
    have F78 : Fr [(131, 15), (131, 16), (131, 4), (131, 11), (131, 12), (131, 13), (131, 14), (131, 18)] [] τ t73 := Fr_call Fr_rfl q76 (by decide)
    exact r_ret S hr hlk X72 ⟨q75, F78, (R_of q77 rfl), (fun h => by exfalso; omega), (by rw [((q76 131 4 (by decide)).trans z2)]; exact R_of r3 rfl), (by rw [((q76 131 11 (by decide)).trans z5)]; exact R_of r6 rfl), (by have h1_0 := congrArg Int32.toInt ((q76 131 4 (by decide)).trans z2); have h2_0 := congrArg Int32.toInt z2; omega), (by have h1_0 := congrArg Int32.toInt ((q76 131 11 (by decide)).trans z5); have h2_0 := congrArg Int32.toInt z5; omega)⟩ (nr_bool (R_of (lo := 0) (hi := 1) q77 rfl)) dX12_takes_13
def po_X12_takes_0_20 (τ : Tau)  (a0 a1 : Int32) (r : Int32) (u : Tau) : Prop := Inv u ∧ Fr [(131, 15), (131, 16), (131, 4), (131, 11), (131, 12), (131, 13), (131, 14), (131, 18)] [] τ u ∧ R (0) (1) r ∧ (r.toInt = 1 → R (0) (20) (u 131 18)) ∧ R (0) (940) (u 131 4) ∧ R (0) (4) (u 131 11) ∧ (τ 131 4).toInt ≤ (u 131 4).toInt ∧ (r.toInt = 1 → (τ 131 11).toInt = 2)
set_option maxHeartbeats 4000000 in
set_option maxRecDepth 100000 in
theorem c_X12_takes_0_20 (l : Launch) (G : Gx) (τ : Tau) (hI : Inv τ) (a0 : Int32) (a1 : Int32) (h_a0 : R (0) (0) a0) (h_a1 : R (20) (20) a1) : Ci l G yX12_takes cX12_takes 3 (some .boolean) 2 43 [.ref (G.2.2.2.1 131), .int a0, .int a1] τ (po_X12_takes_0_20 τ  a0 a1) := by
  unfold Ci
  refine C_of (own := RX12) (by decide) rfl (Nat.le_of_ble_eq_true rfl) ?_
  intro p e s m below meth c ls S hr hlk X hl
  have hl : lv_has ls 3 [(0, .ref (G.2.2.2.1 131)), (1, .int a0), (2, .int a1)] := hl
  obtain ⟨v1, z2⟩ : ∃ x, τ 131 4 = x := ⟨_, rfl⟩
  have r3 : R (0) (940) v1 := rd hI rfl z2
  obtain ⟨v4, z5⟩ : ∃ x, τ 131 11 = x := ⟨_, rfl⟩
  have r6 : R (0) (4) v4 := rd hI rfl z5
  refine r_aload_n S dX12_takes_0 rfl (lv_at hl 0 rfl) ?_
  refine r_geti (K := 38) S X (Nat.le_of_ble_eq_true rfl) rfl lk12_157_10 (fun _ => ⟨_, rfl, rfl⟩) z5 dX12_takes_1 ?_
  refine r_iconst S dX12_takes_4 (by decide) (fun v7 z8 => ?_)
  have r9 := R_eq z8
  refine r_icmp_eq (tgt := 14) S dX12_takes_5 (by decide) (fun c10 => ?_) (fun c10 => ?_)
  ·
    have r11 : R (2) (2) v4 := ⟨by omega, by omega⟩
    refine r_aload_n S dX12_takes_14 rfl (lv_at hl 0 rfl) ?_
    refine r_getn (K := 38) S X (Nat.le_of_ble_eq_true rfl) rfl lk12_167_10 (fun _ => ⟨_, rfl, rfl⟩) dX12_takes_15 (fun v12 z13 => ?_)
    have r15 := R_any v12
    refine r_iload_n S dX12_takes_18 rfl (lv_at hl 1 rfl) ?_
    refine r_iload_n S dX12_takes_19 rfl (lv_at hl 2 rfl) ?_
    refine r_ki (q_S (As := [.int v12, .int a0, .int a1]) (rest := []) S X (c_X12_isIn l G τ hI v12 a0 a1 r15 (R_of (lo := -2147483648) (hi := 2147483647) h_a0 rfl) (R_of (lo := -2147483648) (hi := 2147483647) h_a1 rfl)) ck12_189 ⟨Nat.le_of_ble_eq_true rfl, Nat.le_of_ble_eq_true rfl⟩ rfl hl.1 rfl (Nat.le_of_ble_eq_true rfl) dX12_takes_20 ⟨Nat.le_refl 0, Nat.le_refl 0⟩) X (fun v19 t18 H lc q16 X17 => ?_)
    unfold po_X12_isIn at q16
    obtain ⟨q20, q21, q22⟩ := q16
    rw [q20] at X17
    refine r_if_ne (tgt := 32) S dX12_takes_23 (by decide) (fun c23 => ?_) (fun c23 => ?_)
    ·
      have r24 : R (1) (1) v19 := ⟨by omega, by omega⟩
      obtain ⟨p25, p26⟩ := q22 (by omega)
      have r27 : R (0) (20) v12 := ⟨by omega, by omega⟩
      refine r_aload_n S dX12_takes_32 rfl (lv_at hl 0 rfl) ?_
      refine r_aload_n S dX12_takes_33 rfl (lv_at hl 0 rfl) ?_
      refine r_geti (K := 38) S X17 (Nat.le_of_ble_eq_true rfl) rfl lk12_167_10 (fun _ => ⟨_, rfl, rfl⟩) z13 dX12_takes_34 ?_
      refine r_put (K := 38) (ty := .int) S X17 (Nat.le_of_ble_eq_true rfl) rfl lk12_193_10 (fun _ => ⟨_, rfl, Nat.le_of_ble_eq_true rfl, rfl⟩) (fun _ _ _ h => by cases h; exact ⟨rfl, rfl⟩) rfl rfl dX12_takes_37 (fun t28 H lc M29 X30 => ?_)
      have I31 := Inv_mu hI M29 (R_any v12)
      have F32 : Fr [(131, 15), (131, 16), (131, 4), (131, 11), (131, 12), (131, 13), (131, 14), (131, 18)] [] τ t28 := Fr_mu Fr_rfl M29 (by decide)
      refine r_aload_n S dX12_takes_40 rfl (lv_at hl 0 rfl) ?_
      refine r_kv (q_V (As := []) (rest := []) (K := 38) (ci := 10) S X30 (c_X12_skip l G t28 I31 ) ck12_186 (Nat.le_of_ble_eq_true rfl) rfl (fun _ => ⟨_, rfl⟩) ⟨_, _, rfl⟩ ⟨Nat.le_of_ble_eq_true rfl, Nat.le_of_ble_eq_true rfl⟩ rfl hl.1 rfl (Nat.le_of_ble_eq_true rfl) dX12_takes_41 ⟨Nat.le_refl 0, Nat.le_refl 0⟩) X30 (fun t35 H lc q33 X34 => ?_)
      unfold po_X12_skip at q33
      obtain ⟨q36, q37, q38, q39, q40, q41⟩ := q33
      have F42 : Fr [(131, 15), (131, 16), (131, 4), (131, 11), (131, 12), (131, 13), (131, 14), (131, 18)] [] τ t35 := Fr_call F32 q37 (by decide)
      obtain ⟨v43, z44⟩ : ∃ x, t35 131 4 = x := ⟨_, rfl⟩
      rw [z44] at q38
      obtain ⟨v45, z46⟩ : ∃ x, t35 131 11 = x := ⟨_, rfl⟩
      rw [z46] at q39
      have e47 := congrArg Int32.toInt ((M29.2 131 4 (Or.inr (by decide))).trans z2)
      have e48 := congrArg Int32.toInt z44
      have e49 := congrArg Int32.toInt ((M29.2 131 4 (Or.inr (by decide))).trans z2)
      have e50 := congrArg Int32.toInt z44
      have e51 := congrArg Int32.toInt ((M29.2 131 11 (Or.inr (by decide))).trans z5)
      have e52 := congrArg Int32.toInt z46
      refine r_iconst S dX12_takes_44 (by decide) (fun v53 z54 => ?_)
      have r55 := R_eq z54
      exact r_ret S hr hlk X34 ⟨q36, F42, (R_of r55 rfl), (fun h => (by rw [((q37 131 18 (by decide)).trans M29.1)]; exact R_of r27 rfl)), (by rw [z44]; exact R_of q38 rfl), (by rw [z46]; exact R_of q39 rfl), (by have h1_0 := congrArg Int32.toInt z44; have h2_0 := congrArg Int32.toInt z2; omega), (by have h1_0 := congrArg Int32.toInt z46; have h2_0 := congrArg Int32.toInt z5; omega)⟩ (nr_bool (R_of (lo := 0) (hi := 1) r55 rfl)) dX12_takes_45
    ·
      have r56 : R (0) (0) v19 := ⟨by omega, by omega⟩
      refine r_aload_n S dX12_takes_26 rfl (lv_at hl 0 rfl) ?_
      refine r_iconst S dX12_takes_27 (by decide) (fun v57 z58 => ?_)
      have r59 := R_eq z58
      refine r_ki (q_V (As := [.int v57]) (rest := []) (K := 38) (ci := 10) S X17 (c_X12_bad l G τ hI v57 (R_of (lo := -2147483648) (hi := 2147483647) r59 rfl)) ck12_183 (Nat.le_of_ble_eq_true rfl) rfl (fun _ => ⟨_, rfl⟩) ⟨_, _, rfl⟩ ⟨Nat.le_of_ble_eq_true rfl, Nat.le_of_ble_eq_true rfl⟩ rfl hl.1 rfl (Nat.le_of_ble_eq_true rfl) dX12_takes_28 ⟨Nat.le_refl 0, Nat.le_refl 0⟩) X17 (fun v63 t62 H lc q60 X61 => ?_)
      unfold po_X12_bad at q60
      obtain ⟨q64, q65, q66⟩ := q60
      have F67 : Fr [(131, 15), (131, 16), (131, 4), (131, 11), (131, 12), (131, 13), (131, 14), (131, 18)] [] τ t62 := Fr_call Fr_rfl q65 (by decide)
      exact r_ret S hr hlk X61 ⟨q64, F67, (R_of q66 rfl), (fun h => by exfalso; omega), (by rw [((q65 131 4 (by decide)).trans z2)]; exact R_of r3 rfl), (by rw [((q65 131 11 (by decide)).trans z5)]; exact R_of r11 rfl), (by have h1_0 := congrArg Int32.toInt ((q65 131 4 (by decide)).trans z2); have h2_0 := congrArg Int32.toInt z2; omega), (by have h1_0 := congrArg Int32.toInt ((q65 131 11 (by decide)).trans z5); have h2_0 := congrArg Int32.toInt z5; omega)⟩ (nr_bool (R_of (lo := 0) (hi := 1) q66 rfl)) dX12_takes_31
  ·
    refine r_aload_n S dX12_takes_8 rfl (lv_at hl 0 rfl) ?_
    refine r_iconst S dX12_takes_9 (by decide) (fun v68 z69 => ?_)
    have r70 := R_eq z69
    refine r_ki (q_V (As := [.int v68]) (rest := []) (K := 38) (ci := 10) S X (c_X12_bad l G τ hI v68 (R_of (lo := -2147483648) (hi := 2147483647) r70 rfl)) ck12_183 (Nat.le_of_ble_eq_true rfl) rfl (fun _ => ⟨_, rfl⟩) ⟨_, _, rfl⟩ ⟨Nat.le_of_ble_eq_true rfl, Nat.le_of_ble_eq_true rfl⟩ rfl hl.1 rfl (Nat.le_of_ble_eq_true rfl) dX12_takes_10 ⟨Nat.le_refl 0, Nat.le_refl 0⟩) X (fun v74 t73 H lc q71 X72 => ?_)
    unfold po_X12_bad at q71
    obtain ⟨q75, q76, q77⟩ := q71
    have F78 : Fr [(131, 15), (131, 16), (131, 4), (131, 11), (131, 12), (131, 13), (131, 14), (131, 18)] [] τ t73 := Fr_call Fr_rfl q76 (by decide)
    exact r_ret S hr hlk X72 ⟨q75, F78, (R_of q77 rfl), (fun h => by exfalso; omega), (by rw [((q76 131 4 (by decide)).trans z2)]; exact R_of r3 rfl), (by rw [((q76 131 11 (by decide)).trans z5)]; exact R_of r6 rfl), (by have h1_0 := congrArg Int32.toInt ((q76 131 4 (by decide)).trans z2); have h2_0 := congrArg Int32.toInt z2; omega), (by have h1_0 := congrArg Int32.toInt ((q76 131 11 (by decide)).trans z5); have h2_0 := congrArg Int32.toInt z5; omega)⟩ (nr_bool (R_of (lo := 0) (hi := 1) q77 rfl)) dX12_takes_13
def po_X12_takes_1_9 (τ : Tau)  (a0 a1 : Int32) (r : Int32) (u : Tau) : Prop := Inv u ∧ Fr [(131, 15), (131, 16), (131, 4), (131, 11), (131, 12), (131, 13), (131, 14), (131, 18)] [] τ u ∧ R (0) (1) r ∧ (r.toInt = 1 → R (1) (9) (u 131 18)) ∧ R (0) (940) (u 131 4) ∧ R (0) (4) (u 131 11) ∧ (τ 131 4).toInt ≤ (u 131 4).toInt ∧ (r.toInt = 1 → (τ 131 11).toInt = 2)
set_option maxHeartbeats 4000000 in
set_option maxRecDepth 100000 in
theorem c_X12_takes_1_9 (l : Launch) (G : Gx) (τ : Tau) (hI : Inv τ) (a0 : Int32) (a1 : Int32) (h_a0 : R (1) (1) a0) (h_a1 : R (9) (9) a1) : Ci l G yX12_takes cX12_takes 3 (some .boolean) 2 43 [.ref (G.2.2.2.1 131), .int a0, .int a1] τ (po_X12_takes_1_9 τ  a0 a1) := by
  unfold Ci
  refine C_of (own := RX12) (by decide) rfl (Nat.le_of_ble_eq_true rfl) ?_
  intro p e s m below meth c ls S hr hlk X hl
  have hl : lv_has ls 3 [(0, .ref (G.2.2.2.1 131)), (1, .int a0), (2, .int a1)] := hl
  obtain ⟨v1, z2⟩ : ∃ x, τ 131 4 = x := ⟨_, rfl⟩
  have r3 : R (0) (940) v1 := rd hI rfl z2
  obtain ⟨v4, z5⟩ : ∃ x, τ 131 11 = x := ⟨_, rfl⟩
  have r6 : R (0) (4) v4 := rd hI rfl z5
  refine r_aload_n S dX12_takes_0 rfl (lv_at hl 0 rfl) ?_
  refine r_geti (K := 38) S X (Nat.le_of_ble_eq_true rfl) rfl lk12_157_10 (fun _ => ⟨_, rfl, rfl⟩) z5 dX12_takes_1 ?_
  refine r_iconst S dX12_takes_4 (by decide) (fun v7 z8 => ?_)
  have r9 := R_eq z8
  refine r_icmp_eq (tgt := 14) S dX12_takes_5 (by decide) (fun c10 => ?_) (fun c10 => ?_)
  ·
    have r11 : R (2) (2) v4 := ⟨by omega, by omega⟩
    refine r_aload_n S dX12_takes_14 rfl (lv_at hl 0 rfl) ?_
    refine r_getn (K := 38) S X (Nat.le_of_ble_eq_true rfl) rfl lk12_167_10 (fun _ => ⟨_, rfl, rfl⟩) dX12_takes_15 (fun v12 z13 => ?_)
    have r15 := R_any v12
    refine r_iload_n S dX12_takes_18 rfl (lv_at hl 1 rfl) ?_
    refine r_iload_n S dX12_takes_19 rfl (lv_at hl 2 rfl) ?_
    refine r_ki (q_S (As := [.int v12, .int a0, .int a1]) (rest := []) S X (c_X12_isIn l G τ hI v12 a0 a1 r15 (R_of (lo := -2147483648) (hi := 2147483647) h_a0 rfl) (R_of (lo := -2147483648) (hi := 2147483647) h_a1 rfl)) ck12_189 ⟨Nat.le_of_ble_eq_true rfl, Nat.le_of_ble_eq_true rfl⟩ rfl hl.1 rfl (Nat.le_of_ble_eq_true rfl) dX12_takes_20 ⟨Nat.le_refl 0, Nat.le_refl 0⟩) X (fun v19 t18 H lc q16 X17 => ?_)
    unfold po_X12_isIn at q16
    obtain ⟨q20, q21, q22⟩ := q16
    rw [q20] at X17
    refine r_if_ne (tgt := 32) S dX12_takes_23 (by decide) (fun c23 => ?_) (fun c23 => ?_)
    ·
      have r24 : R (1) (1) v19 := ⟨by omega, by omega⟩
      obtain ⟨p25, p26⟩ := q22 (by omega)
      have r27 : R (1) (9) v12 := ⟨by omega, by omega⟩
      refine r_aload_n S dX12_takes_32 rfl (lv_at hl 0 rfl) ?_
      refine r_aload_n S dX12_takes_33 rfl (lv_at hl 0 rfl) ?_
      refine r_geti (K := 38) S X17 (Nat.le_of_ble_eq_true rfl) rfl lk12_167_10 (fun _ => ⟨_, rfl, rfl⟩) z13 dX12_takes_34 ?_
      refine r_put (K := 38) (ty := .int) S X17 (Nat.le_of_ble_eq_true rfl) rfl lk12_193_10 (fun _ => ⟨_, rfl, Nat.le_of_ble_eq_true rfl, rfl⟩) (fun _ _ _ h => by cases h; exact ⟨rfl, rfl⟩) rfl rfl dX12_takes_37 (fun t28 H lc M29 X30 => ?_)
      have I31 := Inv_mu hI M29 (R_any v12)
      have F32 : Fr [(131, 15), (131, 16), (131, 4), (131, 11), (131, 12), (131, 13), (131, 14), (131, 18)] [] τ t28 := Fr_mu Fr_rfl M29 (by decide)
      refine r_aload_n S dX12_takes_40 rfl (lv_at hl 0 rfl) ?_
      refine r_kv (q_V (As := []) (rest := []) (K := 38) (ci := 10) S X30 (c_X12_skip l G t28 I31 ) ck12_186 (Nat.le_of_ble_eq_true rfl) rfl (fun _ => ⟨_, rfl⟩) ⟨_, _, rfl⟩ ⟨Nat.le_of_ble_eq_true rfl, Nat.le_of_ble_eq_true rfl⟩ rfl hl.1 rfl (Nat.le_of_ble_eq_true rfl) dX12_takes_41 ⟨Nat.le_refl 0, Nat.le_refl 0⟩) X30 (fun t35 H lc q33 X34 => ?_)
      unfold po_X12_skip at q33
      obtain ⟨q36, q37, q38, q39, q40, q41⟩ := q33
      have F42 : Fr [(131, 15), (131, 16), (131, 4), (131, 11), (131, 12), (131, 13), (131, 14), (131, 18)] [] τ t35 := Fr_call F32 q37 (by decide)
      obtain ⟨v43, z44⟩ : ∃ x, t35 131 4 = x := ⟨_, rfl⟩
      rw [z44] at q38
      obtain ⟨v45, z46⟩ : ∃ x, t35 131 11 = x := ⟨_, rfl⟩
      rw [z46] at q39
      have e47 := congrArg Int32.toInt ((M29.2 131 4 (Or.inr (by decide))).trans z2)
      have e48 := congrArg Int32.toInt z44
      have e49 := congrArg Int32.toInt ((M29.2 131 4 (Or.inr (by decide))).trans z2)
      have e50 := congrArg Int32.toInt z44
      have e51 := congrArg Int32.toInt ((M29.2 131 11 (Or.inr (by decide))).trans z5)
      have e52 := congrArg Int32.toInt z46
      refine r_iconst S dX12_takes_44 (by decide) (fun v53 z54 => ?_)
      have r55 := R_eq z54
      exact r_ret S hr hlk X34 ⟨q36, F42, (R_of r55 rfl), (fun h => (by rw [((q37 131 18 (by decide)).trans M29.1)]; exact R_of r27 rfl)), (by rw [z44]; exact R_of q38 rfl), (by rw [z46]; exact R_of q39 rfl), (by have h1_0 := congrArg Int32.toInt z44; have h2_0 := congrArg Int32.toInt z2; omega), (by have h1_0 := congrArg Int32.toInt z46; have h2_0 := congrArg Int32.toInt z5; omega)⟩ (nr_bool (R_of (lo := 0) (hi := 1) r55 rfl)) dX12_takes_45
    ·
      have r56 : R (0) (0) v19 := ⟨by omega, by omega⟩
      refine r_aload_n S dX12_takes_26 rfl (lv_at hl 0 rfl) ?_
      refine r_iconst S dX12_takes_27 (by decide) (fun v57 z58 => ?_)
      have r59 := R_eq z58
      refine r_ki (q_V (As := [.int v57]) (rest := []) (K := 38) (ci := 10) S X17 (c_X12_bad l G τ hI v57 (R_of (lo := -2147483648) (hi := 2147483647) r59 rfl)) ck12_183 (Nat.le_of_ble_eq_true rfl) rfl (fun _ => ⟨_, rfl⟩) ⟨_, _, rfl⟩ ⟨Nat.le_of_ble_eq_true rfl, Nat.le_of_ble_eq_true rfl⟩ rfl hl.1 rfl (Nat.le_of_ble_eq_true rfl) dX12_takes_28 ⟨Nat.le_refl 0, Nat.le_refl 0⟩) X17 (fun v63 t62 H lc q60 X61 => ?_)
      unfold po_X12_bad at q60
      obtain ⟨q64, q65, q66⟩ := q60
      have F67 : Fr [(131, 15), (131, 16), (131, 4), (131, 11), (131, 12), (131, 13), (131, 14), (131, 18)] [] τ t62 := Fr_call Fr_rfl q65 (by decide)
      exact r_ret S hr hlk X61 ⟨q64, F67, (R_of q66 rfl), (fun h => by exfalso; omega), (by rw [((q65 131 4 (by decide)).trans z2)]; exact R_of r3 rfl), (by rw [((q65 131 11 (by decide)).trans z5)]; exact R_of r11 rfl), (by have h1_0 := congrArg Int32.toInt ((q65 131 4 (by decide)).trans z2); have h2_0 := congrArg Int32.toInt z2; omega), (by have h1_0 := congrArg Int32.toInt ((q65 131 11 (by decide)).trans z5); have h2_0 := congrArg Int32.toInt z5; omega)⟩ (nr_bool (R_of (lo := 0) (hi := 1) q66 rfl)) dX12_takes_31
  ·
    refine r_aload_n S dX12_takes_8 rfl (lv_at hl 0 rfl) ?_
    refine r_iconst S dX12_takes_9 (by decide) (fun v68 z69 => ?_)
    have r70 := R_eq z69
    refine r_ki (q_V (As := [.int v68]) (rest := []) (K := 38) (ci := 10) S X (c_X12_bad l G τ hI v68 (R_of (lo := -2147483648) (hi := 2147483647) r70 rfl)) ck12_183 (Nat.le_of_ble_eq_true rfl) rfl (fun _ => ⟨_, rfl⟩) ⟨_, _, rfl⟩ ⟨Nat.le_of_ble_eq_true rfl, Nat.le_of_ble_eq_true rfl⟩ rfl hl.1 rfl (Nat.le_of_ble_eq_true rfl) dX12_takes_10 ⟨Nat.le_refl 0, Nat.le_refl 0⟩) X (fun v74 t73 H lc q71 X72 => ?_)
    unfold po_X12_bad at q71
    obtain ⟨q75, q76, q77⟩ := q71
    have F78 : Fr [(131, 15), (131, 16), (131, 4), (131, 11), (131, 12), (131, 13), (131, 14), (131, 18)] [] τ t73 := Fr_call Fr_rfl q76 (by decide)
    exact r_ret S hr hlk X72 ⟨q75, F78, (R_of q77 rfl), (fun h => by exfalso; omega), (by rw [((q76 131 4 (by decide)).trans z2)]; exact R_of r3 rfl), (by rw [((q76 131 11 (by decide)).trans z5)]; exact R_of r6 rfl), (by have h1_0 := congrArg Int32.toInt ((q76 131 4 (by decide)).trans z2); have h2_0 := congrArg Int32.toInt z2; omega), (by have h1_0 := congrArg Int32.toInt ((q76 131 11 (by decide)).trans z5); have h2_0 := congrArg Int32.toInt z5; omega)⟩ (nr_bool (R_of (lo := 0) (hi := 1) q77 rfl)) dX12_takes_13
def po_X12_find_a (τ : Tau)  (a0 a1 : Int32) (r : Int32) (u : Tau) : Prop := u = τ ∧ R (-1) (8) r
set_option maxHeartbeats 4000000 in
set_option maxRecDepth 100000 in
theorem c_X12_find_a (l : Launch) (G : Gx) (τ : Tau) (hI : Inv τ) (a0 : Int32) (a1 : Int32) (h_a0 : R (0) (19) a0) (h_a1 : R (0) (9) a1) : Ci l G yX12_find cX12_find 4 (some .int) 0 0 [.ref (G.2.2.2.1 131), .int a0, .int a1] τ (po_X12_find_a τ  a0 a1) := by
  unfold Ci
  refine C_of (own := RX12) (by decide) rfl (Nat.le_of_ble_eq_true rfl) ?_
  intro p e s m below meth c ls S hr hlk X hl
  have hl : lv_has ls 4 [(0, .ref (G.2.2.2.1 131)), (1, .int a0), (2, .int a1)] := hl
  refine r_iconst S dX12_find_0 (by decide) (fun v1 z2 => ?_)
  have r3 := R_eq z2
  refine r_istore_n (lv' := [(3, .int v1), (0, .ref (G.2.2.2.1 131)), (1, .int a0), (2, .int a1)]) S dX12_find_1 rfl hl (by decide) rfl (fun ls hl => ?_)
  have L139 : ∀ (n : Nat) (H : Heap) (lc : List Loc) (ls : Array Slot) (i136 : Int32), Xd G s H lc τ → R (0) (9) i136 → lv_has ls 4 [(0, .ref (G.2.2.2.1 131)), (1, .int a0), (2, .int a1), (3, .int i136)] → (9 - i136.toInt).toNat < n → W p l e (Rm 0 0) s m ([.ref (G.2.2.2.1 131), .int a0, .int a1] : List Value).toArray below meth c H lc 0 0 (MQ below (va_Qi (po_X12_find_a τ  a0 a1) (Bs G) G.2.2.2.2) ([.ref (G.2.2.2.1 131), .int a0, .int a1] : List Value).toArray s 0 0 G.2.2.2.2) (F0 m 2 ls []) := by
    intro n
    induction n with
    | zero => intros; omega
    | succ n ih140 =>
      intro H lc ls i136 X138 r137 hl hm
      refine r_iload_n S dX12_find_2 rfl (lv_at hl 3 rfl) ?_
      refine r_iload_n S dX12_find_3 rfl (lv_at hl 2 rfl) ?_
      refine r_icmp_ge (tgt := 31) S dX12_find_4 (by decide) (fun c141 => ?_) (fun c141 => ?_)
      ·
        refine r_iconst S dX12_find_31 (by decide) (fun v142 z143 => ?_)
        have r144 := R_eq z143
        exact r_ret S hr hlk X138 ⟨rfl, (R_of r144 rfl)⟩ rfl dX12_find_32
      ·
        have r145 : R (0) (8) i136 := ⟨by omega, by omega⟩
        have r146 : R (1) (9) a1 := ⟨by omega, by omega⟩
        refine r_aload_n S dX12_find_7 rfl (lv_at hl 0 rfl) ?_
        refine r_get (K := 38) (v := .ref (G.2.2.2.1 136)) S X138 (Nat.le_of_ble_eq_true rfl) rfl lk12_43_10 (fun _ => ⟨_, rfl, rfl⟩) dX12_find_8 ?_
        refine r_iload_n S dX12_find_11 rfl (lv_at hl 1 rfl) ?_
        refine r_iload_n S dX12_find_12 rfl (lv_at hl 3 rfl) ?_
        refine r_iadd S dX12_find_13 (fun v147 z148 => ?_)
        obtain ⟨e149, r150⟩ := i_add (lo := 0) (hi := 27) z148 h_a0 r145 rfl
        refine r_lald (n := 38) (K := 43) S X138 (Nat.le_of_ble_eq_true rfl) rfl (fun _ => rfl) (ix_of r150 rfl) dX12_find_14 (fun j151 => ?_)
        refine r_aload_n S dX12_find_15 rfl (lv_at hl 0 rfl) ?_
        refine r_getJ (K := 38) S X138 (Nat.le_of_ble_eq_true rfl) rfl lk12_170_10 (fun _ => ⟨_, rfl, rfl⟩) dX12_find_16 (fun j152 => ?_)
        refine r_lcmp S dX12_find_19 (fun v153 r154 => ?_)
        refine r_if_ne (tgt := 25) S dX12_find_20 (by decide) (fun c155 => ?_) (fun c155 => ?_)
        ·
          refine r_iinc (k := 3) S dX12_find_25 hl rfl (by decide) (by decide) (fun v156 d157 ls z158 z159 hl => ?_)
          obtain ⟨e160, r161⟩ := i_add (lo := 1) (hi := 9) z158 r145 (R_eq z159) rfl
          have hl : lv_has ls 4 [(3, .int v156), (0, .ref (G.2.2.2.1 131)), (1, .int a0), (2, .int a1)] := hl
          refine r_goto (tgt := 2) S dX12_find_28 (by decide) ?_
          exact ih140 _ _ _ v156 X138 (R_of r161 rfl) (lv_sub hl [1, 2, 3, 0] rfl) (by omega)
        ·
          have r162 : R (0) (0) v153 := ⟨by omega, by omega⟩
          refine r_iload_n S dX12_find_23 rfl (lv_at hl 3 rfl) ?_
          exact r_ret S hr hlk X138 ⟨rfl, (R_of r145 rfl)⟩ rfl dX12_find_24
  exact L139 _ _ _ _ v1 X (R_of r3 rfl) (lv_sub hl [1, 2, 3, 0] rfl) (Nat.lt_succ_self _)
def po_X12_find_m (τ : Tau)  (a0 a1 : Int32) (r : Int32) (u : Tau) : Prop := u = τ ∧ R (-1) (9) r
set_option maxHeartbeats 4000000 in
set_option maxRecDepth 100000 in
theorem c_X12_find_m (l : Launch) (G : Gx) (τ : Tau) (hI : Inv τ) (a0 : Int32) (a1 : Int32) (h_a0 : R (9) (28) a0) (h_a1 : R (0) (10) a1) : Ci l G yX12_find cX12_find 4 (some .int) 0 0 [.ref (G.2.2.2.1 131), .int a0, .int a1] τ (po_X12_find_m τ  a0 a1) := by
  unfold Ci
  refine C_of (own := RX12) (by decide) rfl (Nat.le_of_ble_eq_true rfl) ?_
  intro p e s m below meth c ls S hr hlk X hl
  have hl : lv_has ls 4 [(0, .ref (G.2.2.2.1 131)), (1, .int a0), (2, .int a1)] := hl
  refine r_iconst S dX12_find_0 (by decide) (fun v1 z2 => ?_)
  have r3 := R_eq z2
  refine r_istore_n (lv' := [(3, .int v1), (0, .ref (G.2.2.2.1 131)), (1, .int a0), (2, .int a1)]) S dX12_find_1 rfl hl (by decide) rfl (fun ls hl => ?_)
  have L161 : ∀ (n : Nat) (H : Heap) (lc : List Loc) (ls : Array Slot) (i158 : Int32), Xd G s H lc τ → R (0) (10) i158 → lv_has ls 4 [(0, .ref (G.2.2.2.1 131)), (1, .int a0), (2, .int a1), (3, .int i158)] → (10 - i158.toInt).toNat < n → W p l e (Rm 0 0) s m ([.ref (G.2.2.2.1 131), .int a0, .int a1] : List Value).toArray below meth c H lc 0 0 (MQ below (va_Qi (po_X12_find_m τ  a0 a1) (Bs G) G.2.2.2.2) ([.ref (G.2.2.2.1 131), .int a0, .int a1] : List Value).toArray s 0 0 G.2.2.2.2) (F0 m 2 ls []) := by
    intro n
    induction n with
    | zero => intros; omega
    | succ n ih162 =>
      intro H lc ls i158 X160 r159 hl hm
      refine r_iload_n S dX12_find_2 rfl (lv_at hl 3 rfl) ?_
      refine r_iload_n S dX12_find_3 rfl (lv_at hl 2 rfl) ?_
      refine r_icmp_ge (tgt := 31) S dX12_find_4 (by decide) (fun c163 => ?_) (fun c163 => ?_)
      ·
        refine r_iconst S dX12_find_31 (by decide) (fun v164 z165 => ?_)
        have r166 := R_eq z165
        exact r_ret S hr hlk X160 ⟨rfl, (R_of r166 rfl)⟩ rfl dX12_find_32
      ·
        have r167 : R (0) (9) i158 := ⟨by omega, by omega⟩
        have r168 : R (1) (10) a1 := ⟨by omega, by omega⟩
        refine r_aload_n S dX12_find_7 rfl (lv_at hl 0 rfl) ?_
        refine r_get (K := 38) (v := .ref (G.2.2.2.1 136)) S X160 (Nat.le_of_ble_eq_true rfl) rfl lk12_43_10 (fun _ => ⟨_, rfl, rfl⟩) dX12_find_8 ?_
        refine r_iload_n S dX12_find_11 rfl (lv_at hl 1 rfl) ?_
        refine r_iload_n S dX12_find_12 rfl (lv_at hl 3 rfl) ?_
        refine r_iadd S dX12_find_13 (fun v169 z170 => ?_)
        obtain ⟨e171, r172⟩ := i_add (lo := 9) (hi := 37) z170 h_a0 r167 rfl
        refine r_lald (n := 38) (K := 43) S X160 (Nat.le_of_ble_eq_true rfl) rfl (fun _ => rfl) (ix_of r172 rfl) dX12_find_14 (fun j173 => ?_)
        refine r_aload_n S dX12_find_15 rfl (lv_at hl 0 rfl) ?_
        refine r_getJ (K := 38) S X160 (Nat.le_of_ble_eq_true rfl) rfl lk12_170_10 (fun _ => ⟨_, rfl, rfl⟩) dX12_find_16 (fun j174 => ?_)
        refine r_lcmp S dX12_find_19 (fun v175 r176 => ?_)
        refine r_if_ne (tgt := 25) S dX12_find_20 (by decide) (fun c177 => ?_) (fun c177 => ?_)
        ·
          refine r_iinc (k := 3) S dX12_find_25 hl rfl (by decide) (by decide) (fun v178 d179 ls z180 z181 hl => ?_)
          obtain ⟨e182, r183⟩ := i_add (lo := 1) (hi := 10) z180 r167 (R_eq z181) rfl
          have hl : lv_has ls 4 [(3, .int v178), (0, .ref (G.2.2.2.1 131)), (1, .int a0), (2, .int a1)] := hl
          refine r_goto (tgt := 2) S dX12_find_28 (by decide) ?_
          exact ih162 _ _ _ v178 X160 (R_of r183 rfl) (lv_sub hl [1, 2, 3, 0] rfl) (by omega)
        ·
          have r184 : R (0) (0) v175 := ⟨by omega, by omega⟩
          refine r_iload_n S dX12_find_23 rfl (lv_at hl 3 rfl) ?_
          exact r_ret S hr hlk X160 ⟨rfl, (R_of r167 rfl)⟩ rfl dX12_find_24
  exact L161 _ _ _ _ v1 X (R_of r3 rfl) (lv_sub hl [1, 2, 3, 0] rfl) (Nat.lt_succ_self _)
def po_X12_fresh (τ : Tau)  (a0 : Int32) (r : Int32) (u : Tau) : Prop := Inv u ∧ Fr [(131, 15), (131, 16), (131, 4), (131, 11), (131, 12), (131, 13), (131, 14)] [] τ u ∧ R (0) (1) r ∧ R (0) (940) (u 131 4) ∧ R (0) (4) (u 131 11) ∧ (τ 131 4).toInt ≤ (u 131 4).toInt ∧ (r.toInt = 1 → (τ 131 11).toInt = 1)
set_option maxHeartbeats 4000000 in
set_option maxRecDepth 100000 in
theorem c_X12_fresh (l : Launch) (G : Gx) (τ : Tau) (hI : Inv τ) (a0 : Int32) (h_a0 : R (19) (37) a0) : Ci l G yX12_fresh cX12_fresh 2 (some .boolean) 2 43 [.ref (G.2.2.2.1 131), .int a0] τ (po_X12_fresh τ  a0) := by
  unfold Ci
  refine C_of (own := RX12) (by decide) rfl (Nat.le_of_ble_eq_true rfl) ?_
  intro p e s m below meth c ls S hr hlk X hl
  have hl : lv_has ls 2 [(0, .ref (G.2.2.2.1 131)), (1, .int a0)] := hl
  obtain ⟨v1, z2⟩ : ∃ x, τ 131 4 = x := ⟨_, rfl⟩
  have r3 : R (0) (940) v1 := rd hI rfl z2
  obtain ⟨v4, z5⟩ : ∃ x, τ 131 11 = x := ⟨_, rfl⟩
  have r6 : R (0) (4) v4 := rd hI rfl z5
  refine r_aload_n S dX12_fresh_0 rfl (lv_at hl 0 rfl) ?_
  refine r_ki (q_V (As := []) (rest := []) (K := 38) (ci := 10) S X (c_X12_isName l G τ hI ) ck12_196 (Nat.le_of_ble_eq_true rfl) rfl (fun _ => ⟨_, rfl⟩) ⟨_, _, rfl⟩ ⟨Nat.le_of_ble_eq_true rfl, Nat.le_of_ble_eq_true rfl⟩ rfl hl.1 rfl (Nat.le_of_ble_eq_true rfl) dX12_fresh_1 ⟨Nat.le_refl 0, Nat.le_refl 0⟩) X (fun v10 t9 H lc q7 X8 => ?_)
  unfold po_X12_isName at q7
  obtain ⟨q11, q12, q13⟩ := q7
  rw [q11] at X8
  rw [q11] at q13
  refine r_if_ne (tgt := 13) S dX12_fresh_4 (by decide) (fun c14 => ?_) (fun c14 => ?_)
  ·
    have r15 : R (1) (1) v10 := ⟨by omega, by omega⟩
    have p16 := q13 (by omega)
    have r17 : R (1) (1) v4 := z5 ▸ p16
    have r18 : R (1) (1) v4 := ⟨by omega, by omega⟩
    refine r_aload_n S dX12_fresh_13 rfl (lv_at hl 0 rfl) ?_
    refine r_bipush S dX12_fresh_14 (by decide) (fun v19 z20 => ?_)
    have r21 := R_eq z20
    refine r_aload_n S dX12_fresh_16 rfl (lv_at hl 0 rfl) ?_
    refine r_get (K := 38) (v := .ref (G.2.2.2.1 134)) S X8 (Nat.le_of_ble_eq_true rfl) rfl lk12_37_10 (fun _ => ⟨_, rfl, rfl⟩) dX12_fresh_17 ?_
    refine r_iconst S dX12_fresh_20 (by decide) (fun v22 z23 => ?_)
    have r24 := R_eq z23
    refine r_aldn (n := 125) (K := 41) S X8 (Nat.le_of_ble_eq_true rfl) rfl (fun _ => rfl) (ix_of r24 rfl) dX12_fresh_21 (fun v25 z26 => ?_)
    have r27 : R (0) (9) v25 := rds (K := 41) (a := 0) (n := 1) hI rfl z26 (R_of r24 rfl) (by decide +kernel)
    refine r_ki (q_V (As := [.int v19, .int v25]) (rest := []) (K := 38) (ci := 10) S X8 (c_X12_find_a l G τ hI v19 v25 (R_of (lo := 0) (hi := 19) r21 rfl) r27) ck12_200 (Nat.le_of_ble_eq_true rfl) rfl (fun _ => ⟨_, rfl⟩) ⟨_, _, rfl⟩ ⟨Nat.le_of_ble_eq_true rfl, Nat.le_of_ble_eq_true rfl⟩ rfl hl.1 rfl (Nat.le_of_ble_eq_true rfl) dX12_fresh_22 ⟨Nat.le_refl 0, Nat.le_refl 0⟩) X8 (fun v31 t30 H lc q28 X29 => ?_)
    unfold po_X12_find_a at q28
    obtain ⟨q32, q33⟩ := q28
    rw [q32] at X29
    refine r_if_ge (tgt := 43) S dX12_fresh_25 (by decide) (fun c34 => ?_) (fun c34 => ?_)
    ·
      have r35 : R (0) (8) v31 := ⟨by omega, by omega⟩
      refine r_aload_n S dX12_fresh_43 rfl (lv_at hl 0 rfl) ?_
      refine r_iconst S dX12_fresh_44 (by decide) (fun v36 z37 => ?_)
      have r38 := R_eq z37
      refine r_ki (q_V (As := [.int v36]) (rest := []) (K := 38) (ci := 10) S X29 (c_X12_bad l G τ hI v36 (R_of (lo := -2147483648) (hi := 2147483647) r38 rfl)) ck12_183 (Nat.le_of_ble_eq_true rfl) rfl (fun _ => ⟨_, rfl⟩) ⟨_, _, rfl⟩ ⟨Nat.le_of_ble_eq_true rfl, Nat.le_of_ble_eq_true rfl⟩ rfl hl.1 rfl (Nat.le_of_ble_eq_true rfl) dX12_fresh_45 ⟨Nat.le_refl 0, Nat.le_refl 0⟩) X29 (fun v42 t41 H lc q39 X40 => ?_)
      unfold po_X12_bad at q39
      obtain ⟨q43, q44, q45⟩ := q39
      have F46 : Fr [(131, 15), (131, 16), (131, 4), (131, 11), (131, 12), (131, 13), (131, 14)] [] τ t41 := Fr_call Fr_rfl q44 (by decide)
      exact r_ret S hr hlk X40 ⟨q43, F46, (R_of q45 rfl), (by rw [((q44 131 4 (by decide)).trans z2)]; exact R_of r3 rfl), (by rw [((q44 131 11 (by decide)).trans z5)]; exact R_of r18 rfl), (by have h1_0 := congrArg Int32.toInt ((q44 131 4 (by decide)).trans z2); have h2_0 := congrArg Int32.toInt z2; omega), (by have h1_0 := congrArg Int32.toInt ((q44 131 11 (by decide)).trans z5); have h2_0 := congrArg Int32.toInt z5; omega)⟩ (nr_bool (R_of (lo := 0) (hi := 1) q45 rfl)) dX12_fresh_48
    ·
      have r47 : R (-1) (-1) v31 := ⟨by omega, by omega⟩
      refine r_aload_n S dX12_fresh_28 rfl (lv_at hl 0 rfl) ?_
      refine r_bipush S dX12_fresh_29 (by decide) (fun v48 z49 => ?_)
      have r50 := R_eq z49
      refine r_aload_n S dX12_fresh_31 rfl (lv_at hl 0 rfl) ?_
      refine r_get (K := 38) (v := .ref (G.2.2.2.1 134)) S X29 (Nat.le_of_ble_eq_true rfl) rfl lk12_37_10 (fun _ => ⟨_, rfl, rfl⟩) dX12_fresh_32 ?_
      refine r_iconst S dX12_fresh_35 (by decide) (fun v51 z52 => ?_)
      have r53 := R_eq z52
      refine r_aldn (n := 125) (K := 41) S X29 (Nat.le_of_ble_eq_true rfl) rfl (fun _ => rfl) (ix_of r53 rfl) dX12_fresh_36 (fun v54 z55 => ?_)
      have r56 : R (0) (10) v54 := rds (K := 41) (a := 1) (n := 1) hI rfl z55 (R_of r53 rfl) (by decide +kernel)
      refine r_ki (q_V (As := [.int v48, .int v54]) (rest := []) (K := 38) (ci := 10) S X29 (c_X12_find_m l G τ hI v48 v54 (R_of (lo := 9) (hi := 28) r50 rfl) r56) ck12_200 (Nat.le_of_ble_eq_true rfl) rfl (fun _ => ⟨_, rfl⟩) ⟨_, _, rfl⟩ ⟨Nat.le_of_ble_eq_true rfl, Nat.le_of_ble_eq_true rfl⟩ rfl hl.1 rfl (Nat.le_of_ble_eq_true rfl) dX12_fresh_37 ⟨Nat.le_refl 0, Nat.le_refl 0⟩) X29 (fun v60 t59 H lc q57 X58 => ?_)
      unfold po_X12_find_m at q57
      obtain ⟨q61, q62⟩ := q57
      rw [q61] at X58
      refine r_if_lt (tgt := 49) S dX12_fresh_40 (by decide) (fun c63 => ?_) (fun c63 => ?_)
      ·
        have r64 : R (-1) (-1) v60 := ⟨by omega, by omega⟩
        refine r_aload_n S dX12_fresh_49 rfl (lv_at hl 0 rfl) ?_
        refine r_get (K := 38) (v := .ref (G.2.2.2.1 136)) S X58 (Nat.le_of_ble_eq_true rfl) rfl lk12_43_10 (fun _ => ⟨_, rfl, rfl⟩) dX12_fresh_50 ?_
        refine r_iload_n S dX12_fresh_53 rfl (lv_at hl 1 rfl) ?_
        refine r_aload_n S dX12_fresh_54 rfl (lv_at hl 0 rfl) ?_
        refine r_getJ (K := 38) S X58 (Nat.le_of_ble_eq_true rfl) rfl lk12_170_10 (fun _ => ⟨_, rfl, rfl⟩) dX12_fresh_55 (fun j65 => ?_)
        refine r_last (n := 38) (K := 43) S X58 (Nat.le_of_ble_eq_true rfl) rfl (fun _ => rfl) (ix_of h_a0 rfl) dX12_fresh_58 (fun H lc X66 => ?_)
        refine r_aload_n S dX12_fresh_59 rfl (lv_at hl 0 rfl) ?_
        refine r_kv (q_V (As := []) (rest := []) (K := 38) (ci := 10) S X66 (c_X12_skip l G τ hI ) ck12_186 (Nat.le_of_ble_eq_true rfl) rfl (fun _ => ⟨_, rfl⟩) ⟨_, _, rfl⟩ ⟨Nat.le_of_ble_eq_true rfl, Nat.le_of_ble_eq_true rfl⟩ rfl hl.1 rfl (Nat.le_of_ble_eq_true rfl) dX12_fresh_60 ⟨Nat.le_refl 0, Nat.le_refl 0⟩) X66 (fun t69 H lc q67 X68 => ?_)
        unfold po_X12_skip at q67
        obtain ⟨q70, q71, q72, q73, q74, q75⟩ := q67
        have F76 : Fr [(131, 15), (131, 16), (131, 4), (131, 11), (131, 12), (131, 13), (131, 14)] [] τ t69 := Fr_call Fr_rfl q71 (by decide)
        obtain ⟨v77, z78⟩ : ∃ x, t69 131 4 = x := ⟨_, rfl⟩
        rw [z78] at q72
        obtain ⟨v79, z80⟩ : ∃ x, t69 131 11 = x := ⟨_, rfl⟩
        rw [z80] at q73
        have e81 := congrArg Int32.toInt z2
        have e82 := congrArg Int32.toInt z78
        have e83 := congrArg Int32.toInt z2
        have e84 := congrArg Int32.toInt z78
        have e85 := congrArg Int32.toInt z5
        have e86 := congrArg Int32.toInt z80
        refine r_iconst S dX12_fresh_63 (by decide) (fun v87 z88 => ?_)
        have r89 := R_eq z88
        exact r_ret S hr hlk X68 ⟨q70, F76, (R_of r89 rfl), (by rw [z78]; exact R_of q72 rfl), (by rw [z80]; exact R_of q73 rfl), (by have h1_0 := congrArg Int32.toInt z78; have h2_0 := congrArg Int32.toInt z2; omega), (by have h1_0 := congrArg Int32.toInt z80; have h2_0 := congrArg Int32.toInt z5; omega)⟩ (nr_bool (R_of (lo := 0) (hi := 1) r89 rfl)) dX12_fresh_64
      ·
        have r90 : R (0) (9) v60 := ⟨by omega, by omega⟩
        refine r_aload_n S dX12_fresh_43 rfl (lv_at hl 0 rfl) ?_
        refine r_iconst S dX12_fresh_44 (by decide) (fun v91 z92 => ?_)
        have r93 := R_eq z92
        refine r_ki (q_V (As := [.int v91]) (rest := []) (K := 38) (ci := 10) S X58 (c_X12_bad l G τ hI v91 (R_of (lo := -2147483648) (hi := 2147483647) r93 rfl)) ck12_183 (Nat.le_of_ble_eq_true rfl) rfl (fun _ => ⟨_, rfl⟩) ⟨_, _, rfl⟩ ⟨Nat.le_of_ble_eq_true rfl, Nat.le_of_ble_eq_true rfl⟩ rfl hl.1 rfl (Nat.le_of_ble_eq_true rfl) dX12_fresh_45 ⟨Nat.le_refl 0, Nat.le_refl 0⟩) X58 (fun v97 t96 H lc q94 X95 => ?_)
        unfold po_X12_bad at q94
        obtain ⟨q98, q99, q100⟩ := q94
        have F101 : Fr [(131, 15), (131, 16), (131, 4), (131, 11), (131, 12), (131, 13), (131, 14)] [] τ t96 := Fr_call Fr_rfl q99 (by decide)
        exact r_ret S hr hlk X95 ⟨q98, F101, (R_of q100 rfl), (by rw [((q99 131 4 (by decide)).trans z2)]; exact R_of r3 rfl), (by rw [((q99 131 11 (by decide)).trans z5)]; exact R_of r18 rfl), (by have h1_0 := congrArg Int32.toInt ((q99 131 4 (by decide)).trans z2); have h2_0 := congrArg Int32.toInt z2; omega), (by have h1_0 := congrArg Int32.toInt ((q99 131 11 (by decide)).trans z5); have h2_0 := congrArg Int32.toInt z5; omega)⟩ (nr_bool (R_of (lo := 0) (hi := 1) q100 rfl)) dX12_fresh_48
  ·
    have r102 : R (0) (0) v10 := ⟨by omega, by omega⟩
    refine r_aload_n S dX12_fresh_7 rfl (lv_at hl 0 rfl) ?_
    refine r_iconst S dX12_fresh_8 (by decide) (fun v103 z104 => ?_)
    have r105 := R_eq z104
    refine r_ki (q_V (As := [.int v103]) (rest := []) (K := 38) (ci := 10) S X8 (c_X12_bad l G τ hI v103 (R_of (lo := -2147483648) (hi := 2147483647) r105 rfl)) ck12_183 (Nat.le_of_ble_eq_true rfl) rfl (fun _ => ⟨_, rfl⟩) ⟨_, _, rfl⟩ ⟨Nat.le_of_ble_eq_true rfl, Nat.le_of_ble_eq_true rfl⟩ rfl hl.1 rfl (Nat.le_of_ble_eq_true rfl) dX12_fresh_9 ⟨Nat.le_refl 0, Nat.le_refl 0⟩) X8 (fun v109 t108 H lc q106 X107 => ?_)
    unfold po_X12_bad at q106
    obtain ⟨q110, q111, q112⟩ := q106
    have F113 : Fr [(131, 15), (131, 16), (131, 4), (131, 11), (131, 12), (131, 13), (131, 14)] [] τ t108 := Fr_call Fr_rfl q111 (by decide)
    exact r_ret S hr hlk X107 ⟨q110, F113, (R_of q112 rfl), (by rw [((q111 131 4 (by decide)).trans z2)]; exact R_of r3 rfl), (by rw [((q111 131 11 (by decide)).trans z5)]; exact R_of r6 rfl), (by have h1_0 := congrArg Int32.toInt ((q111 131 4 (by decide)).trans z2); have h2_0 := congrArg Int32.toInt z2; omega), (by have h1_0 := congrArg Int32.toInt ((q111 131 11 (by decide)).trans z5); have h2_0 := congrArg Int32.toInt z5; omega)⟩ (nr_bool (R_of (lo := 0) (hi := 1) q112 rfl)) dX12_fresh_12
def po_X12_looksAt_a (τ : Tau)  (a0 a1 : Int32) (r : Int32) (u : Tau) : Prop := Inv u ∧ Fr [(131, 15), (131, 16), (131, 18)] [] τ u ∧ R (0) (1) r ∧ (r.toInt = 1 → R (0) (8) (u 131 18)) ∧ (r.toInt = 1 → (τ 131 11).toInt = 1)
set_option maxHeartbeats 4000000 in
set_option maxRecDepth 100000 in
theorem c_X12_looksAt_a (l : Launch) (G : Gx) (τ : Tau) (hI : Inv τ) (a0 : Int32) (a1 : Int32) (h_a0 : R (0) (19) a0) (h_a1 : R (0) (9) a1) : Ci l G yX12_looksAt cX12_looksAt 3 (some .boolean) 1 23 [.ref (G.2.2.2.1 131), .int a0, .int a1] τ (po_X12_looksAt_a τ  a0 a1) := by
  unfold Ci
  refine C_of (own := RX12) (by decide) rfl (Nat.le_of_ble_eq_true rfl) ?_
  intro p e s m below meth c ls S hr hlk X hl
  have hl : lv_has ls 3 [(0, .ref (G.2.2.2.1 131)), (1, .int a0), (2, .int a1)] := hl
  obtain ⟨v1, z2⟩ : ∃ x, τ 131 11 = x := ⟨_, rfl⟩
  have r3 : R (0) (4) v1 := rd hI rfl z2
  refine r_aload_n S dX12_looksAt_0 rfl (lv_at hl 0 rfl) ?_
  refine r_ki (q_V (As := []) (rest := []) (K := 38) (ci := 10) S X (c_X12_isName l G τ hI ) ck12_196 (Nat.le_of_ble_eq_true rfl) rfl (fun _ => ⟨_, rfl⟩) ⟨_, _, rfl⟩ ⟨Nat.le_of_ble_eq_true rfl, Nat.le_of_ble_eq_true rfl⟩ rfl hl.1 rfl (Nat.le_of_ble_eq_true rfl) dX12_looksAt_1 ⟨Nat.le_refl 0, Nat.le_refl 0⟩) X (fun v7 t6 H lc q4 X5 => ?_)
  unfold po_X12_isName at q4
  obtain ⟨q8, q9, q10⟩ := q4
  rw [q8] at X5
  rw [q8] at q10
  refine r_if_ne (tgt := 13) S dX12_looksAt_4 (by decide) (fun c11 => ?_) (fun c11 => ?_)
  ·
    have r12 : R (1) (1) v7 := ⟨by omega, by omega⟩
    have p13 := q10 (by omega)
    have r14 : R (1) (1) v1 := z2 ▸ p13
    have r15 : R (1) (1) v1 := ⟨by omega, by omega⟩
    refine r_aload_n S dX12_looksAt_13 rfl (lv_at hl 0 rfl) ?_
    refine r_aload_n S dX12_looksAt_14 rfl (lv_at hl 0 rfl) ?_
    refine r_iload_n S dX12_looksAt_15 rfl (lv_at hl 1 rfl) ?_
    refine r_iload_n S dX12_looksAt_16 rfl (lv_at hl 2 rfl) ?_
    refine r_ki (q_V (As := [.int a0, .int a1]) (rest := [.ref (G.2.2.2.1 131)]) (K := 38) (ci := 10) S X5 (c_X12_find_a l G τ hI a0 a1 h_a0 h_a1) ck12_200 (Nat.le_of_ble_eq_true rfl) rfl (fun _ => ⟨_, rfl⟩) ⟨_, _, rfl⟩ ⟨Nat.le_of_ble_eq_true rfl, Nat.le_of_ble_eq_true rfl⟩ rfl hl.1 rfl (Nat.le_of_ble_eq_true rfl) dX12_looksAt_17 ⟨Nat.le_refl 0, Nat.le_refl 0⟩) X5 (fun v19 t18 H lc q16 X17 => ?_)
    unfold po_X12_find_a at q16
    obtain ⟨q20, q21⟩ := q16
    rw [q20] at X17
    refine r_put (K := 38) (ty := .int) S X17 (Nat.le_of_ble_eq_true rfl) rfl lk12_193_10 (fun _ => ⟨_, rfl, Nat.le_of_ble_eq_true rfl, rfl⟩) (fun _ _ _ h => by cases h; exact ⟨rfl, rfl⟩) rfl rfl dX12_looksAt_20 (fun t22 H lc M23 X24 => ?_)
    have I25 := Inv_mu hI M23 (R_any v19)
    have F26 : Fr [(131, 15), (131, 16), (131, 18)] [] τ t22 := Fr_mu Fr_rfl M23 (by decide)
    refine r_aload_n S dX12_looksAt_23 rfl (lv_at hl 0 rfl) ?_
    refine r_geti (K := 38) S X24 (Nat.le_of_ble_eq_true rfl) rfl lk12_193_10 (fun _ => ⟨_, rfl, rfl⟩) M23.1 dX12_looksAt_24 ?_
    refine r_if_ge (tgt := 38) S dX12_looksAt_27 (by decide) (fun c27 => ?_) (fun c27 => ?_)
    ·
      have r28 : R (0) (8) v19 := ⟨by omega, by omega⟩
      refine r_iconst S dX12_looksAt_38 (by decide) (fun v29 z30 => ?_)
      have r31 := R_eq z30
      refine r_goto (tgt := 43) S dX12_looksAt_39 (by decide) ?_
      exact r_ret S hr hlk X24 ⟨I25, F26, (R_of r31 rfl), (fun h => (by rw [M23.1]; exact R_of r28 rfl)), (by have h1_0 := congrArg Int32.toInt ((M23.2 131 11 (Or.inr (by decide))).trans z2); have h2_0 := congrArg Int32.toInt z2; omega)⟩ (nr_bool (R_of (lo := 0) (hi := 1) r31 rfl)) dX12_looksAt_43
    ·
      have r32 : R (-1) (-1) v19 := ⟨by omega, by omega⟩
      refine r_aload_n S dX12_looksAt_30 rfl (lv_at hl 0 rfl) ?_
      refine r_iconst S dX12_looksAt_31 (by decide) (fun v33 z34 => ?_)
      have r35 := R_eq z34
      refine r_ki (q_V (As := [.int v33]) (rest := []) (K := 38) (ci := 10) S X24 (c_X12_bad l G t22 I25 v33 (R_of (lo := -2147483648) (hi := 2147483647) r35 rfl)) ck12_183 (Nat.le_of_ble_eq_true rfl) rfl (fun _ => ⟨_, rfl⟩) ⟨_, _, rfl⟩ ⟨Nat.le_of_ble_eq_true rfl, Nat.le_of_ble_eq_true rfl⟩ rfl hl.1 rfl (Nat.le_of_ble_eq_true rfl) dX12_looksAt_32 ⟨Nat.le_refl 0, Nat.le_refl 0⟩) X24 (fun v39 t38 H lc q36 X37 => ?_)
      unfold po_X12_bad at q36
      obtain ⟨q40, q41, q42⟩ := q36
      have F43 : Fr [(131, 15), (131, 16), (131, 18)] [] τ t38 := Fr_call F26 q41 (by decide)
      refine r_if_eq (tgt := 42) S dX12_looksAt_35 (by decide) (fun c44 => ?_) (fun c44 => ?_)
      ·
        refine r_iconst S dX12_looksAt_42 (by decide) (fun v45 z46 => ?_)
        have r47 := R_eq z46
        exact r_ret S hr hlk X37 ⟨q40, F43, (R_of r47 rfl), (fun h => by exfalso; omega), (by have h1_0 := congrArg Int32.toInt ((q41 131 11 (by decide)).trans ((M23.2 131 11 (Or.inr (by decide))).trans z2)); have h2_0 := congrArg Int32.toInt z2; omega)⟩ (nr_bool (R_of (lo := 0) (hi := 1) r47 rfl)) dX12_looksAt_43
      ·
        exfalso; omega
  ·
    have r48 : R (0) (0) v7 := ⟨by omega, by omega⟩
    refine r_aload_n S dX12_looksAt_7 rfl (lv_at hl 0 rfl) ?_
    refine r_iconst S dX12_looksAt_8 (by decide) (fun v49 z50 => ?_)
    have r51 := R_eq z50
    refine r_ki (q_V (As := [.int v49]) (rest := []) (K := 38) (ci := 10) S X5 (c_X12_bad l G τ hI v49 (R_of (lo := -2147483648) (hi := 2147483647) r51 rfl)) ck12_183 (Nat.le_of_ble_eq_true rfl) rfl (fun _ => ⟨_, rfl⟩) ⟨_, _, rfl⟩ ⟨Nat.le_of_ble_eq_true rfl, Nat.le_of_ble_eq_true rfl⟩ rfl hl.1 rfl (Nat.le_of_ble_eq_true rfl) dX12_looksAt_9 ⟨Nat.le_refl 0, Nat.le_refl 0⟩) X5 (fun v55 t54 H lc q52 X53 => ?_)
    unfold po_X12_bad at q52
    obtain ⟨q56, q57, q58⟩ := q52
    have F59 : Fr [(131, 15), (131, 16), (131, 18)] [] τ t54 := Fr_call Fr_rfl q57 (by decide)
    exact r_ret S hr hlk X53 ⟨q56, F59, (R_of q58 rfl), (fun h => by exfalso; omega), (by have h1_0 := congrArg Int32.toInt ((q57 131 11 (by decide)).trans z2); have h2_0 := congrArg Int32.toInt z2; omega)⟩ (nr_bool (R_of (lo := 0) (hi := 1) q58 rfl)) dX12_looksAt_12
def po_X12_takesName_a (τ : Tau)  (a0 a1 : Int32) (r : Int32) (u : Tau) : Prop := Inv u ∧ Fr [(131, 15), (131, 16), (131, 4), (131, 11), (131, 12), (131, 13), (131, 14), (131, 18)] [] τ u ∧ R (0) (1) r ∧ (r.toInt = 1 → R (0) (8) (u 131 18)) ∧ R (0) (940) (u 131 4) ∧ R (0) (4) (u 131 11) ∧ (τ 131 4).toInt ≤ (u 131 4).toInt
set_option maxHeartbeats 4000000 in
set_option maxRecDepth 100000 in
theorem c_X12_takesName_a (l : Launch) (G : Gx) (τ : Tau) (hI : Inv τ) (a0 : Int32) (a1 : Int32) (h_a0 : R (0) (19) a0) (h_a1 : R (0) (9) a1) : Ci l G yX12_takesName cX12_takesName 3 (some .boolean) 2 45 [.ref (G.2.2.2.1 131), .int a0, .int a1] τ (po_X12_takesName_a τ  a0 a1) := by
  unfold Ci
  refine C_of (own := RX12) (by decide) rfl (Nat.le_of_ble_eq_true rfl) ?_
  intro p e s m below meth c ls S hr hlk X hl
  have hl : lv_has ls 3 [(0, .ref (G.2.2.2.1 131)), (1, .int a0), (2, .int a1)] := hl
  obtain ⟨v1, z2⟩ : ∃ x, τ 131 4 = x := ⟨_, rfl⟩
  have r3 : R (0) (940) v1 := rd hI rfl z2
  obtain ⟨v4, z5⟩ : ∃ x, τ 131 11 = x := ⟨_, rfl⟩
  have r6 : R (0) (4) v4 := rd hI rfl z5
  refine r_aload_n S dX12_takesName_0 rfl (lv_at hl 0 rfl) ?_
  refine r_iload_n S dX12_takesName_1 rfl (lv_at hl 1 rfl) ?_
  refine r_iload_n S dX12_takesName_2 rfl (lv_at hl 2 rfl) ?_
  refine r_ki (q_V (As := [.int a0, .int a1]) (rest := []) (K := 38) (ci := 10) S X (c_X12_looksAt_a l G τ hI a0 a1 h_a0 h_a1) ck12_204 (Nat.le_of_ble_eq_true rfl) rfl (fun _ => ⟨_, rfl⟩) ⟨_, _, rfl⟩ ⟨Nat.le_of_ble_eq_true rfl, Nat.le_of_ble_eq_true rfl⟩ rfl hl.1 rfl (Nat.le_of_ble_eq_true rfl) dX12_takesName_3 ⟨Nat.le_refl 0, Nat.le_refl 0⟩) X (fun v10 t9 H lc q7 X8 => ?_)
  unfold po_X12_looksAt_a at q7
  obtain ⟨q11, q12, q13, q14, q15⟩ := q7
  have F16 : Fr [(131, 15), (131, 16), (131, 4), (131, 11), (131, 12), (131, 13), (131, 14), (131, 18)] [] τ t9 := Fr_call Fr_rfl q12 (by decide)
  have e17 := congrArg Int32.toInt z5
  have e18 := congrArg Int32.toInt ((q12 131 11 (by decide)).trans z5)
  refine r_if_ne (tgt := 11) S dX12_takesName_6 (by decide) (fun c19 => ?_) (fun c19 => ?_)
  ·
    have r20 : R (1) (1) v10 := ⟨by omega, by omega⟩
    have p21 := q14 (by omega)
    obtain ⟨v22, z23⟩ : ∃ x, t9 131 18 = x := ⟨_, rfl⟩
    rw [z23] at p21
    refine r_aload_n S dX12_takesName_11 rfl (lv_at hl 0 rfl) ?_
    refine r_kv (q_V (As := []) (rest := []) (K := 38) (ci := 10) S X8 (c_X12_skip l G t9 q11 ) ck12_186 (Nat.le_of_ble_eq_true rfl) rfl (fun _ => ⟨_, rfl⟩) ⟨_, _, rfl⟩ ⟨Nat.le_of_ble_eq_true rfl, Nat.le_of_ble_eq_true rfl⟩ rfl hl.1 rfl (Nat.le_of_ble_eq_true rfl) dX12_takesName_12 ⟨Nat.le_refl 0, Nat.le_refl 0⟩) X8 (fun t26 H lc q24 X25 => ?_)
    unfold po_X12_skip at q24
    obtain ⟨q27, q28, q29, q30, q31, q32⟩ := q24
    have F33 : Fr [(131, 15), (131, 16), (131, 4), (131, 11), (131, 12), (131, 13), (131, 14), (131, 18)] [] τ t26 := Fr_call F16 q28 (by decide)
    obtain ⟨v34, z35⟩ : ∃ x, t26 131 4 = x := ⟨_, rfl⟩
    rw [z35] at q29
    obtain ⟨v36, z37⟩ : ∃ x, t26 131 11 = x := ⟨_, rfl⟩
    rw [z37] at q30
    have e38 := congrArg Int32.toInt ((q12 131 4 (by decide)).trans z2)
    have e39 := congrArg Int32.toInt z35
    have e40 := congrArg Int32.toInt ((q12 131 4 (by decide)).trans z2)
    have e41 := congrArg Int32.toInt z35
    have e42 := congrArg Int32.toInt ((q12 131 11 (by decide)).trans z5)
    have e43 := congrArg Int32.toInt z37
    refine r_iconst S dX12_takesName_15 (by decide) (fun v44 z45 => ?_)
    have r46 := R_eq z45
    exact r_ret S hr hlk X25 ⟨q27, F33, (R_of r46 rfl), (fun h => (by rw [((q28 131 18 (by decide)).trans z23)]; exact R_of p21 rfl)), (by rw [z35]; exact R_of q29 rfl), (by rw [z37]; exact R_of q30 rfl), (by have h1_0 := congrArg Int32.toInt z35; have h2_0 := congrArg Int32.toInt z2; omega)⟩ (nr_bool (R_of (lo := 0) (hi := 1) r46 rfl)) dX12_takesName_16
  ·
    have r47 : R (0) (0) v10 := ⟨by omega, by omega⟩
    refine r_iconst S dX12_takesName_9 (by decide) (fun v48 z49 => ?_)
    have r50 := R_eq z49
    exact r_ret S hr hlk X8 ⟨q11, F16, (R_of r50 rfl), (fun h => by exfalso; omega), (by rw [((q12 131 4 (by decide)).trans z2)]; exact R_of r3 rfl), (by rw [((q12 131 11 (by decide)).trans z5)]; exact R_of r6 rfl), (by have h1_0 := congrArg Int32.toInt ((q12 131 4 (by decide)).trans z2); have h2_0 := congrArg Int32.toInt z2; omega)⟩ (nr_bool (R_of (lo := 0) (hi := 1) r50 rfl)) dX12_takesName_10
def po_X12_looksAt_m (τ : Tau)  (a0 a1 : Int32) (r : Int32) (u : Tau) : Prop := Inv u ∧ Fr [(131, 15), (131, 16), (131, 18)] [] τ u ∧ R (0) (1) r ∧ (r.toInt = 1 → R (0) (9) (u 131 18)) ∧ (r.toInt = 1 → (τ 131 11).toInt = 1)
set_option maxHeartbeats 4000000 in
set_option maxRecDepth 100000 in
theorem c_X12_looksAt_m (l : Launch) (G : Gx) (τ : Tau) (hI : Inv τ) (a0 : Int32) (a1 : Int32) (h_a0 : R (9) (28) a0) (h_a1 : R (0) (10) a1) : Ci l G yX12_looksAt cX12_looksAt 3 (some .boolean) 1 23 [.ref (G.2.2.2.1 131), .int a0, .int a1] τ (po_X12_looksAt_m τ  a0 a1) := by
  unfold Ci
  refine C_of (own := RX12) (by decide) rfl (Nat.le_of_ble_eq_true rfl) ?_
  intro p e s m below meth c ls S hr hlk X hl
  have hl : lv_has ls 3 [(0, .ref (G.2.2.2.1 131)), (1, .int a0), (2, .int a1)] := hl
  obtain ⟨v1, z2⟩ : ∃ x, τ 131 11 = x := ⟨_, rfl⟩
  have r3 : R (0) (4) v1 := rd hI rfl z2
  refine r_aload_n S dX12_looksAt_0 rfl (lv_at hl 0 rfl) ?_
  refine r_ki (q_V (As := []) (rest := []) (K := 38) (ci := 10) S X (c_X12_isName l G τ hI ) ck12_196 (Nat.le_of_ble_eq_true rfl) rfl (fun _ => ⟨_, rfl⟩) ⟨_, _, rfl⟩ ⟨Nat.le_of_ble_eq_true rfl, Nat.le_of_ble_eq_true rfl⟩ rfl hl.1 rfl (Nat.le_of_ble_eq_true rfl) dX12_looksAt_1 ⟨Nat.le_refl 0, Nat.le_refl 0⟩) X (fun v7 t6 H lc q4 X5 => ?_)
  unfold po_X12_isName at q4
  obtain ⟨q8, q9, q10⟩ := q4
  rw [q8] at X5
  rw [q8] at q10
  refine r_if_ne (tgt := 13) S dX12_looksAt_4 (by decide) (fun c11 => ?_) (fun c11 => ?_)
  ·
    have r12 : R (1) (1) v7 := ⟨by omega, by omega⟩
    have p13 := q10 (by omega)
    have r14 : R (1) (1) v1 := z2 ▸ p13
    have r15 : R (1) (1) v1 := ⟨by omega, by omega⟩
    refine r_aload_n S dX12_looksAt_13 rfl (lv_at hl 0 rfl) ?_
    refine r_aload_n S dX12_looksAt_14 rfl (lv_at hl 0 rfl) ?_
    refine r_iload_n S dX12_looksAt_15 rfl (lv_at hl 1 rfl) ?_
    refine r_iload_n S dX12_looksAt_16 rfl (lv_at hl 2 rfl) ?_
    refine r_ki (q_V (As := [.int a0, .int a1]) (rest := [.ref (G.2.2.2.1 131)]) (K := 38) (ci := 10) S X5 (c_X12_find_m l G τ hI a0 a1 h_a0 h_a1) ck12_200 (Nat.le_of_ble_eq_true rfl) rfl (fun _ => ⟨_, rfl⟩) ⟨_, _, rfl⟩ ⟨Nat.le_of_ble_eq_true rfl, Nat.le_of_ble_eq_true rfl⟩ rfl hl.1 rfl (Nat.le_of_ble_eq_true rfl) dX12_looksAt_17 ⟨Nat.le_refl 0, Nat.le_refl 0⟩) X5 (fun v19 t18 H lc q16 X17 => ?_)
    unfold po_X12_find_m at q16
    obtain ⟨q20, q21⟩ := q16
    rw [q20] at X17
    refine r_put (K := 38) (ty := .int) S X17 (Nat.le_of_ble_eq_true rfl) rfl lk12_193_10 (fun _ => ⟨_, rfl, Nat.le_of_ble_eq_true rfl, rfl⟩) (fun _ _ _ h => by cases h; exact ⟨rfl, rfl⟩) rfl rfl dX12_looksAt_20 (fun t22 H lc M23 X24 => ?_)
    have I25 := Inv_mu hI M23 (R_any v19)
    have F26 : Fr [(131, 15), (131, 16), (131, 18)] [] τ t22 := Fr_mu Fr_rfl M23 (by decide)
    refine r_aload_n S dX12_looksAt_23 rfl (lv_at hl 0 rfl) ?_
    refine r_geti (K := 38) S X24 (Nat.le_of_ble_eq_true rfl) rfl lk12_193_10 (fun _ => ⟨_, rfl, rfl⟩) M23.1 dX12_looksAt_24 ?_
    refine r_if_ge (tgt := 38) S dX12_looksAt_27 (by decide) (fun c27 => ?_) (fun c27 => ?_)
    ·
      have r28 : R (0) (9) v19 := ⟨by omega, by omega⟩
      refine r_iconst S dX12_looksAt_38 (by decide) (fun v29 z30 => ?_)
      have r31 := R_eq z30
      refine r_goto (tgt := 43) S dX12_looksAt_39 (by decide) ?_
      exact r_ret S hr hlk X24 ⟨I25, F26, (R_of r31 rfl), (fun h => (by rw [M23.1]; exact R_of r28 rfl)), (by have h1_0 := congrArg Int32.toInt ((M23.2 131 11 (Or.inr (by decide))).trans z2); have h2_0 := congrArg Int32.toInt z2; omega)⟩ (nr_bool (R_of (lo := 0) (hi := 1) r31 rfl)) dX12_looksAt_43
    ·
      have r32 : R (-1) (-1) v19 := ⟨by omega, by omega⟩
      refine r_aload_n S dX12_looksAt_30 rfl (lv_at hl 0 rfl) ?_
      refine r_iconst S dX12_looksAt_31 (by decide) (fun v33 z34 => ?_)
      have r35 := R_eq z34
      refine r_ki (q_V (As := [.int v33]) (rest := []) (K := 38) (ci := 10) S X24 (c_X12_bad l G t22 I25 v33 (R_of (lo := -2147483648) (hi := 2147483647) r35 rfl)) ck12_183 (Nat.le_of_ble_eq_true rfl) rfl (fun _ => ⟨_, rfl⟩) ⟨_, _, rfl⟩ ⟨Nat.le_of_ble_eq_true rfl, Nat.le_of_ble_eq_true rfl⟩ rfl hl.1 rfl (Nat.le_of_ble_eq_true rfl) dX12_looksAt_32 ⟨Nat.le_refl 0, Nat.le_refl 0⟩) X24 (fun v39 t38 H lc q36 X37 => ?_)
      unfold po_X12_bad at q36
      obtain ⟨q40, q41, q42⟩ := q36
      have F43 : Fr [(131, 15), (131, 16), (131, 18)] [] τ t38 := Fr_call F26 q41 (by decide)
      refine r_if_eq (tgt := 42) S dX12_looksAt_35 (by decide) (fun c44 => ?_) (fun c44 => ?_)
      ·
        refine r_iconst S dX12_looksAt_42 (by decide) (fun v45 z46 => ?_)
        have r47 := R_eq z46
        exact r_ret S hr hlk X37 ⟨q40, F43, (R_of r47 rfl), (fun h => by exfalso; omega), (by have h1_0 := congrArg Int32.toInt ((q41 131 11 (by decide)).trans ((M23.2 131 11 (Or.inr (by decide))).trans z2)); have h2_0 := congrArg Int32.toInt z2; omega)⟩ (nr_bool (R_of (lo := 0) (hi := 1) r47 rfl)) dX12_looksAt_43
      ·
        exfalso; omega
  ·
    have r48 : R (0) (0) v7 := ⟨by omega, by omega⟩
    refine r_aload_n S dX12_looksAt_7 rfl (lv_at hl 0 rfl) ?_
    refine r_iconst S dX12_looksAt_8 (by decide) (fun v49 z50 => ?_)
    have r51 := R_eq z50
    refine r_ki (q_V (As := [.int v49]) (rest := []) (K := 38) (ci := 10) S X5 (c_X12_bad l G τ hI v49 (R_of (lo := -2147483648) (hi := 2147483647) r51 rfl)) ck12_183 (Nat.le_of_ble_eq_true rfl) rfl (fun _ => ⟨_, rfl⟩) ⟨_, _, rfl⟩ ⟨Nat.le_of_ble_eq_true rfl, Nat.le_of_ble_eq_true rfl⟩ rfl hl.1 rfl (Nat.le_of_ble_eq_true rfl) dX12_looksAt_9 ⟨Nat.le_refl 0, Nat.le_refl 0⟩) X5 (fun v55 t54 H lc q52 X53 => ?_)
    unfold po_X12_bad at q52
    obtain ⟨q56, q57, q58⟩ := q52
    have F59 : Fr [(131, 15), (131, 16), (131, 18)] [] τ t54 := Fr_call Fr_rfl q57 (by decide)
    exact r_ret S hr hlk X53 ⟨q56, F59, (R_of q58 rfl), (fun h => by exfalso; omega), (by have h1_0 := congrArg Int32.toInt ((q57 131 11 (by decide)).trans z2); have h2_0 := congrArg Int32.toInt z2; omega)⟩ (nr_bool (R_of (lo := 0) (hi := 1) q58 rfl)) dX12_looksAt_12
def po_X12_takesName_m (τ : Tau)  (a0 a1 : Int32) (r : Int32) (u : Tau) : Prop := Inv u ∧ Fr [(131, 15), (131, 16), (131, 4), (131, 11), (131, 12), (131, 13), (131, 14), (131, 18)] [] τ u ∧ R (0) (1) r ∧ (r.toInt = 1 → R (0) (9) (u 131 18)) ∧ R (0) (940) (u 131 4) ∧ R (0) (4) (u 131 11) ∧ (τ 131 4).toInt ≤ (u 131 4).toInt
set_option maxHeartbeats 4000000 in
set_option maxRecDepth 100000 in
theorem c_X12_takesName_m (l : Launch) (G : Gx) (τ : Tau) (hI : Inv τ) (a0 : Int32) (a1 : Int32) (h_a0 : R (9) (28) a0) (h_a1 : R (0) (10) a1) : Ci l G yX12_takesName cX12_takesName 3 (some .boolean) 2 45 [.ref (G.2.2.2.1 131), .int a0, .int a1] τ (po_X12_takesName_m τ  a0 a1) := by
  unfold Ci
  refine C_of (own := RX12) (by decide) rfl (Nat.le_of_ble_eq_true rfl) ?_
  intro p e s m below meth c ls S hr hlk X hl
  have hl : lv_has ls 3 [(0, .ref (G.2.2.2.1 131)), (1, .int a0), (2, .int a1)] := hl
  obtain ⟨v1, z2⟩ : ∃ x, τ 131 4 = x := ⟨_, rfl⟩
  have r3 : R (0) (940) v1 := rd hI rfl z2
  obtain ⟨v4, z5⟩ : ∃ x, τ 131 11 = x := ⟨_, rfl⟩
  have r6 : R (0) (4) v4 := rd hI rfl z5
  refine r_aload_n S dX12_takesName_0 rfl (lv_at hl 0 rfl) ?_
  refine r_iload_n S dX12_takesName_1 rfl (lv_at hl 1 rfl) ?_
  refine r_iload_n S dX12_takesName_2 rfl (lv_at hl 2 rfl) ?_
  refine r_ki (q_V (As := [.int a0, .int a1]) (rest := []) (K := 38) (ci := 10) S X (c_X12_looksAt_m l G τ hI a0 a1 h_a0 h_a1) ck12_204 (Nat.le_of_ble_eq_true rfl) rfl (fun _ => ⟨_, rfl⟩) ⟨_, _, rfl⟩ ⟨Nat.le_of_ble_eq_true rfl, Nat.le_of_ble_eq_true rfl⟩ rfl hl.1 rfl (Nat.le_of_ble_eq_true rfl) dX12_takesName_3 ⟨Nat.le_refl 0, Nat.le_refl 0⟩) X (fun v10 t9 H lc q7 X8 => ?_)
  unfold po_X12_looksAt_m at q7
  obtain ⟨q11, q12, q13, q14, q15⟩ := q7
  have F16 : Fr [(131, 15), (131, 16), (131, 4), (131, 11), (131, 12), (131, 13), (131, 14), (131, 18)] [] τ t9 := Fr_call Fr_rfl q12 (by decide)
  have e17 := congrArg Int32.toInt z5
  have e18 := congrArg Int32.toInt ((q12 131 11 (by decide)).trans z5)
  refine r_if_ne (tgt := 11) S dX12_takesName_6 (by decide) (fun c19 => ?_) (fun c19 => ?_)
  ·
    have r20 : R (1) (1) v10 := ⟨by omega, by omega⟩
    have p21 := q14 (by omega)
    obtain ⟨v22, z23⟩ : ∃ x, t9 131 18 = x := ⟨_, rfl⟩
    rw [z23] at p21
    refine r_aload_n S dX12_takesName_11 rfl (lv_at hl 0 rfl) ?_
    refine r_kv (q_V (As := []) (rest := []) (K := 38) (ci := 10) S X8 (c_X12_skip l G t9 q11 ) ck12_186 (Nat.le_of_ble_eq_true rfl) rfl (fun _ => ⟨_, rfl⟩) ⟨_, _, rfl⟩ ⟨Nat.le_of_ble_eq_true rfl, Nat.le_of_ble_eq_true rfl⟩ rfl hl.1 rfl (Nat.le_of_ble_eq_true rfl) dX12_takesName_12 ⟨Nat.le_refl 0, Nat.le_refl 0⟩) X8 (fun t26 H lc q24 X25 => ?_)
    unfold po_X12_skip at q24
    obtain ⟨q27, q28, q29, q30, q31, q32⟩ := q24
    have F33 : Fr [(131, 15), (131, 16), (131, 4), (131, 11), (131, 12), (131, 13), (131, 14), (131, 18)] [] τ t26 := Fr_call F16 q28 (by decide)
    obtain ⟨v34, z35⟩ : ∃ x, t26 131 4 = x := ⟨_, rfl⟩
    rw [z35] at q29
    obtain ⟨v36, z37⟩ : ∃ x, t26 131 11 = x := ⟨_, rfl⟩
    rw [z37] at q30
    have e38 := congrArg Int32.toInt ((q12 131 4 (by decide)).trans z2)
    have e39 := congrArg Int32.toInt z35
    have e40 := congrArg Int32.toInt ((q12 131 4 (by decide)).trans z2)
    have e41 := congrArg Int32.toInt z35
    have e42 := congrArg Int32.toInt ((q12 131 11 (by decide)).trans z5)
    have e43 := congrArg Int32.toInt z37
    refine r_iconst S dX12_takesName_15 (by decide) (fun v44 z45 => ?_)
    have r46 := R_eq z45
    exact r_ret S hr hlk X25 ⟨q27, F33, (R_of r46 rfl), (fun h => (by rw [((q28 131 18 (by decide)).trans z23)]; exact R_of p21 rfl)), (by rw [z35]; exact R_of q29 rfl), (by rw [z37]; exact R_of q30 rfl), (by have h1_0 := congrArg Int32.toInt z35; have h2_0 := congrArg Int32.toInt z2; omega)⟩ (nr_bool (R_of (lo := 0) (hi := 1) r46 rfl)) dX12_takesName_16
  ·
    have r47 : R (0) (0) v10 := ⟨by omega, by omega⟩
    refine r_iconst S dX12_takesName_9 (by decide) (fun v48 z49 => ?_)
    have r50 := R_eq z49
    exact r_ret S hr hlk X8 ⟨q11, F16, (R_of r50 rfl), (fun h => by exfalso; omega), (by rw [((q12 131 4 (by decide)).trans z2)]; exact R_of r3 rfl), (by rw [((q12 131 11 (by decide)).trans z5)]; exact R_of r6 rfl), (by have h1_0 := congrArg Int32.toInt ((q12 131 4 (by decide)).trans z2); have h2_0 := congrArg Int32.toInt z2; omega)⟩ (nr_bool (R_of (lo := 0) (hi := 1) r50 rfl)) dX12_takesName_10
def po_X12_takesMind_0 (τ : Tau)  (a0 : Int32) (r : Int32) (u : Tau) : Prop := Inv u ∧ Fr [(131, 15), (131, 16), (131, 4), (131, 11), (131, 12), (131, 13), (131, 14), (131, 18), (131, 21)] [] τ u ∧ R (0) (1) r ∧ R (0) (940) (u 131 4) ∧ R (0) (4) (u 131 11) ∧ (τ 131 4).toInt ≤ (u 131 4).toInt ∧ (r.toInt = 1 → (τ 131 4).toInt < (u 131 4).toInt)
set_option maxHeartbeats 4000000 in
set_option maxRecDepth 100000 in
theorem c_X12_takesMind_0 (l : Launch) (G : Gx) (τ : Tau) (hI : Inv τ) (a0 : Int32) (h_a0 : R (0) (0) a0) : Ci l G yX12_takesMind cX12_takesMind 3 (some .boolean) 3 65 [.ref (G.2.2.2.1 131), .int a0] τ (po_X12_takesMind_0 τ  a0) := by
  unfold Ci
  refine C_of (own := RX12) (by decide) rfl (Nat.le_of_ble_eq_true rfl) ?_
  intro p e s m below meth c ls S hr hlk X hl
  have hl : lv_has ls 3 [(0, .ref (G.2.2.2.1 131)), (1, .int a0)] := hl
  obtain ⟨v1, z2⟩ : ∃ x, τ 131 4 = x := ⟨_, rfl⟩
  have r3 : R (0) (940) v1 := rd hI rfl z2
  obtain ⟨v4, z5⟩ : ∃ x, τ 131 11 = x := ⟨_, rfl⟩
  have r6 : R (0) (4) v4 := rd hI rfl z5
  refine r_aload_n S dX12_takesMind_0 rfl (lv_at hl 0 rfl) ?_
  refine lv_ldc2 S.1.1 S.1.2.1 S.1.2.2.2.1 (S.1.2.2.2.2 _ kw27) dX12_takesMind_1 ?_
  refine lv_topl (fun j7 _ => ?_)
  refine r_ki (q_V (As := [.long j7]) (rest := []) (K := 38) (ci := 10) S X (c_X12_isWord l G τ hI j7) ck12_208 (Nat.le_of_ble_eq_true rfl) rfl (fun _ => ⟨_, rfl⟩) ⟨_, _, rfl⟩ ⟨Nat.le_of_ble_eq_true rfl, Nat.le_of_ble_eq_true rfl⟩ rfl hl.1 rfl (Nat.le_of_ble_eq_true rfl) dX12_takesMind_4 ⟨Nat.le_refl 0, Nat.le_refl 0⟩) X (fun v11 t10 H lc q8 X9 => ?_)
  unfold po_X12_isWord at q8
  obtain ⟨q12, q13, q14⟩ := q8
  rw [q12] at X9
  rw [q12] at q14
  refine r_istore_n (lv' := [(2, .int v11), (0, .ref (G.2.2.2.1 131)), (1, .int a0)]) S dX12_takesMind_7 rfl hl (by decide) rfl (fun ls hl => ?_)
  refine r_iload_n S dX12_takesMind_8 rfl (lv_at hl 0 rfl) ?_
  refine r_if_ne (tgt := 28) S dX12_takesMind_9 (by decide) (fun c15 => ?_) (fun c15 => ?_)
  ·
    have r16 : R (1) (1) v11 := ⟨by omega, by omega⟩
    have p17 := q14 (by omega)
    have r18 : R (1) (1) v4 := z5 ▸ p17
    have r19 : R (1) (1) v4 := ⟨by omega, by omega⟩
    refine r_aload_n S dX12_takesMind_28 rfl (lv_at hl 1 rfl) ?_
    refine r_kv (q_V (As := []) (rest := []) (K := 38) (ci := 10) S X9 (c_X12_skip l G τ hI ) ck12_186 (Nat.le_of_ble_eq_true rfl) rfl (fun _ => ⟨_, rfl⟩) ⟨_, _, rfl⟩ ⟨Nat.le_of_ble_eq_true rfl, Nat.le_of_ble_eq_true rfl⟩ rfl hl.1 rfl (Nat.le_of_ble_eq_true rfl) dX12_takesMind_29 ⟨Nat.le_refl 0, Nat.le_refl 0⟩) X9 (fun t22 H lc q20 X21 => ?_)
    unfold po_X12_skip at q20
    obtain ⟨q23, q24, q25, q26, q27, q28⟩ := q20
    have F29 : Fr [(131, 15), (131, 16), (131, 4), (131, 11), (131, 12), (131, 13), (131, 14), (131, 18), (131, 21)] [] τ t22 := Fr_call Fr_rfl q24 (by decide)
    obtain ⟨v30, z31⟩ : ∃ x, t22 131 4 = x := ⟨_, rfl⟩
    rw [z31] at q25
    obtain ⟨v32, z33⟩ : ∃ x, t22 131 11 = x := ⟨_, rfl⟩
    rw [z33] at q26
    have e34 := congrArg Int32.toInt z2
    have e35 := congrArg Int32.toInt z31
    have e36 := congrArg Int32.toInt z2
    have e37 := congrArg Int32.toInt z31
    have e38 := congrArg Int32.toInt z5
    have e39 := congrArg Int32.toInt z33
    refine r_aload_n S dX12_takesMind_32 rfl (lv_at hl 1 rfl) ?_
    refine r_iload_n S dX12_takesMind_33 rfl (lv_at hl 2 rfl) ?_
    refine r_bipush S dX12_takesMind_34 (by decide) (fun v40 z41 => ?_)
    have r42 := R_eq z41
    refine r_ki (q_V (As := [.int a0, .int v40]) (rest := []) (K := 38) (ci := 10) S X21 (c_X12_takes_0_9 l G t22 q23 a0 v40 h_a0 r42) ck12_212 (Nat.le_of_ble_eq_true rfl) rfl (fun _ => ⟨_, rfl⟩) ⟨_, _, rfl⟩ ⟨Nat.le_of_ble_eq_true rfl, Nat.le_of_ble_eq_true rfl⟩ rfl hl.1 rfl (Nat.le_of_ble_eq_true rfl) dX12_takesMind_36 ⟨Nat.le_refl 0, Nat.le_refl 0⟩) X21 (fun v46 t45 H lc q43 X44 => ?_)
    unfold po_X12_takes_0_9 at q43
    obtain ⟨q47, q48, q49, q50, q51, q52, q53, q54⟩ := q43
    have F55 : Fr [(131, 15), (131, 16), (131, 4), (131, 11), (131, 12), (131, 13), (131, 14), (131, 18), (131, 21)] [] τ t45 := Fr_call F29 q48 (by decide)
    obtain ⟨v56, z57⟩ : ∃ x, t45 131 4 = x := ⟨_, rfl⟩
    rw [z57] at q51
    obtain ⟨v58, z59⟩ : ∃ x, t45 131 11 = x := ⟨_, rfl⟩
    rw [z59] at q52
    have e60 := congrArg Int32.toInt z31
    have e61 := congrArg Int32.toInt z57
    have e62 := congrArg Int32.toInt z33
    have e63 := congrArg Int32.toInt z59
    refine r_if_ne (tgt := 44) S dX12_takesMind_39 (by decide) (fun c64 => ?_) (fun c64 => ?_)
    ·
      have r65 : R (1) (1) v46 := ⟨by omega, by omega⟩
      have p66 := q50 (by omega)
      obtain ⟨v67, z68⟩ : ∃ x, t45 131 18 = x := ⟨_, rfl⟩
      rw [z68] at p66
      refine r_aload_n S dX12_takesMind_44 rfl (lv_at hl 1 rfl) ?_
      refine r_iload_n S dX12_takesMind_45 rfl (lv_at hl 0 rfl) ?_
      refine r_if_eq (tgt := 57) S dX12_takesMind_46 (by decide) (fun c69 => ?_) (fun c69 => ?_)
      ·
        exfalso; omega
      ·
        refine r_aload_n S dX12_takesMind_49 rfl (lv_at hl 1 rfl) ?_
        refine r_geti (K := 38) S X44 (Nat.le_of_ble_eq_true rfl) rfl lk12_193_10 (fun _ => ⟨_, rfl, rfl⟩) z68 dX12_takesMind_50 ?_
        refine r_ineg S dX12_takesMind_53 (fun v70 z71 => ?_)
        obtain ⟨e72, r73⟩ := i_neg (lo := -9) (hi := 0) z71 p66 rfl
        refine r_goto (tgt := 61) S dX12_takesMind_54 (by decide) ?_
        refine r_put (K := 38) (ty := .int) S X44 (Nat.le_of_ble_eq_true rfl) rfl lk12_215_10 (fun _ => ⟨_, rfl, Nat.le_of_ble_eq_true rfl, rfl⟩) (fun _ _ _ h => by cases h; exact ⟨rfl, rfl⟩) rfl rfl dX12_takesMind_61 (fun t74 H lc M75 X76 => ?_)
        have I77 := Inv_mu q47 M75 (show Rg (kd 131) 21 v70 from (R_of (lo := -9) (hi := 9) r73 rfl))
        have F78 : Fr [(131, 15), (131, 16), (131, 4), (131, 11), (131, 12), (131, 13), (131, 14), (131, 18), (131, 21)] [] τ t74 := Fr_mu F55 M75 (by decide)
        refine r_iconst S dX12_takesMind_64 (by decide) (fun v79 z80 => ?_)
        have r81 := R_eq z80
        exact r_ret S hr hlk X76 ⟨I77, F78, (R_of r81 rfl), (by rw [((M75.2 131 4 (Or.inr (by decide))).trans z57)]; exact R_of q51 rfl), (by rw [((M75.2 131 11 (Or.inr (by decide))).trans z59)]; exact R_of q52 rfl), (by have h1_0 := congrArg Int32.toInt ((M75.2 131 4 (Or.inr (by decide))).trans z57); have h2_0 := congrArg Int32.toInt z2; omega), (by have h1_0 := congrArg Int32.toInt ((M75.2 131 4 (Or.inr (by decide))).trans z57); have h2_0 := congrArg Int32.toInt z2; omega)⟩ (nr_bool (R_of (lo := 0) (hi := 1) r81 rfl)) dX12_takesMind_65
    ·
      have r82 : R (0) (0) v46 := ⟨by omega, by omega⟩
      refine r_iconst S dX12_takesMind_42 (by decide) (fun v83 z84 => ?_)
      have r85 := R_eq z84
      exact r_ret S hr hlk X44 ⟨q47, F55, (R_of r85 rfl), (by rw [z57]; exact R_of q51 rfl), (by rw [z59]; exact R_of q52 rfl), (by have h1_0 := congrArg Int32.toInt z57; have h2_0 := congrArg Int32.toInt z2; omega), (by have h1_0 := congrArg Int32.toInt z57; have h2_0 := congrArg Int32.toInt z2; omega)⟩ (nr_bool (R_of (lo := 0) (hi := 1) r85 rfl)) dX12_takesMind_43
  ·
    have r86 : R (0) (0) v11 := ⟨by omega, by omega⟩
    refine r_aload_n S dX12_takesMind_12 rfl (lv_at hl 1 rfl) ?_
    refine lv_ldc2 S.1.1 S.1.2.1 S.1.2.2.2.1 (S.1.2.2.2.2 _ kw28) dX12_takesMind_13 ?_
    refine lv_topl (fun j87 _ => ?_)
    refine r_ki (q_V (As := [.long j87]) (rest := []) (K := 38) (ci := 10) S X9 (c_X12_isWord l G τ hI j87) ck12_208 (Nat.le_of_ble_eq_true rfl) rfl (fun _ => ⟨_, rfl⟩) ⟨_, _, rfl⟩ ⟨Nat.le_of_ble_eq_true rfl, Nat.le_of_ble_eq_true rfl⟩ rfl hl.1 rfl (Nat.le_of_ble_eq_true rfl) dX12_takesMind_16 ⟨Nat.le_refl 0, Nat.le_refl 0⟩) X9 (fun v91 t90 H lc q88 X89 => ?_)
    unfold po_X12_isWord at q88
    obtain ⟨q92, q93, q94⟩ := q88
    rw [q92] at X89
    rw [q92] at q94
    refine r_if_ne (tgt := 28) S dX12_takesMind_19 (by decide) (fun c95 => ?_) (fun c95 => ?_)
    ·
      have r96 : R (1) (1) v91 := ⟨by omega, by omega⟩
      have p97 := q94 (by omega)
      have r98 : R (1) (1) v4 := z5 ▸ p97
      have r99 : R (1) (1) v4 := ⟨by omega, by omega⟩
      refine r_aload_n S dX12_takesMind_28 rfl (lv_at hl 1 rfl) ?_
      refine r_kv (q_V (As := []) (rest := []) (K := 38) (ci := 10) S X89 (c_X12_skip l G τ hI ) ck12_186 (Nat.le_of_ble_eq_true rfl) rfl (fun _ => ⟨_, rfl⟩) ⟨_, _, rfl⟩ ⟨Nat.le_of_ble_eq_true rfl, Nat.le_of_ble_eq_true rfl⟩ rfl hl.1 rfl (Nat.le_of_ble_eq_true rfl) dX12_takesMind_29 ⟨Nat.le_refl 0, Nat.le_refl 0⟩) X89 (fun t102 H lc q100 X101 => ?_)
      unfold po_X12_skip at q100
      obtain ⟨q103, q104, q105, q106, q107, q108⟩ := q100
      have F109 : Fr [(131, 15), (131, 16), (131, 4), (131, 11), (131, 12), (131, 13), (131, 14), (131, 18), (131, 21)] [] τ t102 := Fr_call Fr_rfl q104 (by decide)
      obtain ⟨v110, z111⟩ : ∃ x, t102 131 4 = x := ⟨_, rfl⟩
      rw [z111] at q105
      obtain ⟨v112, z113⟩ : ∃ x, t102 131 11 = x := ⟨_, rfl⟩
      rw [z113] at q106
      have e114 := congrArg Int32.toInt z2
      have e115 := congrArg Int32.toInt z111
      have e116 := congrArg Int32.toInt z2
      have e117 := congrArg Int32.toInt z111
      have e118 := congrArg Int32.toInt z5
      have e119 := congrArg Int32.toInt z113
      refine r_aload_n S dX12_takesMind_32 rfl (lv_at hl 1 rfl) ?_
      refine r_iload_n S dX12_takesMind_33 rfl (lv_at hl 2 rfl) ?_
      refine r_bipush S dX12_takesMind_34 (by decide) (fun v120 z121 => ?_)
      have r122 := R_eq z121
      refine r_ki (q_V (As := [.int a0, .int v120]) (rest := []) (K := 38) (ci := 10) S X101 (c_X12_takes_0_9 l G t102 q103 a0 v120 h_a0 r122) ck12_212 (Nat.le_of_ble_eq_true rfl) rfl (fun _ => ⟨_, rfl⟩) ⟨_, _, rfl⟩ ⟨Nat.le_of_ble_eq_true rfl, Nat.le_of_ble_eq_true rfl⟩ rfl hl.1 rfl (Nat.le_of_ble_eq_true rfl) dX12_takesMind_36 ⟨Nat.le_refl 0, Nat.le_refl 0⟩) X101 (fun v126 t125 H lc q123 X124 => ?_)
      unfold po_X12_takes_0_9 at q123
      obtain ⟨q127, q128, q129, q130, q131, q132, q133, q134⟩ := q123
      have F135 : Fr [(131, 15), (131, 16), (131, 4), (131, 11), (131, 12), (131, 13), (131, 14), (131, 18), (131, 21)] [] τ t125 := Fr_call F109 q128 (by decide)
      obtain ⟨v136, z137⟩ : ∃ x, t125 131 4 = x := ⟨_, rfl⟩
      rw [z137] at q131
      obtain ⟨v138, z139⟩ : ∃ x, t125 131 11 = x := ⟨_, rfl⟩
      rw [z139] at q132
      have e140 := congrArg Int32.toInt z111
      have e141 := congrArg Int32.toInt z137
      have e142 := congrArg Int32.toInt z113
      have e143 := congrArg Int32.toInt z139
      refine r_if_ne (tgt := 44) S dX12_takesMind_39 (by decide) (fun c144 => ?_) (fun c144 => ?_)
      ·
        have r145 : R (1) (1) v126 := ⟨by omega, by omega⟩
        have p146 := q130 (by omega)
        obtain ⟨v147, z148⟩ : ∃ x, t125 131 18 = x := ⟨_, rfl⟩
        rw [z148] at p146
        refine r_aload_n S dX12_takesMind_44 rfl (lv_at hl 1 rfl) ?_
        refine r_iload_n S dX12_takesMind_45 rfl (lv_at hl 0 rfl) ?_
        refine r_if_eq (tgt := 57) S dX12_takesMind_46 (by decide) (fun c149 => ?_) (fun c149 => ?_)
        ·
          refine r_aload_n S dX12_takesMind_57 rfl (lv_at hl 1 rfl) ?_
          refine r_geti (K := 38) S X124 (Nat.le_of_ble_eq_true rfl) rfl lk12_193_10 (fun _ => ⟨_, rfl, rfl⟩) z148 dX12_takesMind_58 ?_
          refine r_put (K := 38) (ty := .int) S X124 (Nat.le_of_ble_eq_true rfl) rfl lk12_215_10 (fun _ => ⟨_, rfl, Nat.le_of_ble_eq_true rfl, rfl⟩) (fun _ _ _ h => by cases h; exact ⟨rfl, rfl⟩) rfl rfl dX12_takesMind_61 (fun t150 H lc M151 X152 => ?_)
          have I153 := Inv_mu q127 M151 (show Rg (kd 131) 21 v147 from (R_of (lo := -9) (hi := 9) p146 rfl))
          have F154 : Fr [(131, 15), (131, 16), (131, 4), (131, 11), (131, 12), (131, 13), (131, 14), (131, 18), (131, 21)] [] τ t150 := Fr_mu F135 M151 (by decide)
          refine r_iconst S dX12_takesMind_64 (by decide) (fun v155 z156 => ?_)
          have r157 := R_eq z156
          exact r_ret S hr hlk X152 ⟨I153, F154, (R_of r157 rfl), (by rw [((M151.2 131 4 (Or.inr (by decide))).trans z137)]; exact R_of q131 rfl), (by rw [((M151.2 131 11 (Or.inr (by decide))).trans z139)]; exact R_of q132 rfl), (by have h1_0 := congrArg Int32.toInt ((M151.2 131 4 (Or.inr (by decide))).trans z137); have h2_0 := congrArg Int32.toInt z2; omega), (by have h1_0 := congrArg Int32.toInt ((M151.2 131 4 (Or.inr (by decide))).trans z137); have h2_0 := congrArg Int32.toInt z2; omega)⟩ (nr_bool (R_of (lo := 0) (hi := 1) r157 rfl)) dX12_takesMind_65
        ·
          exfalso; omega
      ·
        have r158 : R (0) (0) v126 := ⟨by omega, by omega⟩
        refine r_iconst S dX12_takesMind_42 (by decide) (fun v159 z160 => ?_)
        have r161 := R_eq z160
        exact r_ret S hr hlk X124 ⟨q127, F135, (R_of r161 rfl), (by rw [z137]; exact R_of q131 rfl), (by rw [z139]; exact R_of q132 rfl), (by have h1_0 := congrArg Int32.toInt z137; have h2_0 := congrArg Int32.toInt z2; omega), (by have h1_0 := congrArg Int32.toInt z137; have h2_0 := congrArg Int32.toInt z2; omega)⟩ (nr_bool (R_of (lo := 0) (hi := 1) r161 rfl)) dX12_takesMind_43
    ·
      have r162 : R (0) (0) v91 := ⟨by omega, by omega⟩
      refine r_aload_n S dX12_takesMind_22 rfl (lv_at hl 1 rfl) ?_
      refine r_iconst S dX12_takesMind_23 (by decide) (fun v163 z164 => ?_)
      have r165 := R_eq z164
      refine r_ki (q_V (As := [.int v163]) (rest := []) (K := 38) (ci := 10) S X89 (c_X12_bad l G τ hI v163 (R_of (lo := -2147483648) (hi := 2147483647) r165 rfl)) ck12_183 (Nat.le_of_ble_eq_true rfl) rfl (fun _ => ⟨_, rfl⟩) ⟨_, _, rfl⟩ ⟨Nat.le_of_ble_eq_true rfl, Nat.le_of_ble_eq_true rfl⟩ rfl hl.1 rfl (Nat.le_of_ble_eq_true rfl) dX12_takesMind_24 ⟨Nat.le_refl 0, Nat.le_refl 0⟩) X89 (fun v169 t168 H lc q166 X167 => ?_)
      unfold po_X12_bad at q166
      obtain ⟨q170, q171, q172⟩ := q166
      have F173 : Fr [(131, 15), (131, 16), (131, 4), (131, 11), (131, 12), (131, 13), (131, 14), (131, 18), (131, 21)] [] τ t168 := Fr_call Fr_rfl q171 (by decide)
      exact r_ret S hr hlk X167 ⟨q170, F173, (R_of q172 rfl), (by rw [((q171 131 4 (by decide)).trans z2)]; exact R_of r3 rfl), (by rw [((q171 131 11 (by decide)).trans z5)]; exact R_of r6 rfl), (by have h1_0 := congrArg Int32.toInt ((q171 131 4 (by decide)).trans z2); have h2_0 := congrArg Int32.toInt z2; omega), (by have h1_0 := congrArg Int32.toInt ((q171 131 4 (by decide)).trans z2); have h2_0 := congrArg Int32.toInt z2; omega)⟩ (nr_bool (R_of (lo := 0) (hi := 1) q172 rfl)) dX12_takesMind_27
def po_X12_takesMind_1 (τ : Tau)  (a0 : Int32) (r : Int32) (u : Tau) : Prop := Inv u ∧ Fr [(131, 15), (131, 16), (131, 4), (131, 11), (131, 12), (131, 13), (131, 14), (131, 18), (131, 21)] [] τ u ∧ R (0) (1) r ∧ R (0) (940) (u 131 4) ∧ R (0) (4) (u 131 11) ∧ (τ 131 4).toInt ≤ (u 131 4).toInt ∧ (r.toInt = 1 → (τ 131 4).toInt < (u 131 4).toInt)
set_option maxHeartbeats 4000000 in
set_option maxRecDepth 100000 in
theorem c_X12_takesMind_1 (l : Launch) (G : Gx) (τ : Tau) (hI : Inv τ) (a0 : Int32) (h_a0 : R (1) (1) a0) : Ci l G yX12_takesMind cX12_takesMind 3 (some .boolean) 3 65 [.ref (G.2.2.2.1 131), .int a0] τ (po_X12_takesMind_1 τ  a0) := by
  unfold Ci
  refine C_of (own := RX12) (by decide) rfl (Nat.le_of_ble_eq_true rfl) ?_
  intro p e s m below meth c ls S hr hlk X hl
  have hl : lv_has ls 3 [(0, .ref (G.2.2.2.1 131)), (1, .int a0)] := hl
  obtain ⟨v1, z2⟩ : ∃ x, τ 131 4 = x := ⟨_, rfl⟩
  have r3 : R (0) (940) v1 := rd hI rfl z2
  obtain ⟨v4, z5⟩ : ∃ x, τ 131 11 = x := ⟨_, rfl⟩
  have r6 : R (0) (4) v4 := rd hI rfl z5
  refine r_aload_n S dX12_takesMind_0 rfl (lv_at hl 0 rfl) ?_
  refine lv_ldc2 S.1.1 S.1.2.1 S.1.2.2.2.1 (S.1.2.2.2.2 _ kw27) dX12_takesMind_1 ?_
  refine lv_topl (fun j7 _ => ?_)
  refine r_ki (q_V (As := [.long j7]) (rest := []) (K := 38) (ci := 10) S X (c_X12_isWord l G τ hI j7) ck12_208 (Nat.le_of_ble_eq_true rfl) rfl (fun _ => ⟨_, rfl⟩) ⟨_, _, rfl⟩ ⟨Nat.le_of_ble_eq_true rfl, Nat.le_of_ble_eq_true rfl⟩ rfl hl.1 rfl (Nat.le_of_ble_eq_true rfl) dX12_takesMind_4 ⟨Nat.le_refl 0, Nat.le_refl 0⟩) X (fun v11 t10 H lc q8 X9 => ?_)
  unfold po_X12_isWord at q8
  obtain ⟨q12, q13, q14⟩ := q8
  rw [q12] at X9
  rw [q12] at q14
  refine r_istore_n (lv' := [(2, .int v11), (0, .ref (G.2.2.2.1 131)), (1, .int a0)]) S dX12_takesMind_7 rfl hl (by decide) rfl (fun ls hl => ?_)
  refine r_iload_n S dX12_takesMind_8 rfl (lv_at hl 0 rfl) ?_
  refine r_if_ne (tgt := 28) S dX12_takesMind_9 (by decide) (fun c15 => ?_) (fun c15 => ?_)
  ·
    have r16 : R (1) (1) v11 := ⟨by omega, by omega⟩
    have p17 := q14 (by omega)
    have r18 : R (1) (1) v4 := z5 ▸ p17
    have r19 : R (1) (1) v4 := ⟨by omega, by omega⟩
    refine r_aload_n S dX12_takesMind_28 rfl (lv_at hl 1 rfl) ?_
    refine r_kv (q_V (As := []) (rest := []) (K := 38) (ci := 10) S X9 (c_X12_skip l G τ hI ) ck12_186 (Nat.le_of_ble_eq_true rfl) rfl (fun _ => ⟨_, rfl⟩) ⟨_, _, rfl⟩ ⟨Nat.le_of_ble_eq_true rfl, Nat.le_of_ble_eq_true rfl⟩ rfl hl.1 rfl (Nat.le_of_ble_eq_true rfl) dX12_takesMind_29 ⟨Nat.le_refl 0, Nat.le_refl 0⟩) X9 (fun t22 H lc q20 X21 => ?_)
    unfold po_X12_skip at q20
    obtain ⟨q23, q24, q25, q26, q27, q28⟩ := q20
    have F29 : Fr [(131, 15), (131, 16), (131, 4), (131, 11), (131, 12), (131, 13), (131, 14), (131, 18), (131, 21)] [] τ t22 := Fr_call Fr_rfl q24 (by decide)
    obtain ⟨v30, z31⟩ : ∃ x, t22 131 4 = x := ⟨_, rfl⟩
    rw [z31] at q25
    obtain ⟨v32, z33⟩ : ∃ x, t22 131 11 = x := ⟨_, rfl⟩
    rw [z33] at q26
    have e34 := congrArg Int32.toInt z2
    have e35 := congrArg Int32.toInt z31
    have e36 := congrArg Int32.toInt z2
    have e37 := congrArg Int32.toInt z31
    have e38 := congrArg Int32.toInt z5
    have e39 := congrArg Int32.toInt z33
    refine r_aload_n S dX12_takesMind_32 rfl (lv_at hl 1 rfl) ?_
    refine r_iload_n S dX12_takesMind_33 rfl (lv_at hl 2 rfl) ?_
    refine r_bipush S dX12_takesMind_34 (by decide) (fun v40 z41 => ?_)
    have r42 := R_eq z41
    refine r_ki (q_V (As := [.int a0, .int v40]) (rest := []) (K := 38) (ci := 10) S X21 (c_X12_takes_1_9 l G t22 q23 a0 v40 h_a0 r42) ck12_212 (Nat.le_of_ble_eq_true rfl) rfl (fun _ => ⟨_, rfl⟩) ⟨_, _, rfl⟩ ⟨Nat.le_of_ble_eq_true rfl, Nat.le_of_ble_eq_true rfl⟩ rfl hl.1 rfl (Nat.le_of_ble_eq_true rfl) dX12_takesMind_36 ⟨Nat.le_refl 0, Nat.le_refl 0⟩) X21 (fun v46 t45 H lc q43 X44 => ?_)
    unfold po_X12_takes_1_9 at q43
    obtain ⟨q47, q48, q49, q50, q51, q52, q53, q54⟩ := q43
    have F55 : Fr [(131, 15), (131, 16), (131, 4), (131, 11), (131, 12), (131, 13), (131, 14), (131, 18), (131, 21)] [] τ t45 := Fr_call F29 q48 (by decide)
    obtain ⟨v56, z57⟩ : ∃ x, t45 131 4 = x := ⟨_, rfl⟩
    rw [z57] at q51
    obtain ⟨v58, z59⟩ : ∃ x, t45 131 11 = x := ⟨_, rfl⟩
    rw [z59] at q52
    have e60 := congrArg Int32.toInt z31
    have e61 := congrArg Int32.toInt z57
    have e62 := congrArg Int32.toInt z33
    have e63 := congrArg Int32.toInt z59
    refine r_if_ne (tgt := 44) S dX12_takesMind_39 (by decide) (fun c64 => ?_) (fun c64 => ?_)
    ·
      have r65 : R (1) (1) v46 := ⟨by omega, by omega⟩
      have p66 := q50 (by omega)
      obtain ⟨v67, z68⟩ : ∃ x, t45 131 18 = x := ⟨_, rfl⟩
      rw [z68] at p66
      refine r_aload_n S dX12_takesMind_44 rfl (lv_at hl 1 rfl) ?_
      refine r_iload_n S dX12_takesMind_45 rfl (lv_at hl 0 rfl) ?_
      refine r_if_eq (tgt := 57) S dX12_takesMind_46 (by decide) (fun c69 => ?_) (fun c69 => ?_)
      ·
        exfalso; omega
      ·
        refine r_aload_n S dX12_takesMind_49 rfl (lv_at hl 1 rfl) ?_
        refine r_geti (K := 38) S X44 (Nat.le_of_ble_eq_true rfl) rfl lk12_193_10 (fun _ => ⟨_, rfl, rfl⟩) z68 dX12_takesMind_50 ?_
        refine r_ineg S dX12_takesMind_53 (fun v70 z71 => ?_)
        obtain ⟨e72, r73⟩ := i_neg (lo := -9) (hi := -1) z71 p66 rfl
        refine r_goto (tgt := 61) S dX12_takesMind_54 (by decide) ?_
        refine r_put (K := 38) (ty := .int) S X44 (Nat.le_of_ble_eq_true rfl) rfl lk12_215_10 (fun _ => ⟨_, rfl, Nat.le_of_ble_eq_true rfl, rfl⟩) (fun _ _ _ h => by cases h; exact ⟨rfl, rfl⟩) rfl rfl dX12_takesMind_61 (fun t74 H lc M75 X76 => ?_)
        have I77 := Inv_mu q47 M75 (show Rg (kd 131) 21 v70 from (R_of (lo := -9) (hi := 9) r73 rfl))
        have F78 : Fr [(131, 15), (131, 16), (131, 4), (131, 11), (131, 12), (131, 13), (131, 14), (131, 18), (131, 21)] [] τ t74 := Fr_mu F55 M75 (by decide)
        refine r_iconst S dX12_takesMind_64 (by decide) (fun v79 z80 => ?_)
        have r81 := R_eq z80
        exact r_ret S hr hlk X76 ⟨I77, F78, (R_of r81 rfl), (by rw [((M75.2 131 4 (Or.inr (by decide))).trans z57)]; exact R_of q51 rfl), (by rw [((M75.2 131 11 (Or.inr (by decide))).trans z59)]; exact R_of q52 rfl), (by have h1_0 := congrArg Int32.toInt ((M75.2 131 4 (Or.inr (by decide))).trans z57); have h2_0 := congrArg Int32.toInt z2; omega), (by have h1_0 := congrArg Int32.toInt ((M75.2 131 4 (Or.inr (by decide))).trans z57); have h2_0 := congrArg Int32.toInt z2; omega)⟩ (nr_bool (R_of (lo := 0) (hi := 1) r81 rfl)) dX12_takesMind_65
    ·
      have r82 : R (0) (0) v46 := ⟨by omega, by omega⟩
      refine r_iconst S dX12_takesMind_42 (by decide) (fun v83 z84 => ?_)
      have r85 := R_eq z84
      exact r_ret S hr hlk X44 ⟨q47, F55, (R_of r85 rfl), (by rw [z57]; exact R_of q51 rfl), (by rw [z59]; exact R_of q52 rfl), (by have h1_0 := congrArg Int32.toInt z57; have h2_0 := congrArg Int32.toInt z2; omega), (by have h1_0 := congrArg Int32.toInt z57; have h2_0 := congrArg Int32.toInt z2; omega)⟩ (nr_bool (R_of (lo := 0) (hi := 1) r85 rfl)) dX12_takesMind_43
  ·
    have r86 : R (0) (0) v11 := ⟨by omega, by omega⟩
    refine r_aload_n S dX12_takesMind_12 rfl (lv_at hl 1 rfl) ?_
    refine lv_ldc2 S.1.1 S.1.2.1 S.1.2.2.2.1 (S.1.2.2.2.2 _ kw28) dX12_takesMind_13 ?_
    refine lv_topl (fun j87 _ => ?_)
    refine r_ki (q_V (As := [.long j87]) (rest := []) (K := 38) (ci := 10) S X9 (c_X12_isWord l G τ hI j87) ck12_208 (Nat.le_of_ble_eq_true rfl) rfl (fun _ => ⟨_, rfl⟩) ⟨_, _, rfl⟩ ⟨Nat.le_of_ble_eq_true rfl, Nat.le_of_ble_eq_true rfl⟩ rfl hl.1 rfl (Nat.le_of_ble_eq_true rfl) dX12_takesMind_16 ⟨Nat.le_refl 0, Nat.le_refl 0⟩) X9 (fun v91 t90 H lc q88 X89 => ?_)
    unfold po_X12_isWord at q88
    obtain ⟨q92, q93, q94⟩ := q88
    rw [q92] at X89
    rw [q92] at q94
    refine r_if_ne (tgt := 28) S dX12_takesMind_19 (by decide) (fun c95 => ?_) (fun c95 => ?_)
    ·
      have r96 : R (1) (1) v91 := ⟨by omega, by omega⟩
      have p97 := q94 (by omega)
      have r98 : R (1) (1) v4 := z5 ▸ p97
      have r99 : R (1) (1) v4 := ⟨by omega, by omega⟩
      refine r_aload_n S dX12_takesMind_28 rfl (lv_at hl 1 rfl) ?_
      refine r_kv (q_V (As := []) (rest := []) (K := 38) (ci := 10) S X89 (c_X12_skip l G τ hI ) ck12_186 (Nat.le_of_ble_eq_true rfl) rfl (fun _ => ⟨_, rfl⟩) ⟨_, _, rfl⟩ ⟨Nat.le_of_ble_eq_true rfl, Nat.le_of_ble_eq_true rfl⟩ rfl hl.1 rfl (Nat.le_of_ble_eq_true rfl) dX12_takesMind_29 ⟨Nat.le_refl 0, Nat.le_refl 0⟩) X89 (fun t102 H lc q100 X101 => ?_)
      unfold po_X12_skip at q100
      obtain ⟨q103, q104, q105, q106, q107, q108⟩ := q100
      have F109 : Fr [(131, 15), (131, 16), (131, 4), (131, 11), (131, 12), (131, 13), (131, 14), (131, 18), (131, 21)] [] τ t102 := Fr_call Fr_rfl q104 (by decide)
      obtain ⟨v110, z111⟩ : ∃ x, t102 131 4 = x := ⟨_, rfl⟩
      rw [z111] at q105
      obtain ⟨v112, z113⟩ : ∃ x, t102 131 11 = x := ⟨_, rfl⟩
      rw [z113] at q106
      have e114 := congrArg Int32.toInt z2
      have e115 := congrArg Int32.toInt z111
      have e116 := congrArg Int32.toInt z2
      have e117 := congrArg Int32.toInt z111
      have e118 := congrArg Int32.toInt z5
      have e119 := congrArg Int32.toInt z113
      refine r_aload_n S dX12_takesMind_32 rfl (lv_at hl 1 rfl) ?_
      refine r_iload_n S dX12_takesMind_33 rfl (lv_at hl 2 rfl) ?_
      refine r_bipush S dX12_takesMind_34 (by decide) (fun v120 z121 => ?_)
      have r122 := R_eq z121
      refine r_ki (q_V (As := [.int a0, .int v120]) (rest := []) (K := 38) (ci := 10) S X101 (c_X12_takes_1_9 l G t102 q103 a0 v120 h_a0 r122) ck12_212 (Nat.le_of_ble_eq_true rfl) rfl (fun _ => ⟨_, rfl⟩) ⟨_, _, rfl⟩ ⟨Nat.le_of_ble_eq_true rfl, Nat.le_of_ble_eq_true rfl⟩ rfl hl.1 rfl (Nat.le_of_ble_eq_true rfl) dX12_takesMind_36 ⟨Nat.le_refl 0, Nat.le_refl 0⟩) X101 (fun v126 t125 H lc q123 X124 => ?_)
      unfold po_X12_takes_1_9 at q123
      obtain ⟨q127, q128, q129, q130, q131, q132, q133, q134⟩ := q123
      have F135 : Fr [(131, 15), (131, 16), (131, 4), (131, 11), (131, 12), (131, 13), (131, 14), (131, 18), (131, 21)] [] τ t125 := Fr_call F109 q128 (by decide)
      obtain ⟨v136, z137⟩ : ∃ x, t125 131 4 = x := ⟨_, rfl⟩
      rw [z137] at q131
      obtain ⟨v138, z139⟩ : ∃ x, t125 131 11 = x := ⟨_, rfl⟩
      rw [z139] at q132
      have e140 := congrArg Int32.toInt z111
      have e141 := congrArg Int32.toInt z137
      have e142 := congrArg Int32.toInt z113
      have e143 := congrArg Int32.toInt z139
      refine r_if_ne (tgt := 44) S dX12_takesMind_39 (by decide) (fun c144 => ?_) (fun c144 => ?_)
      ·
        have r145 : R (1) (1) v126 := ⟨by omega, by omega⟩
        have p146 := q130 (by omega)
        obtain ⟨v147, z148⟩ : ∃ x, t125 131 18 = x := ⟨_, rfl⟩
        rw [z148] at p146
        refine r_aload_n S dX12_takesMind_44 rfl (lv_at hl 1 rfl) ?_
        refine r_iload_n S dX12_takesMind_45 rfl (lv_at hl 0 rfl) ?_
        refine r_if_eq (tgt := 57) S dX12_takesMind_46 (by decide) (fun c149 => ?_) (fun c149 => ?_)
        ·
          refine r_aload_n S dX12_takesMind_57 rfl (lv_at hl 1 rfl) ?_
          refine r_geti (K := 38) S X124 (Nat.le_of_ble_eq_true rfl) rfl lk12_193_10 (fun _ => ⟨_, rfl, rfl⟩) z148 dX12_takesMind_58 ?_
          refine r_put (K := 38) (ty := .int) S X124 (Nat.le_of_ble_eq_true rfl) rfl lk12_215_10 (fun _ => ⟨_, rfl, Nat.le_of_ble_eq_true rfl, rfl⟩) (fun _ _ _ h => by cases h; exact ⟨rfl, rfl⟩) rfl rfl dX12_takesMind_61 (fun t150 H lc M151 X152 => ?_)
          have I153 := Inv_mu q127 M151 (show Rg (kd 131) 21 v147 from (R_of (lo := -9) (hi := 9) p146 rfl))
          have F154 : Fr [(131, 15), (131, 16), (131, 4), (131, 11), (131, 12), (131, 13), (131, 14), (131, 18), (131, 21)] [] τ t150 := Fr_mu F135 M151 (by decide)
          refine r_iconst S dX12_takesMind_64 (by decide) (fun v155 z156 => ?_)
          have r157 := R_eq z156
          exact r_ret S hr hlk X152 ⟨I153, F154, (R_of r157 rfl), (by rw [((M151.2 131 4 (Or.inr (by decide))).trans z137)]; exact R_of q131 rfl), (by rw [((M151.2 131 11 (Or.inr (by decide))).trans z139)]; exact R_of q132 rfl), (by have h1_0 := congrArg Int32.toInt ((M151.2 131 4 (Or.inr (by decide))).trans z137); have h2_0 := congrArg Int32.toInt z2; omega), (by have h1_0 := congrArg Int32.toInt ((M151.2 131 4 (Or.inr (by decide))).trans z137); have h2_0 := congrArg Int32.toInt z2; omega)⟩ (nr_bool (R_of (lo := 0) (hi := 1) r157 rfl)) dX12_takesMind_65
        ·
          exfalso; omega
      ·
        have r158 : R (0) (0) v126 := ⟨by omega, by omega⟩
        refine r_iconst S dX12_takesMind_42 (by decide) (fun v159 z160 => ?_)
        have r161 := R_eq z160
        exact r_ret S hr hlk X124 ⟨q127, F135, (R_of r161 rfl), (by rw [z137]; exact R_of q131 rfl), (by rw [z139]; exact R_of q132 rfl), (by have h1_0 := congrArg Int32.toInt z137; have h2_0 := congrArg Int32.toInt z2; omega), (by have h1_0 := congrArg Int32.toInt z137; have h2_0 := congrArg Int32.toInt z2; omega)⟩ (nr_bool (R_of (lo := 0) (hi := 1) r161 rfl)) dX12_takesMind_43
    ·
      have r162 : R (0) (0) v91 := ⟨by omega, by omega⟩
      refine r_aload_n S dX12_takesMind_22 rfl (lv_at hl 1 rfl) ?_
      refine r_iconst S dX12_takesMind_23 (by decide) (fun v163 z164 => ?_)
      have r165 := R_eq z164
      refine r_ki (q_V (As := [.int v163]) (rest := []) (K := 38) (ci := 10) S X89 (c_X12_bad l G τ hI v163 (R_of (lo := -2147483648) (hi := 2147483647) r165 rfl)) ck12_183 (Nat.le_of_ble_eq_true rfl) rfl (fun _ => ⟨_, rfl⟩) ⟨_, _, rfl⟩ ⟨Nat.le_of_ble_eq_true rfl, Nat.le_of_ble_eq_true rfl⟩ rfl hl.1 rfl (Nat.le_of_ble_eq_true rfl) dX12_takesMind_24 ⟨Nat.le_refl 0, Nat.le_refl 0⟩) X89 (fun v169 t168 H lc q166 X167 => ?_)
      unfold po_X12_bad at q166
      obtain ⟨q170, q171, q172⟩ := q166
      have F173 : Fr [(131, 15), (131, 16), (131, 4), (131, 11), (131, 12), (131, 13), (131, 14), (131, 18), (131, 21)] [] τ t168 := Fr_call Fr_rfl q171 (by decide)
      exact r_ret S hr hlk X167 ⟨q170, F173, (R_of q172 rfl), (by rw [((q171 131 4 (by decide)).trans z2)]; exact R_of r3 rfl), (by rw [((q171 131 11 (by decide)).trans z5)]; exact R_of r6 rfl), (by have h1_0 := congrArg Int32.toInt ((q171 131 4 (by decide)).trans z2); have h2_0 := congrArg Int32.toInt z2; omega), (by have h1_0 := congrArg Int32.toInt ((q171 131 4 (by decide)).trans z2); have h2_0 := congrArg Int32.toInt z2; omega)⟩ (nr_bool (R_of (lo := 0) (hi := 1) q172 rfl)) dX12_takesMind_27
def po_X12_once_0 (τ : Tau)  (a0 a1 a2 a3 : Int32) (r : Int32) (u : Tau) : Prop := Inv u ∧ Fr [(131, 15), (131, 16), (131, 4), (131, 11), (131, 12), (131, 13), (131, 14), (131, 18), (131, 20)] [134] τ u ∧ R (0) (1) r ∧ R (0) (940) (u 131 4) ∧ R (0) (4) (u 131 11) ∧ (τ 131 4).toInt ≤ (u 131 4).toInt ∧ (r.toInt = 1 → (τ 131 4).toInt < (u 131 4).toInt)
set_option maxHeartbeats 4000000 in
set_option maxRecDepth 100000 in
theorem c_X12_once_0 (l : Launch) (G : Gx) (τ : Tau) (hI : Inv τ) (a0 : Int32) (a1 : Int32) (a2 : Int32) (a3 : Int32) (h_a0 : R (0) (0) a0) (h_a1 : R (2) (2) a1) (h_a2 : R (1) (1) a2) (h_a3 : R (8) (8) a3) : Ci l G yX12_once cX12_once 5 (some .boolean) 3 65 [.ref (G.2.2.2.1 131), .int a0, .int a1, .int a2, .int a3] τ (po_X12_once_0 τ  a0 a1 a2 a3) := by
  unfold Ci
  refine C_of (own := RX12) (by decide) rfl (Nat.le_of_ble_eq_true rfl) ?_
  intro p e s m below meth c ls S hr hlk X hl
  have hl : lv_has ls 5 [(0, .ref (G.2.2.2.1 131)), (1, .int a0), (2, .int a1), (3, .int a2), (4, .int a3)] := hl
  obtain ⟨v1, z2⟩ : ∃ x, τ 131 4 = x := ⟨_, rfl⟩
  have r3 : R (0) (940) v1 := rd hI rfl z2
  obtain ⟨v4, z5⟩ : ∃ x, τ 131 11 = x := ⟨_, rfl⟩
  have r6 : R (0) (4) v4 := rd hI rfl z5
  refine r_aload_n S dX12_once_0 rfl (lv_at hl 0 rfl) ?_
  refine r_getn (K := 38) S X (Nat.le_of_ble_eq_true rfl) rfl lk12_218_10 (fun _ => ⟨_, rfl, rfl⟩) dX12_once_1 (fun v7 z8 => ?_)
  have r10 := R_any v7
  refine r_iload_n S dX12_once_4 rfl (lv_at hl 1 rfl) ?_
  refine r_ki (q_S (As := [.int v7, .int a0]) (rest := []) S X (c_X12_bitOf l G τ hI v7 a0 r10 (R_of (lo := -2147483648) (hi := 2147483647) h_a0 rfl)) ck12_221 ⟨Nat.le_of_ble_eq_true rfl, Nat.le_of_ble_eq_true rfl⟩ rfl hl.1 rfl (Nat.le_of_ble_eq_true rfl) dX12_once_5 ⟨Nat.le_refl 0, Nat.le_refl 0⟩) X (fun v14 t13 H lc q11 X12 => ?_)
  unfold po_X12_bitOf at q11
  obtain ⟨q15, q16⟩ := q11
  rw [q15] at X12
  refine r_if_eq (tgt := 17) S dX12_once_8 (by decide) (fun c17 => ?_) (fun c17 => ?_)
  ·
    have r18 : R (0) (0) v14 := ⟨by omega, by omega⟩
    refine r_aload_n S dX12_once_17 rfl (lv_at hl 0 rfl) ?_
    refine r_dup S dX12_once_18 rfl ?_
    refine r_geti (K := 38) S X12 (Nat.le_of_ble_eq_true rfl) rfl lk12_218_10 (fun _ => ⟨_, rfl, rfl⟩) z8 dX12_once_19 ?_
    refine r_iconst S dX12_once_22 (by decide) (fun v19 z20 => ?_)
    have r21 := R_eq z20
    refine r_iload_n S dX12_once_23 rfl (lv_at hl 1 rfl) ?_
    refine r_ishl S dX12_once_24 (fun v22 z23 => ?_)
    have r25 : R (1) (1) v22 := i_shl z23 r21 h_a0 rfl
    refine r_ior S dX12_once_25 (fun v26 z27 => ?_)
    have r28 := R_any v26
    refine r_put (K := 38) (ty := .int) S X12 (Nat.le_of_ble_eq_true rfl) rfl lk12_218_10 (fun _ => ⟨_, rfl, Nat.le_of_ble_eq_true rfl, rfl⟩) (fun _ _ _ h => by cases h; exact ⟨rfl, rfl⟩) rfl rfl dX12_once_26 (fun t29 H lc M30 X31 => ?_)
    have I32 := Inv_mu hI M30 (R_any v26)
    have F33 : Fr [(131, 15), (131, 16), (131, 4), (131, 11), (131, 12), (131, 13), (131, 14), (131, 18), (131, 20)] [134] τ t29 := Fr_mu Fr_rfl M30 (by decide)
    refine r_aload_n S dX12_once_29 rfl (lv_at hl 0 rfl) ?_
    refine r_kv (q_V (As := []) (rest := []) (K := 38) (ci := 10) S X31 (c_X12_skip l G t29 I32 ) ck12_186 (Nat.le_of_ble_eq_true rfl) rfl (fun _ => ⟨_, rfl⟩) ⟨_, _, rfl⟩ ⟨Nat.le_of_ble_eq_true rfl, Nat.le_of_ble_eq_true rfl⟩ rfl hl.1 rfl (Nat.le_of_ble_eq_true rfl) dX12_once_30 ⟨Nat.le_refl 0, Nat.le_refl 0⟩) X31 (fun t36 H lc q34 X35 => ?_)
    unfold po_X12_skip at q34
    obtain ⟨q37, q38, q39, q40, q41, q42⟩ := q34
    have F43 : Fr [(131, 15), (131, 16), (131, 4), (131, 11), (131, 12), (131, 13), (131, 14), (131, 18), (131, 20)] [134] τ t36 := Fr_call F33 q38 (by decide)
    obtain ⟨v44, z45⟩ : ∃ x, t36 131 4 = x := ⟨_, rfl⟩
    rw [z45] at q39
    obtain ⟨v46, z47⟩ : ∃ x, t36 131 11 = x := ⟨_, rfl⟩
    rw [z47] at q40
    have e48 := congrArg Int32.toInt ((M30.2 131 4 (Or.inr (by decide))).trans z2)
    have e49 := congrArg Int32.toInt z45
    have e50 := congrArg Int32.toInt ((M30.2 131 4 (Or.inr (by decide))).trans z2)
    have e51 := congrArg Int32.toInt z45
    have e52 := congrArg Int32.toInt ((M30.2 131 11 (Or.inr (by decide))).trans z5)
    have e53 := congrArg Int32.toInt z47
    refine r_aload_n S dX12_once_33 rfl (lv_at hl 0 rfl) ?_
    refine r_iload_n S dX12_once_34 rfl (lv_at hl 3 rfl) ?_
    refine r_iload S dX12_once_35 (lv_at hl 4 rfl) ?_
    refine r_ki (q_V (As := [.int a2, .int a3]) (rest := []) (K := 38) (ci := 10) S X35 (c_X12_takes_1_8 l G t36 q37 a2 a3 h_a2 h_a3) ck12_212 (Nat.le_of_ble_eq_true rfl) rfl (fun _ => ⟨_, rfl⟩) ⟨_, _, rfl⟩ ⟨Nat.le_of_ble_eq_true rfl, Nat.le_of_ble_eq_true rfl⟩ rfl hl.1 rfl (Nat.le_of_ble_eq_true rfl) dX12_once_37 ⟨Nat.le_refl 0, Nat.le_refl 0⟩) X35 (fun v57 t56 H lc q54 X55 => ?_)
    unfold po_X12_takes_1_8 at q54
    obtain ⟨q58, q59, q60, q61, q62, q63, q64, q65⟩ := q54
    have F66 : Fr [(131, 15), (131, 16), (131, 4), (131, 11), (131, 12), (131, 13), (131, 14), (131, 18), (131, 20)] [134] τ t56 := Fr_call F43 q59 (by decide)
    obtain ⟨v67, z68⟩ : ∃ x, t56 131 4 = x := ⟨_, rfl⟩
    rw [z68] at q62
    obtain ⟨v69, z70⟩ : ∃ x, t56 131 11 = x := ⟨_, rfl⟩
    rw [z70] at q63
    have e71 := congrArg Int32.toInt z45
    have e72 := congrArg Int32.toInt z68
    have e73 := congrArg Int32.toInt z47
    have e74 := congrArg Int32.toInt z70
    refine r_if_ne (tgt := 45) S dX12_once_40 (by decide) (fun c75 => ?_) (fun c75 => ?_)
    ·
      have r76 : R (1) (1) v57 := ⟨by omega, by omega⟩
      have p77 := q61 (by omega)
      obtain ⟨v78, z79⟩ : ∃ x, t56 131 18 = x := ⟨_, rfl⟩
      rw [z79] at p77
      refine r_aload_n S dX12_once_45 rfl (lv_at hl 0 rfl) ?_
      refine r_get (K := 38) (v := .ref (G.2.2.2.1 134)) S X55 (Nat.le_of_ble_eq_true rfl) rfl lk12_37_10 (fun _ => ⟨_, rfl, rfl⟩) dX12_once_46 ?_
      refine r_iload_n S dX12_once_49 rfl (lv_at hl 2 rfl) ?_
      refine r_aload_n S dX12_once_50 rfl (lv_at hl 0 rfl) ?_
      refine r_geti (K := 38) S X55 (Nat.le_of_ble_eq_true rfl) rfl lk12_193_10 (fun _ => ⟨_, rfl, rfl⟩) z79 dX12_once_51 ?_
      refine r_ast (n := 125) (K := 41) S X55 (Nat.le_of_ble_eq_true rfl) rfl (fun _ _ => rfl) (ix_of h_a1 rfl) dX12_once_54 (fun t80 H lc M81 X82 => ?_)
      have I83 := Inv_mu q58 M81 (show Rg (kd 134) _ v78 from wrs (K := 41) (a := 2) (n := 1) (R_of h_a1 rfl) (R_of (lo := 0) (hi := 8) p77 rfl) (by decide +kernel))
      have F84 : Fr [(131, 15), (131, 16), (131, 4), (131, 11), (131, 12), (131, 13), (131, 14), (131, 18), (131, 20)] [134] τ t80 := Fr_cell F66 M81 (by decide)
      refine r_iconst S dX12_once_55 (by decide) (fun v85 z86 => ?_)
      have r87 := R_eq z86
      exact r_ret S hr hlk X82 ⟨I83, F84, (R_of r87 rfl), (by rw [((M81.2 131 4 (Or.inl (by decide))).trans z68)]; exact R_of q62 rfl), (by rw [((M81.2 131 11 (Or.inl (by decide))).trans z70)]; exact R_of q63 rfl), (by have h1_0 := congrArg Int32.toInt ((M81.2 131 4 (Or.inl (by decide))).trans z68); have h2_0 := congrArg Int32.toInt z2; omega), (by have h1_0 := congrArg Int32.toInt ((M81.2 131 4 (Or.inl (by decide))).trans z68); have h2_0 := congrArg Int32.toInt z2; omega)⟩ (nr_bool (R_of (lo := 0) (hi := 1) r87 rfl)) dX12_once_56
    ·
      have r88 : R (0) (0) v57 := ⟨by omega, by omega⟩
      refine r_iconst S dX12_once_43 (by decide) (fun v89 z90 => ?_)
      have r91 := R_eq z90
      exact r_ret S hr hlk X55 ⟨q58, F66, (R_of r91 rfl), (by rw [z68]; exact R_of q62 rfl), (by rw [z70]; exact R_of q63 rfl), (by have h1_0 := congrArg Int32.toInt z68; have h2_0 := congrArg Int32.toInt z2; omega), (by have h1_0 := congrArg Int32.toInt z68; have h2_0 := congrArg Int32.toInt z2; omega)⟩ (nr_bool (R_of (lo := 0) (hi := 1) r91 rfl)) dX12_once_44
  ·
    have r92 : R (1) (1) v14 := ⟨by omega, by omega⟩
    refine r_aload_n S dX12_once_11 rfl (lv_at hl 0 rfl) ?_
    refine r_iconst S dX12_once_12 (by decide) (fun v93 z94 => ?_)
    have r95 := R_eq z94
    refine r_ki (q_V (As := [.int v93]) (rest := []) (K := 38) (ci := 10) S X12 (c_X12_bad l G τ hI v93 (R_of (lo := -2147483648) (hi := 2147483647) r95 rfl)) ck12_183 (Nat.le_of_ble_eq_true rfl) rfl (fun _ => ⟨_, rfl⟩) ⟨_, _, rfl⟩ ⟨Nat.le_of_ble_eq_true rfl, Nat.le_of_ble_eq_true rfl⟩ rfl hl.1 rfl (Nat.le_of_ble_eq_true rfl) dX12_once_13 ⟨Nat.le_refl 0, Nat.le_refl 0⟩) X12 (fun v99 t98 H lc q96 X97 => ?_)
    unfold po_X12_bad at q96
    obtain ⟨q100, q101, q102⟩ := q96
    have F103 : Fr [(131, 15), (131, 16), (131, 4), (131, 11), (131, 12), (131, 13), (131, 14), (131, 18), (131, 20)] [134] τ t98 := Fr_call Fr_rfl q101 (by decide)
    exact r_ret S hr hlk X97 ⟨q100, F103, (R_of q102 rfl), (by rw [((q101 131 4 (by decide)).trans z2)]; exact R_of r3 rfl), (by rw [((q101 131 11 (by decide)).trans z5)]; exact R_of r6 rfl), (by have h1_0 := congrArg Int32.toInt ((q101 131 4 (by decide)).trans z2); have h2_0 := congrArg Int32.toInt z2; omega), (by have h1_0 := congrArg Int32.toInt ((q101 131 4 (by decide)).trans z2); have h2_0 := congrArg Int32.toInt z2; omega)⟩ (nr_bool (R_of (lo := 0) (hi := 1) q102 rfl)) dX12_once_16
def po_X12_once_1 (τ : Tau)  (a0 a1 a2 a3 : Int32) (r : Int32) (u : Tau) : Prop := Inv u ∧ Fr [(131, 15), (131, 16), (131, 4), (131, 11), (131, 12), (131, 13), (131, 14), (131, 18), (131, 20)] [134] τ u ∧ R (0) (1) r ∧ R (0) (940) (u 131 4) ∧ R (0) (4) (u 131 11) ∧ (τ 131 4).toInt ≤ (u 131 4).toInt ∧ (r.toInt = 1 → (τ 131 4).toInt < (u 131 4).toInt)
set_option maxHeartbeats 4000000 in
set_option maxRecDepth 100000 in
theorem c_X12_once_1 (l : Launch) (G : Gx) (τ : Tau) (hI : Inv τ) (a0 : Int32) (a1 : Int32) (a2 : Int32) (a3 : Int32) (h_a0 : R (1) (1) a0) (h_a1 : R (3) (3) a1) (h_a2 : R (0) (0) a2) (h_a3 : R (9) (9) a3) : Ci l G yX12_once cX12_once 5 (some .boolean) 3 65 [.ref (G.2.2.2.1 131), .int a0, .int a1, .int a2, .int a3] τ (po_X12_once_1 τ  a0 a1 a2 a3) := by
  unfold Ci
  refine C_of (own := RX12) (by decide) rfl (Nat.le_of_ble_eq_true rfl) ?_
  intro p e s m below meth c ls S hr hlk X hl
  have hl : lv_has ls 5 [(0, .ref (G.2.2.2.1 131)), (1, .int a0), (2, .int a1), (3, .int a2), (4, .int a3)] := hl
  obtain ⟨v1, z2⟩ : ∃ x, τ 131 4 = x := ⟨_, rfl⟩
  have r3 : R (0) (940) v1 := rd hI rfl z2
  obtain ⟨v4, z5⟩ : ∃ x, τ 131 11 = x := ⟨_, rfl⟩
  have r6 : R (0) (4) v4 := rd hI rfl z5
  refine r_aload_n S dX12_once_0 rfl (lv_at hl 0 rfl) ?_
  refine r_getn (K := 38) S X (Nat.le_of_ble_eq_true rfl) rfl lk12_218_10 (fun _ => ⟨_, rfl, rfl⟩) dX12_once_1 (fun v7 z8 => ?_)
  have r10 := R_any v7
  refine r_iload_n S dX12_once_4 rfl (lv_at hl 1 rfl) ?_
  refine r_ki (q_S (As := [.int v7, .int a0]) (rest := []) S X (c_X12_bitOf l G τ hI v7 a0 r10 (R_of (lo := -2147483648) (hi := 2147483647) h_a0 rfl)) ck12_221 ⟨Nat.le_of_ble_eq_true rfl, Nat.le_of_ble_eq_true rfl⟩ rfl hl.1 rfl (Nat.le_of_ble_eq_true rfl) dX12_once_5 ⟨Nat.le_refl 0, Nat.le_refl 0⟩) X (fun v14 t13 H lc q11 X12 => ?_)
  unfold po_X12_bitOf at q11
  obtain ⟨q15, q16⟩ := q11
  rw [q15] at X12
  refine r_if_eq (tgt := 17) S dX12_once_8 (by decide) (fun c17 => ?_) (fun c17 => ?_)
  ·
    have r18 : R (0) (0) v14 := ⟨by omega, by omega⟩
    refine r_aload_n S dX12_once_17 rfl (lv_at hl 0 rfl) ?_
    refine r_dup S dX12_once_18 rfl ?_
    refine r_geti (K := 38) S X12 (Nat.le_of_ble_eq_true rfl) rfl lk12_218_10 (fun _ => ⟨_, rfl, rfl⟩) z8 dX12_once_19 ?_
    refine r_iconst S dX12_once_22 (by decide) (fun v19 z20 => ?_)
    have r21 := R_eq z20
    refine r_iload_n S dX12_once_23 rfl (lv_at hl 1 rfl) ?_
    refine r_ishl S dX12_once_24 (fun v22 z23 => ?_)
    have r25 : R (2) (2) v22 := i_shl z23 r21 h_a0 rfl
    refine r_ior S dX12_once_25 (fun v26 z27 => ?_)
    have r28 := R_any v26
    refine r_put (K := 38) (ty := .int) S X12 (Nat.le_of_ble_eq_true rfl) rfl lk12_218_10 (fun _ => ⟨_, rfl, Nat.le_of_ble_eq_true rfl, rfl⟩) (fun _ _ _ h => by cases h; exact ⟨rfl, rfl⟩) rfl rfl dX12_once_26 (fun t29 H lc M30 X31 => ?_)
    have I32 := Inv_mu hI M30 (R_any v26)
    have F33 : Fr [(131, 15), (131, 16), (131, 4), (131, 11), (131, 12), (131, 13), (131, 14), (131, 18), (131, 20)] [134] τ t29 := Fr_mu Fr_rfl M30 (by decide)
    refine r_aload_n S dX12_once_29 rfl (lv_at hl 0 rfl) ?_
    refine r_kv (q_V (As := []) (rest := []) (K := 38) (ci := 10) S X31 (c_X12_skip l G t29 I32 ) ck12_186 (Nat.le_of_ble_eq_true rfl) rfl (fun _ => ⟨_, rfl⟩) ⟨_, _, rfl⟩ ⟨Nat.le_of_ble_eq_true rfl, Nat.le_of_ble_eq_true rfl⟩ rfl hl.1 rfl (Nat.le_of_ble_eq_true rfl) dX12_once_30 ⟨Nat.le_refl 0, Nat.le_refl 0⟩) X31 (fun t36 H lc q34 X35 => ?_)
    unfold po_X12_skip at q34
    obtain ⟨q37, q38, q39, q40, q41, q42⟩ := q34
    have F43 : Fr [(131, 15), (131, 16), (131, 4), (131, 11), (131, 12), (131, 13), (131, 14), (131, 18), (131, 20)] [134] τ t36 := Fr_call F33 q38 (by decide)
    obtain ⟨v44, z45⟩ : ∃ x, t36 131 4 = x := ⟨_, rfl⟩
    rw [z45] at q39
    obtain ⟨v46, z47⟩ : ∃ x, t36 131 11 = x := ⟨_, rfl⟩
    rw [z47] at q40
    have e48 := congrArg Int32.toInt ((M30.2 131 4 (Or.inr (by decide))).trans z2)
    have e49 := congrArg Int32.toInt z45
    have e50 := congrArg Int32.toInt ((M30.2 131 4 (Or.inr (by decide))).trans z2)
    have e51 := congrArg Int32.toInt z45
    have e52 := congrArg Int32.toInt ((M30.2 131 11 (Or.inr (by decide))).trans z5)
    have e53 := congrArg Int32.toInt z47
    refine r_aload_n S dX12_once_33 rfl (lv_at hl 0 rfl) ?_
    refine r_iload_n S dX12_once_34 rfl (lv_at hl 3 rfl) ?_
    refine r_iload S dX12_once_35 (lv_at hl 4 rfl) ?_
    refine r_ki (q_V (As := [.int a2, .int a3]) (rest := []) (K := 38) (ci := 10) S X35 (c_X12_takes_0_9 l G t36 q37 a2 a3 h_a2 h_a3) ck12_212 (Nat.le_of_ble_eq_true rfl) rfl (fun _ => ⟨_, rfl⟩) ⟨_, _, rfl⟩ ⟨Nat.le_of_ble_eq_true rfl, Nat.le_of_ble_eq_true rfl⟩ rfl hl.1 rfl (Nat.le_of_ble_eq_true rfl) dX12_once_37 ⟨Nat.le_refl 0, Nat.le_refl 0⟩) X35 (fun v57 t56 H lc q54 X55 => ?_)
    unfold po_X12_takes_0_9 at q54
    obtain ⟨q58, q59, q60, q61, q62, q63, q64, q65⟩ := q54
    have F66 : Fr [(131, 15), (131, 16), (131, 4), (131, 11), (131, 12), (131, 13), (131, 14), (131, 18), (131, 20)] [134] τ t56 := Fr_call F43 q59 (by decide)
    obtain ⟨v67, z68⟩ : ∃ x, t56 131 4 = x := ⟨_, rfl⟩
    rw [z68] at q62
    obtain ⟨v69, z70⟩ : ∃ x, t56 131 11 = x := ⟨_, rfl⟩
    rw [z70] at q63
    have e71 := congrArg Int32.toInt z45
    have e72 := congrArg Int32.toInt z68
    have e73 := congrArg Int32.toInt z47
    have e74 := congrArg Int32.toInt z70
    refine r_if_ne (tgt := 45) S dX12_once_40 (by decide) (fun c75 => ?_) (fun c75 => ?_)
    ·
      have r76 : R (1) (1) v57 := ⟨by omega, by omega⟩
      have p77 := q61 (by omega)
      obtain ⟨v78, z79⟩ : ∃ x, t56 131 18 = x := ⟨_, rfl⟩
      rw [z79] at p77
      refine r_aload_n S dX12_once_45 rfl (lv_at hl 0 rfl) ?_
      refine r_get (K := 38) (v := .ref (G.2.2.2.1 134)) S X55 (Nat.le_of_ble_eq_true rfl) rfl lk12_37_10 (fun _ => ⟨_, rfl, rfl⟩) dX12_once_46 ?_
      refine r_iload_n S dX12_once_49 rfl (lv_at hl 2 rfl) ?_
      refine r_aload_n S dX12_once_50 rfl (lv_at hl 0 rfl) ?_
      refine r_geti (K := 38) S X55 (Nat.le_of_ble_eq_true rfl) rfl lk12_193_10 (fun _ => ⟨_, rfl, rfl⟩) z79 dX12_once_51 ?_
      refine r_ast (n := 125) (K := 41) S X55 (Nat.le_of_ble_eq_true rfl) rfl (fun _ _ => rfl) (ix_of h_a1 rfl) dX12_once_54 (fun t80 H lc M81 X82 => ?_)
      have I83 := Inv_mu q58 M81 (show Rg (kd 134) _ v78 from wrs (K := 41) (a := 3) (n := 1) (R_of h_a1 rfl) (R_of (lo := 0) (hi := 9) p77 rfl) (by decide +kernel))
      have F84 : Fr [(131, 15), (131, 16), (131, 4), (131, 11), (131, 12), (131, 13), (131, 14), (131, 18), (131, 20)] [134] τ t80 := Fr_cell F66 M81 (by decide)
      refine r_iconst S dX12_once_55 (by decide) (fun v85 z86 => ?_)
      have r87 := R_eq z86
      exact r_ret S hr hlk X82 ⟨I83, F84, (R_of r87 rfl), (by rw [((M81.2 131 4 (Or.inl (by decide))).trans z68)]; exact R_of q62 rfl), (by rw [((M81.2 131 11 (Or.inl (by decide))).trans z70)]; exact R_of q63 rfl), (by have h1_0 := congrArg Int32.toInt ((M81.2 131 4 (Or.inl (by decide))).trans z68); have h2_0 := congrArg Int32.toInt z2; omega), (by have h1_0 := congrArg Int32.toInt ((M81.2 131 4 (Or.inl (by decide))).trans z68); have h2_0 := congrArg Int32.toInt z2; omega)⟩ (nr_bool (R_of (lo := 0) (hi := 1) r87 rfl)) dX12_once_56
    ·
      have r88 : R (0) (0) v57 := ⟨by omega, by omega⟩
      refine r_iconst S dX12_once_43 (by decide) (fun v89 z90 => ?_)
      have r91 := R_eq z90
      exact r_ret S hr hlk X55 ⟨q58, F66, (R_of r91 rfl), (by rw [z68]; exact R_of q62 rfl), (by rw [z70]; exact R_of q63 rfl), (by have h1_0 := congrArg Int32.toInt z68; have h2_0 := congrArg Int32.toInt z2; omega), (by have h1_0 := congrArg Int32.toInt z68; have h2_0 := congrArg Int32.toInt z2; omega)⟩ (nr_bool (R_of (lo := 0) (hi := 1) r91 rfl)) dX12_once_44
  ·
    have r92 : R (1) (1) v14 := ⟨by omega, by omega⟩
    refine r_aload_n S dX12_once_11 rfl (lv_at hl 0 rfl) ?_
    refine r_iconst S dX12_once_12 (by decide) (fun v93 z94 => ?_)
    have r95 := R_eq z94
    refine r_ki (q_V (As := [.int v93]) (rest := []) (K := 38) (ci := 10) S X12 (c_X12_bad l G τ hI v93 (R_of (lo := -2147483648) (hi := 2147483647) r95 rfl)) ck12_183 (Nat.le_of_ble_eq_true rfl) rfl (fun _ => ⟨_, rfl⟩) ⟨_, _, rfl⟩ ⟨Nat.le_of_ble_eq_true rfl, Nat.le_of_ble_eq_true rfl⟩ rfl hl.1 rfl (Nat.le_of_ble_eq_true rfl) dX12_once_13 ⟨Nat.le_refl 0, Nat.le_refl 0⟩) X12 (fun v99 t98 H lc q96 X97 => ?_)
    unfold po_X12_bad at q96
    obtain ⟨q100, q101, q102⟩ := q96
    have F103 : Fr [(131, 15), (131, 16), (131, 4), (131, 11), (131, 12), (131, 13), (131, 14), (131, 18), (131, 20)] [134] τ t98 := Fr_call Fr_rfl q101 (by decide)
    exact r_ret S hr hlk X97 ⟨q100, F103, (R_of q102 rfl), (by rw [((q101 131 4 (by decide)).trans z2)]; exact R_of r3 rfl), (by rw [((q101 131 11 (by decide)).trans z5)]; exact R_of r6 rfl), (by have h1_0 := congrArg Int32.toInt ((q101 131 4 (by decide)).trans z2); have h2_0 := congrArg Int32.toInt z2; omega), (by have h1_0 := congrArg Int32.toInt ((q101 131 4 (by decide)).trans z2); have h2_0 := congrArg Int32.toInt z2; omega)⟩ (nr_bool (R_of (lo := 0) (hi := 1) q102 rfl)) dX12_once_16
def po_X12_readMan (τ : Tau)   (r : Int32) (u : Tau) : Prop := Inv u ∧ Fr [(131, 15), (131, 16), (131, 4), (131, 11), (131, 12), (131, 13), (131, 14), (131, 18), (131, 21)] [134] τ u ∧ R (0) (1) r ∧ R (0) (940) (u 131 4) ∧ R (0) (4) (u 131 11) ∧ (τ 131 4).toInt ≤ (u 131 4).toInt ∧ (r.toInt = 1 → (τ 131 4).toInt < (u 131 4).toInt)
set_option maxHeartbeats 4000000 in
set_option maxRecDepth 100000 in
theorem c_X12_readMan (l : Launch) (G : Gx) (τ : Tau) (hI : Inv τ) : Ci l G yX12_readMan cX12_readMan 3 (some .boolean) 4 87 [.ref (G.2.2.2.1 131)] τ (po_X12_readMan τ  ) := by
  unfold Ci
  refine C_of (own := RX12) (by decide) rfl (Nat.le_of_ble_eq_true rfl) ?_
  intro p e s m below meth c ls S hr hlk X hl
  have hl : lv_has ls 3 [(0, .ref (G.2.2.2.1 131))] := hl
  obtain ⟨v1, z2⟩ : ∃ x, τ 131 4 = x := ⟨_, rfl⟩
  have r3 : R (0) (940) v1 := rd hI rfl z2
  obtain ⟨v4, z5⟩ : ∃ x, τ 131 11 = x := ⟨_, rfl⟩
  have r6 : R (0) (4) v4 := rd hI rfl z5
  refine r_aload_n S dX12_readMan_0 rfl (lv_at hl 0 rfl) ?_
  refine r_get (K := 38) (v := .ref (G.2.2.2.1 134)) S X (Nat.le_of_ble_eq_true rfl) rfl lk12_37_10 (fun _ => ⟨_, rfl, rfl⟩) dX12_readMan_1 ?_
  refine r_iconst S dX12_readMan_4 (by decide) (fun v7 z8 => ?_)
  have r9 := R_eq z8
  refine r_aldn (n := 125) (K := 41) S X (Nat.le_of_ble_eq_true rfl) rfl (fun _ => rfl) (ix_of r9 rfl) dX12_readMan_5 (fun v10 z11 => ?_)
  have r12 : R (0) (10) v10 := rds (K := 41) (a := 1) (n := 1) hI rfl z11 (R_of r9 rfl) (by decide +kernel)
  refine r_istore_n (lv' := [(1, .int v10), (0, .ref (G.2.2.2.1 131))]) S dX12_readMan_6 rfl hl (by decide) rfl (fun ls hl => ?_)
  refine r_iload_n S dX12_readMan_7 rfl (lv_at hl 0 rfl) ?_
  refine r_bipush S dX12_readMan_8 (by decide) (fun v13 z14 => ?_)
  have r15 := R_eq z14
  refine r_icmp_ne (tgt := 19) S dX12_readMan_10 (by decide) (fun c16 => ?_) (fun c16 => ?_)
  ·
    have r17 : R (0) (9) v10 := ⟨by omega, by omega⟩
    refine r_aload_n S dX12_readMan_19 rfl (lv_at hl 1 rfl) ?_
    refine r_kv (q_V (As := []) (rest := []) (K := 38) (ci := 10) S X (c_X12_skip l G τ hI ) ck12_186 (Nat.le_of_ble_eq_true rfl) rfl (fun _ => ⟨_, rfl⟩) ⟨_, _, rfl⟩ ⟨Nat.le_of_ble_eq_true rfl, Nat.le_of_ble_eq_true rfl⟩ rfl hl.1 rfl (Nat.le_of_ble_eq_true rfl) dX12_readMan_20 ⟨Nat.le_refl 0, Nat.le_refl 0⟩) X (fun t20 H lc q18 X19 => ?_)
    unfold po_X12_skip at q18
    obtain ⟨q21, q22, q23, q24, q25, q26⟩ := q18
    have F27 : Fr [(131, 15), (131, 16), (131, 4), (131, 11), (131, 12), (131, 13), (131, 14), (131, 18), (131, 21)] [134] τ t20 := Fr_call Fr_rfl q22 (by decide)
    obtain ⟨v28, z29⟩ : ∃ x, t20 131 4 = x := ⟨_, rfl⟩
    rw [z29] at q23
    obtain ⟨v30, z31⟩ : ∃ x, t20 131 11 = x := ⟨_, rfl⟩
    rw [z31] at q24
    have e32 := congrArg Int32.toInt z2
    have e33 := congrArg Int32.toInt z29
    have e34 := congrArg Int32.toInt z2
    have e35 := congrArg Int32.toInt z29
    have e36 := congrArg Int32.toInt z5
    have e37 := congrArg Int32.toInt z31
    refine r_aload_n S dX12_readMan_23 rfl (lv_at hl 1 rfl) ?_
    refine r_bipush S dX12_readMan_24 (by decide) (fun v38 z39 => ?_)
    have r40 := R_eq z39
    refine r_iload_n S dX12_readMan_26 rfl (lv_at hl 0 rfl) ?_
    refine r_iadd S dX12_readMan_27 (fun v41 z42 => ?_)
    obtain ⟨e43, r44⟩ := i_add (lo := 28) (hi := 37) z42 r40 r17 rfl
    refine r_ki (q_V (As := [.int v41]) (rest := []) (K := 38) (ci := 10) S X19 (c_X12_fresh l G t20 q21 v41 (R_of (lo := 19) (hi := 37) r44 rfl)) ck12_228 (Nat.le_of_ble_eq_true rfl) rfl (fun _ => ⟨_, rfl⟩) ⟨_, _, rfl⟩ ⟨Nat.le_of_ble_eq_true rfl, Nat.le_of_ble_eq_true rfl⟩ rfl hl.1 rfl (Nat.le_of_ble_eq_true rfl) dX12_readMan_28 ⟨Nat.le_refl 0, Nat.le_refl 0⟩) X19 (fun v48 t47 H lc q45 X46 => ?_)
    unfold po_X12_fresh at q45
    obtain ⟨q49, q50, q51, q52, q53, q54, q55⟩ := q45
    have F56 : Fr [(131, 15), (131, 16), (131, 4), (131, 11), (131, 12), (131, 13), (131, 14), (131, 18), (131, 21)] [134] τ t47 := Fr_call F27 q50 (by decide)
    obtain ⟨v57, z58⟩ : ∃ x, t47 131 4 = x := ⟨_, rfl⟩
    rw [z58] at q52
    obtain ⟨v59, z60⟩ : ∃ x, t47 131 11 = x := ⟨_, rfl⟩
    rw [z60] at q53
    have e61 := congrArg Int32.toInt z29
    have e62 := congrArg Int32.toInt z58
    have e63 := congrArg Int32.toInt z31
    have e64 := congrArg Int32.toInt z60
    refine r_if_eq (tgt := 44) S dX12_readMan_31 (by decide) (fun c65 => ?_) (fun c65 => ?_)
    ·
      have r66 : R (0) (0) v48 := ⟨by omega, by omega⟩
      refine r_iconst S dX12_readMan_44 (by decide) (fun v67 z68 => ?_)
      have r69 := R_eq z68
      exact r_ret S hr hlk X46 ⟨q49, F56, (R_of r69 rfl), (by rw [z58]; exact R_of q52 rfl), (by rw [z60]; exact R_of q53 rfl), (by have h1_0 := congrArg Int32.toInt z58; have h2_0 := congrArg Int32.toInt z2; omega), (by have h1_0 := congrArg Int32.toInt z58; have h2_0 := congrArg Int32.toInt z2; omega)⟩ (nr_bool (R_of (lo := 0) (hi := 1) r69 rfl)) dX12_readMan_45
    ·
      have r70 : R (1) (1) v48 := ⟨by omega, by omega⟩
      refine r_aload_n S dX12_readMan_34 rfl (lv_at hl 1 rfl) ?_
      refine r_iconst S dX12_readMan_35 (by decide) (fun v71 z72 => ?_)
      have r73 := R_eq z72
      refine r_bipush S dX12_readMan_36 (by decide) (fun v74 z75 => ?_)
      have r76 := R_eq z75
      refine r_ki (q_V (As := [.int v71, .int v74]) (rest := []) (K := 38) (ci := 10) S X46 (c_X12_takes_0_20 l G t47 q49 v71 v74 r73 r76) ck12_212 (Nat.le_of_ble_eq_true rfl) rfl (fun _ => ⟨_, rfl⟩) ⟨_, _, rfl⟩ ⟨Nat.le_of_ble_eq_true rfl, Nat.le_of_ble_eq_true rfl⟩ rfl hl.1 rfl (Nat.le_of_ble_eq_true rfl) dX12_readMan_38 ⟨Nat.le_refl 0, Nat.le_refl 0⟩) X46 (fun v80 t79 H lc q77 X78 => ?_)
      unfold po_X12_takes_0_20 at q77
      obtain ⟨q81, q82, q83, q84, q85, q86, q87, q88⟩ := q77
      have F89 : Fr [(131, 15), (131, 16), (131, 4), (131, 11), (131, 12), (131, 13), (131, 14), (131, 18), (131, 21)] [134] τ t79 := Fr_call F56 q82 (by decide)
      obtain ⟨v90, z91⟩ : ∃ x, t79 131 4 = x := ⟨_, rfl⟩
      rw [z91] at q85
      obtain ⟨v92, z93⟩ : ∃ x, t79 131 11 = x := ⟨_, rfl⟩
      rw [z93] at q86
      have e94 := congrArg Int32.toInt z58
      have e95 := congrArg Int32.toInt z91
      have e96 := congrArg Int32.toInt z60
      have e97 := congrArg Int32.toInt z93
      refine r_if_ne (tgt := 46) S dX12_readMan_41 (by decide) (fun c98 => ?_) (fun c98 => ?_)
      ·
        have r99 : R (1) (1) v80 := ⟨by omega, by omega⟩
        have p100 := q84 (by omega)
        obtain ⟨v101, z102⟩ : ∃ x, t79 131 18 = x := ⟨_, rfl⟩
        rw [z102] at p100
        refine r_aload_n S dX12_readMan_46 rfl (lv_at hl 1 rfl) ?_
        refine r_get (K := 38) (v := .ref (G.2.2.2.1 134)) S X78 (Nat.le_of_ble_eq_true rfl) rfl lk12_37_10 (fun _ => ⟨_, rfl, rfl⟩) dX12_readMan_47 ?_
        refine r_iconst S dX12_readMan_50 (by decide) (fun v103 z104 => ?_)
        have r105 := R_eq z104
        refine r_iload_n S dX12_readMan_51 rfl (lv_at hl 0 rfl) ?_
        refine r_iadd S dX12_readMan_52 (fun v106 z107 => ?_)
        obtain ⟨e108, r109⟩ := i_add (lo := 5) (hi := 14) z107 r105 r17 rfl
        refine r_aload_n S dX12_readMan_53 rfl (lv_at hl 1 rfl) ?_
        refine r_geti (K := 38) S X78 (Nat.le_of_ble_eq_true rfl) rfl lk12_193_10 (fun _ => ⟨_, rfl, rfl⟩) z102 dX12_readMan_54 ?_
        refine r_ast (n := 125) (K := 41) S X78 (Nat.le_of_ble_eq_true rfl) rfl (fun _ _ => rfl) (ix_of r109 rfl) dX12_readMan_57 (fun t110 H lc M111 X112 => ?_)
        have I113 := Inv_mu q81 M111 (show Rg (kd 134) _ v101 from wrs (K := 41) (a := 5) (n := 10) (R_of r109 rfl) (R_of (lo := 0) (hi := 20) p100 rfl) (by decide +kernel))
        have F114 : Fr [(131, 15), (131, 16), (131, 4), (131, 11), (131, 12), (131, 13), (131, 14), (131, 18), (131, 21)] [134] τ t110 := Fr_cell F89 M111 (by decide)
        refine r_iconst S dX12_readMan_58 (by decide) (fun v115 z116 => ?_)
        have r117 := R_eq z116
        refine r_istore_n (lv' := [(2, .int v115), (1, .int v10), (0, .ref (G.2.2.2.1 131))]) S dX12_readMan_59 rfl hl (by decide) rfl (fun ls hl => ?_)
        have L452 : ∀ (n : Nat) (t444 : Tau) (H : Heap) (lc : List Loc) (ls : Array Slot) (i442 : Int32), Xd G s H lc t444 → Inv t444 → Fr [(131, 15), (131, 16), (131, 4), (131, 11), (131, 12), (131, 13), (131, 14), (131, 18), (131, 21)] [134] τ t444 → R (0) (9) i442 → t444 134 1 = v10 → t444 131 4 = v90 → t444 131 11 = v92 → t444 131 18 = v101 → lv_has ls 3 [(0, .ref (G.2.2.2.1 131)), (1, .int v10), (2, .int i442)] → (9 - i442.toInt).toNat < n → W p l e (Rm 4 87) s m ([.ref (G.2.2.2.1 131)] : List Value).toArray below meth c H lc 0 0 (MQ below (va_Qi (po_X12_readMan τ  ) (Bs G) G.2.2.2.2) ([.ref (G.2.2.2.1 131)] : List Value).toArray s 0 0 G.2.2.2.2) (F0 m 60 ls []) := by
          intro n
          induction n with
          | zero => intros; omega
          | succ n ih453 =>
            intro t444 H lc ls i442 X447 I445 F446 r443 z448 z449 z450 z451 hl hm
            refine r_iload_n S dX12_readMan_60 rfl (lv_at hl 2 rfl) ?_
            refine r_bipush S dX12_readMan_61 (by decide) (fun v454 z455 => ?_)
            have r456 := R_eq z455
            refine r_icmp_ge (tgt := 87) S dX12_readMan_63 (by decide) (fun c457 => ?_) (fun c457 => ?_)
            ·
              have r458 : R (9) (9) i442 := ⟨by omega, by omega⟩
              have L856 : ∀ (n : Nat) (t845 : Tau) (H : Heap) (lc : List Loc) (ls : Array Slot) (f850 : Int32) (f853 : Int32), Xd G s H lc t845 → Inv t845 → Fr [(131, 15), (131, 16), (131, 4), (131, 11), (131, 12), (131, 13), (131, 14), (131, 18), (131, 21)] [134] τ t845 → t845 134 1 = v10 → t845 131 4 = f850 → R (0) (940) f850 → t845 131 11 = f853 → R (0) (4) f853 → v1.toInt < f850.toInt → lv_has ls 3 [(0, .ref (G.2.2.2.1 131)), (1, .int v10)] → (940 - f850.toInt).toNat < n → W p l e (Rm 4 87) s m ([.ref (G.2.2.2.1 131)] : List Value).toArray below meth c H lc 0 0 (MQ below (va_Qi (po_X12_readMan τ  ) (Bs G) G.2.2.2.2) ([.ref (G.2.2.2.1 131)] : List Value).toArray s 0 0 G.2.2.2.2) (F0 m 87 ls []) := by
                intro n
                induction n with
                | zero => intros; omega
                | succ n ih858 =>
                  intro t845 H lc ls f850 f853 X848 I846 F847 z849 z852 r851 z855 r854 x857 hl hm
                  refine r_aload_n S dX12_readMan_87 rfl (lv_at hl 0 rfl) ?_
                  refine r_bipush S dX12_readMan_88 (by decide) (fun v859 z860 => ?_)
                  have r861 := R_eq z860
                  refine r_ki (q_V (As := [.int v859]) (rest := []) (K := 38) (ci := 10) S X848 (c_X12_isSign l G t845 I846 v859 (R_of (lo := -2147483648) (hi := 2147483647) r861 rfl)) ck12_180 (Nat.le_of_ble_eq_true rfl) rfl (fun _ => ⟨_, rfl⟩) ⟨_, _, rfl⟩ ⟨Nat.le_of_ble_eq_true rfl, Nat.le_of_ble_eq_true rfl⟩ rfl hl.1 rfl (Nat.le_of_ble_eq_true rfl) dX12_readMan_90 ⟨Nat.le_refl 0, Nat.le_refl 0⟩) X848 (fun v865 t864 H lc q862 X863 => ?_)
                  unfold po_X12_isSign at q862
                  obtain ⟨q866, q867, q868⟩ := q862
                  rw [q866] at X863
                  rw [q866] at q868
                  refine r_if_ne (tgt := 168) S dX12_readMan_93 (by decide) (fun c869 => ?_) (fun c869 => ?_)
                  ·
                    have r870 : R (1) (1) v865 := ⟨by omega, by omega⟩
                    have p871 := q868 (by omega)
                    have r872 : R (3) (3) f853 := z855 ▸ p871
                    have r873 : R (3) (3) f853 := ⟨by omega, by omega⟩
                    refine r_aload_n S dX12_readMan_168 rfl (lv_at hl 0 rfl) ?_
                    refine r_get (K := 38) (v := .ref (G.2.2.2.1 134)) S X863 (Nat.le_of_ble_eq_true rfl) rfl lk12_37_10 (fun _ => ⟨_, rfl, rfl⟩) dX12_readMan_169 ?_
                    refine r_iconst S dX12_readMan_172 (by decide) (fun v874 z875 => ?_)
                    have r876 := R_eq z875
                    refine r_dup2 S dX12_readMan_173 rfl rfl ?_
                    refine r_aldi (x := v10) (n := 125) (K := 41) S X863 (Nat.le_of_ble_eq_true rfl) rfl (fun _ => rfl) (ix_of r876 rfl) (zc' (n := 1) (by omega) z849) dX12_readMan_174 ?_
                    refine r_iconst S dX12_readMan_175 (by decide) (fun v878 z879 => ?_)
                    have r880 := R_eq z879
                    refine r_iadd S dX12_readMan_176 (fun v881 z882 => ?_)
                    obtain ⟨e883, r884⟩ := i_add (lo := 1) (hi := 10) z882 r17 r880 rfl
                    refine r_ast (n := 125) (K := 41) S X863 (Nat.le_of_ble_eq_true rfl) rfl (fun _ _ => rfl) (ix_of r876 rfl) dX12_readMan_177 (fun t885 H lc M886 X887 => ?_)
                    have I888 := Inv_mu I846 M886 (show Rg (kd 134) _ v881 from wrs (K := 41) (a := 1) (n := 1) (R_of r876 rfl) (R_of (lo := 0) (hi := 10) r884 rfl) (by decide +kernel))
                    have F889 : Fr [(131, 15), (131, 16), (131, 4), (131, 11), (131, 12), (131, 13), (131, 14), (131, 18), (131, 21)] [134] τ t885 := Fr_cell F847 M886 (by decide)
                    refine r_iconst S dX12_readMan_178 (by decide) (fun v890 z891 => ?_)
                    have r892 := R_eq z891
                    exact r_ret S hr hlk X887 ⟨I888, F889, (R_of r892 rfl), (by rw [((M886.2 131 4 (Or.inl (by decide))).trans z852)]; exact R_of r851 rfl), (by rw [((M886.2 131 11 (Or.inl (by decide))).trans z855)]; exact R_of r873 rfl), (by have h1_0 := congrArg Int32.toInt ((M886.2 131 4 (Or.inl (by decide))).trans z852); have h2_0 := congrArg Int32.toInt z2; omega), (by have h1_0 := congrArg Int32.toInt ((M886.2 131 4 (Or.inl (by decide))).trans z852); have h2_0 := congrArg Int32.toInt z2; omega)⟩ (nr_bool (R_of (lo := 0) (hi := 1) r892 rfl)) dX12_readMan_179
                  ·
                    have r893 : R (0) (0) v865 := ⟨by omega, by omega⟩
                    refine r_aload_n S dX12_readMan_96 rfl (lv_at hl 0 rfl) ?_
                    refine r_bipush S dX12_readMan_97 (by decide) (fun v894 z895 => ?_)
                    have r896 := R_eq z895
                    refine r_aload_n S dX12_readMan_99 rfl (lv_at hl 0 rfl) ?_
                    refine r_get (K := 38) (v := .ref (G.2.2.2.1 134)) S X863 (Nat.le_of_ble_eq_true rfl) rfl lk12_37_10 (fun _ => ⟨_, rfl, rfl⟩) dX12_readMan_100 ?_
                    refine r_iconst S dX12_readMan_103 (by decide) (fun v897 z898 => ?_)
                    have r899 := R_eq z898
                    refine r_aldn (n := 125) (K := 41) S X863 (Nat.le_of_ble_eq_true rfl) rfl (fun _ => rfl) (ix_of r899 rfl) dX12_readMan_104 (fun v900 z901 => ?_)
                    have r902 : R (0) (9) v900 := rds (K := 41) (a := 0) (n := 1) I846 rfl z901 (R_of r899 rfl) (by decide +kernel)
                    refine r_ki (q_V (As := [.int v894, .int v900]) (rest := []) (K := 38) (ci := 10) S X863 (c_X12_looksAt_a l G t845 I846 v894 v900 (R_of (lo := 0) (hi := 19) r896 rfl) r902) ck12_204 (Nat.le_of_ble_eq_true rfl) rfl (fun _ => ⟨_, rfl⟩) ⟨_, _, rfl⟩ ⟨Nat.le_of_ble_eq_true rfl, Nat.le_of_ble_eq_true rfl⟩ rfl hl.1 rfl (Nat.le_of_ble_eq_true rfl) dX12_readMan_105 ⟨Nat.le_refl 0, Nat.le_refl 0⟩) X863 (fun v906 t905 H lc q903 X904 => ?_)
                    unfold po_X12_looksAt_a at q903
                    obtain ⟨q907, q908, q909, q910, q911⟩ := q903
                    have F912 : Fr [(131, 15), (131, 16), (131, 4), (131, 11), (131, 12), (131, 13), (131, 14), (131, 18), (131, 21)] [134] τ t905 := Fr_call F847 q908 (by decide)
                    have e913 := congrArg Int32.toInt z855
                    have e914 := congrArg Int32.toInt ((q908 131 11 (by decide)).trans z855)
                    refine r_if_ne (tgt := 113) S dX12_readMan_108 (by decide) (fun c915 => ?_) (fun c915 => ?_)
                    ·
                      have r916 : R (1) (1) v906 := ⟨by omega, by omega⟩
                      have p917 := q910 (by omega)
                      obtain ⟨v918, z919⟩ : ∃ x, t905 131 18 = x := ⟨_, rfl⟩
                      rw [z919] at p917
                      refine r_bipush S dX12_readMan_113 (by decide) (fun v920 z921 => ?_)
                      have r922 := R_eq z921
                      refine r_bipush S dX12_readMan_115 (by decide) (fun v923 z924 => ?_)
                      have r925 := R_eq z924
                      refine r_iload_n S dX12_readMan_117 rfl (lv_at hl 1 rfl) ?_
                      refine r_imul S dX12_readMan_118 (fun v926 z927 => ?_)
                      obtain ⟨e928, r929⟩ := i_mul (lo := 0) (hi := 81) z927 r925 r17 rfl rfl
                      have e930 : v926.toInt = 9 * v10.toInt := by rw [e928, show v923.toInt = 9 by omega]
                      refine r_iadd S dX12_readMan_119 (fun v931 z932 => ?_)
                      obtain ⟨e933, r934⟩ := i_add (lo := 15) (hi := 96) z932 r922 r929 rfl
                      refine r_aload_n S dX12_readMan_120 rfl (lv_at hl 0 rfl) ?_
                      refine r_geti (K := 38) S X904 (Nat.le_of_ble_eq_true rfl) rfl lk12_193_10 (fun _ => ⟨_, rfl, rfl⟩) z919 dX12_readMan_121 ?_
                      refine r_iadd S dX12_readMan_124 (fun v935 z936 => ?_)
                      obtain ⟨e937, r938⟩ := i_add (lo := 15) (hi := 104) z936 r934 p917 rfl
                      refine r_istore_n (lv' := [(2, .int v935), (0, .ref (G.2.2.2.1 131)), (1, .int v10)]) S dX12_readMan_125 rfl hl (by decide) rfl (fun ls hl => ?_)
                      refine r_aload_n S dX12_readMan_126 rfl (lv_at hl 1 rfl) ?_
                      refine r_get (K := 38) (v := .ref (G.2.2.2.1 134)) S X904 (Nat.le_of_ble_eq_true rfl) rfl lk12_37_10 (fun _ => ⟨_, rfl, rfl⟩) dX12_readMan_127 ?_
                      refine r_iload_n S dX12_readMan_130 rfl (lv_at hl 0 rfl) ?_
                      refine r_aldn (n := 125) (K := 41) S X904 (Nat.le_of_ble_eq_true rfl) rfl (fun _ => rfl) (ix_of r938 rfl) dX12_readMan_131 (fun v939 z940 => ?_)
                      have r941 : R (-9) (9) v939 := rds (K := 41) (a := 15) (n := 90) q907 rfl z940 (R_of r938 rfl) (by decide +kernel)
                      have g942 : Rg 41 v935.toNatClampNeg v939 := rd q907 rfl z940
                      refine r_if_eq (tgt := 141) S dX12_readMan_132 (by decide) (fun c943 => ?_) (fun c943 => ?_)
                      ·
                        have r944 : R (0) (0) v939 := ⟨by omega, by omega⟩
                        refine r_aload_n S dX12_readMan_141 rfl (lv_at hl 1 rfl) ?_
                        refine r_kv (q_V (As := []) (rest := []) (K := 38) (ci := 10) S X904 (c_X12_skip l G t905 q907 ) ck12_186 (Nat.le_of_ble_eq_true rfl) rfl (fun _ => ⟨_, rfl⟩) ⟨_, _, rfl⟩ ⟨Nat.le_of_ble_eq_true rfl, Nat.le_of_ble_eq_true rfl⟩ rfl hl.1 rfl (Nat.le_of_ble_eq_true rfl) dX12_readMan_142 ⟨Nat.le_refl 0, Nat.le_refl 0⟩) X904 (fun t947 H lc q945 X946 => ?_)
                        unfold po_X12_skip at q945
                        obtain ⟨q948, q949, q950, q951, q952, q953⟩ := q945
                        have F954 : Fr [(131, 15), (131, 16), (131, 4), (131, 11), (131, 12), (131, 13), (131, 14), (131, 18), (131, 21)] [134] τ t947 := Fr_call F912 q949 (by decide)
                        obtain ⟨v955, z956⟩ : ∃ x, t947 131 4 = x := ⟨_, rfl⟩
                        rw [z956] at q950
                        obtain ⟨v957, z958⟩ : ∃ x, t947 131 11 = x := ⟨_, rfl⟩
                        rw [z958] at q951
                        have e959 := congrArg Int32.toInt ((q908 131 4 (by decide)).trans z852)
                        have e960 := congrArg Int32.toInt z956
                        have e961 := congrArg Int32.toInt ((q908 131 4 (by decide)).trans z852)
                        have e962 := congrArg Int32.toInt z956
                        have e963 := congrArg Int32.toInt ((q908 131 11 (by decide)).trans z855)
                        have e964 := congrArg Int32.toInt z958
                        refine r_aload_n S dX12_readMan_145 rfl (lv_at hl 1 rfl) ?_
                        refine r_iconst S dX12_readMan_146 (by decide) (fun v965 z966 => ?_)
                        have r967 := R_eq z966
                        refine r_ki (q_V (As := [.int v965]) (rest := []) (K := 38) (ci := 10) S X946 (c_X12_takesMind_1 l G t947 q948 v965 r967) ck12_234 (Nat.le_of_ble_eq_true rfl) rfl (fun _ => ⟨_, rfl⟩) ⟨_, _, rfl⟩ ⟨Nat.le_of_ble_eq_true rfl, Nat.le_of_ble_eq_true rfl⟩ rfl hl.1 rfl (Nat.le_of_ble_eq_true rfl) dX12_readMan_147 ⟨Nat.le_refl 0, Nat.le_refl 0⟩) X946 (fun v971 t970 H lc q968 X969 => ?_)
                        unfold po_X12_takesMind_1 at q968
                        obtain ⟨q972, q973, q974, q975, q976, q977, q978⟩ := q968
                        have F979 : Fr [(131, 15), (131, 16), (131, 4), (131, 11), (131, 12), (131, 13), (131, 14), (131, 18), (131, 21)] [134] τ t970 := Fr_call F954 q973 (by decide)
                        obtain ⟨v980, z981⟩ : ∃ x, t970 131 4 = x := ⟨_, rfl⟩
                        rw [z981] at q975
                        obtain ⟨v982, z983⟩ : ∃ x, t970 131 11 = x := ⟨_, rfl⟩
                        rw [z983] at q976
                        have e984 := congrArg Int32.toInt z956
                        have e985 := congrArg Int32.toInt z981
                        have e986 := congrArg Int32.toInt z956
                        have e987 := congrArg Int32.toInt z981
                        refine r_if_ne (tgt := 155) S dX12_readMan_150 (by decide) (fun c988 => ?_) (fun c988 => ?_)
                        ·
                          have r989 : R (1) (1) v971 := ⟨by omega, by omega⟩
                          refine r_aload_n S dX12_readMan_155 rfl (lv_at hl 1 rfl) ?_
                          refine r_get (K := 38) (v := .ref (G.2.2.2.1 134)) S X969 (Nat.le_of_ble_eq_true rfl) rfl lk12_37_10 (fun _ => ⟨_, rfl, rfl⟩) dX12_readMan_156 ?_
                          refine r_iload_n S dX12_readMan_159 rfl (lv_at hl 0 rfl) ?_
                          refine r_aload_n S dX12_readMan_160 rfl (lv_at hl 1 rfl) ?_
                          refine r_getn (K := 38) S X969 (Nat.le_of_ble_eq_true rfl) rfl lk12_215_10 (fun _ => ⟨_, rfl, rfl⟩) dX12_readMan_161 (fun v990 z991 => ?_)
                          have r992 : R (-9) (9) v990 := rd q972 rfl z991
                          refine r_ast (n := 125) (K := 41) S X969 (Nat.le_of_ble_eq_true rfl) rfl (fun _ _ => rfl) (ix_of r938 rfl) dX12_readMan_164 (fun t993 H lc M994 X995 => ?_)
                          have I996 := Inv_mu q972 M994 (show Rg (kd 134) _ v990 from wrs (K := 41) (a := 15) (n := 90) (R_of r938 rfl) (R_of (lo := -9) (hi := 9) r992 rfl) (by decide +kernel))
                          have F997 : Fr [(131, 15), (131, 16), (131, 4), (131, 11), (131, 12), (131, 13), (131, 14), (131, 18), (131, 21)] [134] τ t993 := Fr_cell F979 M994 (by decide)
                          refine r_goto (tgt := 87) S dX12_readMan_165 (by decide) ?_
                          exact ih858 t993 _ _ _ v980 v982 X995 I996 F997 ((M994.2 134 1 (Or.inr (ixne r938 rfl))).trans ((q973 134 1 (by decide)).trans ((q949 134 1 (by decide)).trans ((q908 134 1 (by decide)).trans z849)))) ((M994.2 131 4 (Or.inl (by decide))).trans z981) ⟨by omega, by omega⟩ ((M994.2 131 11 (Or.inl (by decide))).trans z983) ⟨by omega, by omega⟩ (by omega) (lv_sub hl [1, 2] rfl) (by omega)
                        ·
                          have r998 : R (0) (0) v971 := ⟨by omega, by omega⟩
                          refine r_iconst S dX12_readMan_153 (by decide) (fun v999 z1000 => ?_)
                          have r1001 := R_eq z1000
                          exact r_ret S hr hlk X969 ⟨q972, F979, (R_of r1001 rfl), (by rw [z981]; exact R_of q975 rfl), (by rw [z983]; exact R_of q976 rfl), (by have h1_0 := congrArg Int32.toInt z981; have h2_0 := congrArg Int32.toInt z2; omega), (by have h1_0 := congrArg Int32.toInt z981; have h2_0 := congrArg Int32.toInt z2; omega)⟩ (nr_bool (R_of (lo := 0) (hi := 1) r1001 rfl)) dX12_readMan_154
                      ·
                        refine r_aload_n S dX12_readMan_135 rfl (lv_at hl 1 rfl) ?_
                        refine r_iconst S dX12_readMan_136 (by decide) (fun v1002 z1003 => ?_)
                        have r1004 := R_eq z1003
                        refine r_ki (q_V (As := [.int v1002]) (rest := []) (K := 38) (ci := 10) S X904 (c_X12_bad l G t905 q907 v1002 (R_of (lo := -2147483648) (hi := 2147483647) r1004 rfl)) ck12_183 (Nat.le_of_ble_eq_true rfl) rfl (fun _ => ⟨_, rfl⟩) ⟨_, _, rfl⟩ ⟨Nat.le_of_ble_eq_true rfl, Nat.le_of_ble_eq_true rfl⟩ rfl hl.1 rfl (Nat.le_of_ble_eq_true rfl) dX12_readMan_137 ⟨Nat.le_refl 0, Nat.le_refl 0⟩) X904 (fun v1008 t1007 H lc q1005 X1006 => ?_)
                        unfold po_X12_bad at q1005
                        obtain ⟨q1009, q1010, q1011⟩ := q1005
                        have F1012 : Fr [(131, 15), (131, 16), (131, 4), (131, 11), (131, 12), (131, 13), (131, 14), (131, 18), (131, 21)] [134] τ t1007 := Fr_call F912 q1010 (by decide)
                        exact r_ret S hr hlk X1006 ⟨q1009, F1012, (R_of q1011 rfl), (by rw [((q1010 131 4 (by decide)).trans ((q908 131 4 (by decide)).trans z852))]; exact R_of r851 rfl), (by rw [((q1010 131 11 (by decide)).trans ((q908 131 11 (by decide)).trans z855))]; exact R_of r854 rfl), (by have h1_0 := congrArg Int32.toInt ((q1010 131 4 (by decide)).trans ((q908 131 4 (by decide)).trans z852)); have h2_0 := congrArg Int32.toInt z2; omega), (by have h1_0 := congrArg Int32.toInt ((q1010 131 4 (by decide)).trans ((q908 131 4 (by decide)).trans z852)); have h2_0 := congrArg Int32.toInt z2; omega)⟩ (nr_bool (R_of (lo := 0) (hi := 1) q1011 rfl)) dX12_readMan_140
                    ·
                      have r1013 : R (0) (0) v906 := ⟨by omega, by omega⟩
                      refine r_iconst S dX12_readMan_111 (by decide) (fun v1014 z1015 => ?_)
                      have r1016 := R_eq z1015
                      exact r_ret S hr hlk X904 ⟨q907, F912, (R_of r1016 rfl), (by rw [((q908 131 4 (by decide)).trans z852)]; exact R_of r851 rfl), (by rw [((q908 131 11 (by decide)).trans z855)]; exact R_of r854 rfl), (by have h1_0 := congrArg Int32.toInt ((q908 131 4 (by decide)).trans z852); have h2_0 := congrArg Int32.toInt z2; omega), (by have h1_0 := congrArg Int32.toInt ((q908 131 4 (by decide)).trans z852); have h2_0 := congrArg Int32.toInt z2; omega)⟩ (nr_bool (R_of (lo := 0) (hi := 1) r1016 rfl)) dX12_readMan_112
              exact L856 _ t444 _ _ _ v90 v92 X447 I445 F446 z448 z449 ⟨by omega, by omega⟩ z450 ⟨by omega, by omega⟩ (by omega) (lv_sub hl [0, 1] rfl) (Nat.lt_succ_self _)
            ·
              have r1017 : R (0) (8) i442 := ⟨by omega, by omega⟩
              refine r_aload_n S dX12_readMan_66 rfl (lv_at hl 0 rfl) ?_
              refine r_get (K := 38) (v := .ref (G.2.2.2.1 134)) S X447 (Nat.le_of_ble_eq_true rfl) rfl lk12_37_10 (fun _ => ⟨_, rfl, rfl⟩) dX12_readMan_67 ?_
              refine r_bipush S dX12_readMan_70 (by decide) (fun v1018 z1019 => ?_)
              have r1020 := R_eq z1019
              refine r_bipush S dX12_readMan_72 (by decide) (fun v1021 z1022 => ?_)
              have r1023 := R_eq z1022
              refine r_iload_n S dX12_readMan_74 rfl (lv_at hl 1 rfl) ?_
              refine r_imul S dX12_readMan_75 (fun v1024 z1025 => ?_)
              obtain ⟨e1026, r1027⟩ := i_mul (lo := 0) (hi := 81) z1025 r1023 r17 rfl rfl
              have e1028 : v1024.toInt = 9 * v10.toInt := by rw [e1026, show v1021.toInt = 9 by omega]
              refine r_iadd S dX12_readMan_76 (fun v1029 z1030 => ?_)
              obtain ⟨e1031, r1032⟩ := i_add (lo := 15) (hi := 96) z1030 r1020 r1027 rfl
              refine r_iload_n S dX12_readMan_77 rfl (lv_at hl 2 rfl) ?_
              refine r_iadd S dX12_readMan_78 (fun v1033 z1034 => ?_)
              obtain ⟨e1035, r1036⟩ := i_add (lo := 15) (hi := 104) z1034 r1032 r1017 rfl
              refine r_iconst S dX12_readMan_79 (by decide) (fun v1037 z1038 => ?_)
              have r1039 := R_eq z1038
              refine r_ast (n := 125) (K := 41) S X447 (Nat.le_of_ble_eq_true rfl) rfl (fun _ _ => rfl) (ix_of r1036 rfl) dX12_readMan_80 (fun t1040 H lc M1041 X1042 => ?_)
              have I1043 := Inv_mu I445 M1041 (show Rg (kd 134) _ v1037 from wrs (K := 41) (a := 15) (n := 90) (R_of r1036 rfl) (R_of (lo := -9) (hi := 9) r1039 rfl) (by decide +kernel))
              have F1044 : Fr [(131, 15), (131, 16), (131, 4), (131, 11), (131, 12), (131, 13), (131, 14), (131, 18), (131, 21)] [134] τ t1040 := Fr_cell F446 M1041 (by decide)
              refine r_iinc (k := 2) S dX12_readMan_81 hl rfl (by decide) (by decide) (fun v1045 d1046 ls z1047 z1048 hl => ?_)
              obtain ⟨e1049, r1050⟩ := i_add (lo := 1) (hi := 9) z1047 r1017 (R_eq z1048) rfl
              have hl : lv_has ls 3 [(2, .int v1045), (0, .ref (G.2.2.2.1 131)), (1, .int v10)] := hl
              refine r_goto (tgt := 60) S dX12_readMan_84 (by decide) ?_
              exact ih453 t1040 _ _ _ v1045 X1042 I1043 F1044 (R_of r1050 rfl) ((M1041.2 134 1 (Or.inr (ixne r1036 rfl))).trans z448) ((M1041.2 131 4 (Or.inl (by decide))).trans z449) ((M1041.2 131 11 (Or.inl (by decide))).trans z450) ((M1041.2 131 18 (Or.inl (by decide))).trans z451) (lv_sub hl [1, 2, 0] rfl) (by omega)
        exact L452 _ t110 _ _ _ v115 X112 I113 F114 (R_of r117 rfl) ((M111.2 134 1 (Or.inr (ixne r109 rfl))).trans ((q82 134 1 (by decide)).trans ((q50 134 1 (by decide)).trans ((q22 134 1 (by decide)).trans (zc (n := 1) (by omega) z11))))) ((M111.2 131 4 (Or.inl (by decide))).trans z91) ((M111.2 131 11 (Or.inl (by decide))).trans z93) ((M111.2 131 18 (Or.inl (by decide))).trans z102) (lv_sub hl [2, 1, 0] rfl) (Nat.lt_succ_self _)
      ·
        have r1051 : R (0) (0) v80 := ⟨by omega, by omega⟩
        refine r_iconst S dX12_readMan_44 (by decide) (fun v1052 z1053 => ?_)
        have r1054 := R_eq z1053
        exact r_ret S hr hlk X78 ⟨q81, F89, (R_of r1054 rfl), (by rw [z91]; exact R_of q85 rfl), (by rw [z93]; exact R_of q86 rfl), (by have h1_0 := congrArg Int32.toInt z91; have h2_0 := congrArg Int32.toInt z2; omega), (by have h1_0 := congrArg Int32.toInt z91; have h2_0 := congrArg Int32.toInt z2; omega)⟩ (nr_bool (R_of (lo := 0) (hi := 1) r1054 rfl)) dX12_readMan_45
  ·
    have r1055 : R (10) (10) v10 := ⟨by omega, by omega⟩
    refine r_aload_n S dX12_readMan_13 rfl (lv_at hl 1 rfl) ?_
    refine r_iconst S dX12_readMan_14 (by decide) (fun v1056 z1057 => ?_)
    have r1058 := R_eq z1057
    refine r_ki (q_V (As := [.int v1056]) (rest := []) (K := 38) (ci := 10) S X (c_X12_bad l G τ hI v1056 (R_of (lo := -2147483648) (hi := 2147483647) r1058 rfl)) ck12_183 (Nat.le_of_ble_eq_true rfl) rfl (fun _ => ⟨_, rfl⟩) ⟨_, _, rfl⟩ ⟨Nat.le_of_ble_eq_true rfl, Nat.le_of_ble_eq_true rfl⟩ rfl hl.1 rfl (Nat.le_of_ble_eq_true rfl) dX12_readMan_15 ⟨Nat.le_refl 0, Nat.le_refl 0⟩) X (fun v1062 t1061 H lc q1059 X1060 => ?_)
    unfold po_X12_bad at q1059
    obtain ⟨q1063, q1064, q1065⟩ := q1059
    have F1066 : Fr [(131, 15), (131, 16), (131, 4), (131, 11), (131, 12), (131, 13), (131, 14), (131, 18), (131, 21)] [134] τ t1061 := Fr_call Fr_rfl q1064 (by decide)
    exact r_ret S hr hlk X1060 ⟨q1063, F1066, (R_of q1065 rfl), (by rw [((q1064 131 4 (by decide)).trans z2)]; exact R_of r3 rfl), (by rw [((q1064 131 11 (by decide)).trans z5)]; exact R_of r6 rfl), (by have h1_0 := congrArg Int32.toInt ((q1064 131 4 (by decide)).trans z2); have h2_0 := congrArg Int32.toInt z2; omega), (by have h1_0 := congrArg Int32.toInt ((q1064 131 4 (by decide)).trans z2); have h2_0 := congrArg Int32.toInt z2; omega)⟩ (nr_bool (R_of (lo := 0) (hi := 1) q1065 rfl)) dX12_readMan_18
def po_X12_line (τ : Tau)   (r : Int32) (u : Tau) : Prop := Inv u ∧ Fr [(131, 15), (131, 16), (131, 4), (131, 11), (131, 12), (131, 13), (131, 14), (131, 18), (131, 20), (131, 21)] [134] τ u ∧ R (0) (1) r ∧ R (0) (940) (u 131 4) ∧ R (0) (4) (u 131 11) ∧ (τ 131 4).toInt ≤ (u 131 4).toInt ∧ (r.toInt = 1 → (τ 131 4).toInt < (u 131 4).toInt)
set_option maxHeartbeats 4000000 in
set_option maxRecDepth 100000 in
theorem c_X12_line (l : Launch) (G : Gx) (τ : Tau) (hI : Inv τ) : Ci l G yX12_line cX12_line 3 (some .boolean) 5 109 [.ref (G.2.2.2.1 131)] τ (po_X12_line τ  ) := by
  unfold Ci
  refine C_of (own := RX12) (by decide) rfl (Nat.le_of_ble_eq_true rfl) ?_
  intro p e s m below meth c ls S hr hlk X hl
  have hl : lv_has ls 3 [(0, .ref (G.2.2.2.1 131))] := hl
  obtain ⟨v1, z2⟩ : ∃ x, τ 131 4 = x := ⟨_, rfl⟩
  have r3 : R (0) (940) v1 := rd hI rfl z2
  obtain ⟨v4, z5⟩ : ∃ x, τ 131 11 = x := ⟨_, rfl⟩
  have r6 : R (0) (4) v4 := rd hI rfl z5
  refine r_aload_n S dX12_line_0 rfl (lv_at hl 0 rfl) ?_
  refine lv_ldc2 S.1.1 S.1.2.1 S.1.2.2.2.1 (S.1.2.2.2.2 _ kw29) dX12_line_1 ?_
  refine lv_topl (fun j7 _ => ?_)
  refine r_ki (q_V (As := [.long j7]) (rest := []) (K := 38) (ci := 10) S X (c_X12_isWord l G τ hI j7) ck12_208 (Nat.le_of_ble_eq_true rfl) rfl (fun _ => ⟨_, rfl⟩) ⟨_, _, rfl⟩ ⟨Nat.le_of_ble_eq_true rfl, Nat.le_of_ble_eq_true rfl⟩ rfl hl.1 rfl (Nat.le_of_ble_eq_true rfl) dX12_line_4 ⟨Nat.le_refl 0, Nat.le_refl 0⟩) X (fun v11 t10 H lc q8 X9 => ?_)
  unfold po_X12_isWord at q8
  obtain ⟨q12, q13, q14⟩ := q8
  rw [q12] at X9
  rw [q12] at q14
  refine r_if_eq (tgt := 20) S dX12_line_7 (by decide) (fun c15 => ?_) (fun c15 => ?_)
  ·
    have r16 : R (0) (0) v11 := ⟨by omega, by omega⟩
    refine r_aload_n S dX12_line_20 rfl (lv_at hl 0 rfl) ?_
    refine lv_ldc2 S.1.1 S.1.2.1 S.1.2.2.2.1 (S.1.2.2.2.2 _ kw30) dX12_line_21 ?_
    refine lv_topl (fun j17 _ => ?_)
    refine r_ki (q_V (As := [.long j17]) (rest := []) (K := 38) (ci := 10) S X9 (c_X12_isWord l G τ hI j17) ck12_208 (Nat.le_of_ble_eq_true rfl) rfl (fun _ => ⟨_, rfl⟩) ⟨_, _, rfl⟩ ⟨Nat.le_of_ble_eq_true rfl, Nat.le_of_ble_eq_true rfl⟩ rfl hl.1 rfl (Nat.le_of_ble_eq_true rfl) dX12_line_24 ⟨Nat.le_refl 0, Nat.le_refl 0⟩) X9 (fun v21 t20 H lc q18 X19 => ?_)
    unfold po_X12_isWord at q18
    obtain ⟨q22, q23, q24⟩ := q18
    rw [q22] at X19
    rw [q22] at q24
    refine r_if_eq (tgt := 40) S dX12_line_27 (by decide) (fun c25 => ?_) (fun c25 => ?_)
    ·
      have r26 : R (0) (0) v21 := ⟨by omega, by omega⟩
      refine r_aload_n S dX12_line_40 rfl (lv_at hl 0 rfl) ?_
      refine lv_ldc2 S.1.1 S.1.2.1 S.1.2.2.2.1 (S.1.2.2.2.2 _ kw31) dX12_line_41 ?_
      refine lv_topl (fun j27 _ => ?_)
      refine r_ki (q_V (As := [.long j27]) (rest := []) (K := 38) (ci := 10) S X19 (c_X12_isWord l G τ hI j27) ck12_208 (Nat.le_of_ble_eq_true rfl) rfl (fun _ => ⟨_, rfl⟩) ⟨_, _, rfl⟩ ⟨Nat.le_of_ble_eq_true rfl, Nat.le_of_ble_eq_true rfl⟩ rfl hl.1 rfl (Nat.le_of_ble_eq_true rfl) dX12_line_44 ⟨Nat.le_refl 0, Nat.le_refl 0⟩) X19 (fun v31 t30 H lc q28 X29 => ?_)
      unfold po_X12_isWord at q28
      obtain ⟨q32, q33, q34⟩ := q28
      rw [q32] at X29
      rw [q32] at q34
      refine r_if_eq (tgt := 101) S dX12_line_47 (by decide) (fun c35 => ?_) (fun c35 => ?_)
      ·
        have r36 : R (0) (0) v31 := ⟨by omega, by omega⟩
        refine r_aload_n S dX12_line_101 rfl (lv_at hl 0 rfl) ?_
        refine lv_ldc2 S.1.1 S.1.2.1 S.1.2.2.2.1 (S.1.2.2.2.2 _ kw32) dX12_line_102 ?_
        refine lv_topl (fun j37 _ => ?_)
        refine r_ki (q_V (As := [.long j37]) (rest := []) (K := 38) (ci := 10) S X29 (c_X12_isWord l G τ hI j37) ck12_208 (Nat.le_of_ble_eq_true rfl) rfl (fun _ => ⟨_, rfl⟩) ⟨_, _, rfl⟩ ⟨Nat.le_of_ble_eq_true rfl, Nat.le_of_ble_eq_true rfl⟩ rfl hl.1 rfl (Nat.le_of_ble_eq_true rfl) dX12_line_105 ⟨Nat.le_refl 0, Nat.le_refl 0⟩) X29 (fun v41 t40 H lc q38 X39 => ?_)
        unfold po_X12_isWord at q38
        obtain ⟨q42, q43, q44⟩ := q38
        rw [q42] at X39
        rw [q42] at q44
        refine r_if_eq (tgt := 116) S dX12_line_108 (by decide) (fun c45 => ?_) (fun c45 => ?_)
        ·
          have r46 : R (0) (0) v41 := ⟨by omega, by omega⟩
          refine r_aload_n S dX12_line_116 rfl (lv_at hl 0 rfl) ?_
          refine lv_ldc2 S.1.1 S.1.2.1 S.1.2.2.2.1 (S.1.2.2.2.2 _ kw33) dX12_line_117 ?_
          refine lv_topl (fun j47 _ => ?_)
          refine r_ki (q_V (As := [.long j47]) (rest := []) (K := 38) (ci := 10) S X39 (c_X12_isWord l G τ hI j47) ck12_208 (Nat.le_of_ble_eq_true rfl) rfl (fun _ => ⟨_, rfl⟩) ⟨_, _, rfl⟩ ⟨Nat.le_of_ble_eq_true rfl, Nat.le_of_ble_eq_true rfl⟩ rfl hl.1 rfl (Nat.le_of_ble_eq_true rfl) dX12_line_120 ⟨Nat.le_refl 0, Nat.le_refl 0⟩) X39 (fun v51 t50 H lc q48 X49 => ?_)
          unfold po_X12_isWord at q48
          obtain ⟨q52, q53, q54⟩ := q48
          rw [q52] at X49
          rw [q52] at q54
          refine r_istore_n (lv' := [(1, .int v51), (0, .ref (G.2.2.2.1 131))]) S dX12_line_123 rfl hl (by decide) rfl (fun ls hl => ?_)
          refine r_iload_n S dX12_line_124 rfl (lv_at hl 0 rfl) ?_
          refine r_if_ne (tgt := 144) S dX12_line_125 (by decide) (fun c55 => ?_) (fun c55 => ?_)
          ·
            have r56 : R (1) (1) v51 := ⟨by omega, by omega⟩
            have p57 := q54 (by omega)
            have r58 : R (1) (1) v4 := z5 ▸ p57
            have r59 : R (1) (1) v4 := ⟨by omega, by omega⟩
            refine r_aload_n S dX12_line_144 rfl (lv_at hl 1 rfl) ?_
            refine r_kv (q_V (As := []) (rest := []) (K := 38) (ci := 10) S X49 (c_X12_skip l G τ hI ) ck12_186 (Nat.le_of_ble_eq_true rfl) rfl (fun _ => ⟨_, rfl⟩) ⟨_, _, rfl⟩ ⟨Nat.le_of_ble_eq_true rfl, Nat.le_of_ble_eq_true rfl⟩ rfl hl.1 rfl (Nat.le_of_ble_eq_true rfl) dX12_line_145 ⟨Nat.le_refl 0, Nat.le_refl 0⟩) X49 (fun t62 H lc q60 X61 => ?_)
            unfold po_X12_skip at q60
            obtain ⟨q63, q64, q65, q66, q67, q68⟩ := q60
            have F69 : Fr [(131, 15), (131, 16), (131, 4), (131, 11), (131, 12), (131, 13), (131, 14), (131, 18), (131, 20), (131, 21)] [134] τ t62 := Fr_call Fr_rfl q64 (by decide)
            obtain ⟨v70, z71⟩ : ∃ x, t62 131 4 = x := ⟨_, rfl⟩
            rw [z71] at q65
            obtain ⟨v72, z73⟩ : ∃ x, t62 131 11 = x := ⟨_, rfl⟩
            rw [z73] at q66
            have e74 := congrArg Int32.toInt z2
            have e75 := congrArg Int32.toInt z71
            have e76 := congrArg Int32.toInt z2
            have e77 := congrArg Int32.toInt z71
            have e78 := congrArg Int32.toInt z5
            have e79 := congrArg Int32.toInt z73
            refine r_aload_n S dX12_line_148 rfl (lv_at hl 1 rfl) ?_
            refine r_bipush S dX12_line_149 (by decide) (fun v80 z81 => ?_)
            have r82 := R_eq z81
            refine r_aload_n S dX12_line_151 rfl (lv_at hl 1 rfl) ?_
            refine r_get (K := 38) (v := .ref (G.2.2.2.1 134)) S X61 (Nat.le_of_ble_eq_true rfl) rfl lk12_37_10 (fun _ => ⟨_, rfl, rfl⟩) dX12_line_152 ?_
            refine r_iconst S dX12_line_155 (by decide) (fun v83 z84 => ?_)
            have r85 := R_eq z84
            refine r_aldn (n := 125) (K := 41) S X61 (Nat.le_of_ble_eq_true rfl) rfl (fun _ => rfl) (ix_of r85 rfl) dX12_line_156 (fun v86 z87 => ?_)
            have r88 : R (0) (10) v86 := rds (K := 41) (a := 1) (n := 1) q63 rfl z87 (R_of r85 rfl) (by decide +kernel)
            refine r_ki (q_V (As := [.int v80, .int v86]) (rest := []) (K := 38) (ci := 10) S X61 (c_X12_looksAt_m l G t62 q63 v80 v86 (R_of (lo := 9) (hi := 28) r82 rfl) r88) ck12_204 (Nat.le_of_ble_eq_true rfl) rfl (fun _ => ⟨_, rfl⟩) ⟨_, _, rfl⟩ ⟨Nat.le_of_ble_eq_true rfl, Nat.le_of_ble_eq_true rfl⟩ rfl hl.1 rfl (Nat.le_of_ble_eq_true rfl) dX12_line_157 ⟨Nat.le_refl 0, Nat.le_refl 0⟩) X61 (fun v92 t91 H lc q89 X90 => ?_)
            unfold po_X12_looksAt_m at q89
            obtain ⟨q93, q94, q95, q96, q97⟩ := q89
            have F98 : Fr [(131, 15), (131, 16), (131, 4), (131, 11), (131, 12), (131, 13), (131, 14), (131, 18), (131, 20), (131, 21)] [134] τ t91 := Fr_call F69 q94 (by decide)
            have e99 := congrArg Int32.toInt z73
            have e100 := congrArg Int32.toInt ((q94 131 11 (by decide)).trans z73)
            refine r_if_ne (tgt := 165) S dX12_line_160 (by decide) (fun c101 => ?_) (fun c101 => ?_)
            ·
              have r102 : R (1) (1) v92 := ⟨by omega, by omega⟩
              have p103 := q96 (by omega)
              obtain ⟨v104, z105⟩ : ∃ x, t91 131 18 = x := ⟨_, rfl⟩
              rw [z105] at p103
              refine r_aload_n S dX12_line_165 rfl (lv_at hl 1 rfl) ?_
              refine r_geti (K := 38) S X90 (Nat.le_of_ble_eq_true rfl) rfl lk12_193_10 (fun _ => ⟨_, rfl, rfl⟩) z105 dX12_line_166 ?_
              refine r_istore_n (lv' := [(2, .int v104), (1, .int v51), (0, .ref (G.2.2.2.1 131))]) S dX12_line_169 rfl hl (by decide) rfl (fun ls hl => ?_)
              refine r_iload_n S dX12_line_170 rfl (lv_at hl 1 rfl) ?_
              refine r_if_eq (tgt := 192) S dX12_line_171 (by decide) (fun c106 => ?_) (fun c106 => ?_)
              ·
                exfalso; omega
              ·
                refine r_aload_n S dX12_line_174 rfl (lv_at hl 2 rfl) ?_
                refine r_get (K := 38) (v := .ref (G.2.2.2.1 134)) S X90 (Nat.le_of_ble_eq_true rfl) rfl lk12_37_10 (fun _ => ⟨_, rfl, rfl⟩) dX12_line_175 ?_
                refine r_bipush S dX12_line_178 (by decide) (fun v107 z108 => ?_)
                have r109 := R_eq z108
                refine r_iload_n S dX12_line_180 rfl (lv_at hl 0 rfl) ?_
                refine r_iadd S dX12_line_181 (fun v110 z111 => ?_)
                obtain ⟨e112, r113⟩ := i_add (lo := 105) (hi := 114) z111 r109 p103 rfl
                refine r_aldn (n := 125) (K := 41) S X90 (Nat.le_of_ble_eq_true rfl) rfl (fun _ => rfl) (ix_of r113 rfl) dX12_line_182 (fun v114 z115 => ?_)
                have r116 : R (0) (10) v114 := rds (K := 41) (a := 105) (n := 10) q93 rfl z115 (R_of r113 rfl) (by decide +kernel)
                have g117 : Rg 41 v110.toNatClampNeg v114 := rd q93 rfl z115
                refine r_if_le (tgt := 192) S dX12_line_183 (by decide) (fun c118 => ?_) (fun c118 => ?_)
                ·
                  have r119 : R (0) (0) v114 := ⟨by omega, by omega⟩
                  refine r_aload_n S dX12_line_192 rfl (lv_at hl 2 rfl) ?_
                  refine r_kv (q_V (As := []) (rest := []) (K := 38) (ci := 10) S X90 (c_X12_skip l G t91 q93 ) ck12_186 (Nat.le_of_ble_eq_true rfl) rfl (fun _ => ⟨_, rfl⟩) ⟨_, _, rfl⟩ ⟨Nat.le_of_ble_eq_true rfl, Nat.le_of_ble_eq_true rfl⟩ rfl hl.1 rfl (Nat.le_of_ble_eq_true rfl) dX12_line_193 ⟨Nat.le_refl 0, Nat.le_refl 0⟩) X90 (fun t122 H lc q120 X121 => ?_)
                  unfold po_X12_skip at q120
                  obtain ⟨q123, q124, q125, q126, q127, q128⟩ := q120
                  have F129 : Fr [(131, 15), (131, 16), (131, 4), (131, 11), (131, 12), (131, 13), (131, 14), (131, 18), (131, 20), (131, 21)] [134] τ t122 := Fr_call F98 q124 (by decide)
                  obtain ⟨v130, z131⟩ : ∃ x, t122 131 4 = x := ⟨_, rfl⟩
                  rw [z131] at q125
                  obtain ⟨v132, z133⟩ : ∃ x, t122 131 11 = x := ⟨_, rfl⟩
                  rw [z133] at q126
                  have e134 := congrArg Int32.toInt ((q94 131 4 (by decide)).trans z71)
                  have e135 := congrArg Int32.toInt z131
                  have e136 := congrArg Int32.toInt ((q94 131 4 (by decide)).trans z71)
                  have e137 := congrArg Int32.toInt z131
                  have e138 := congrArg Int32.toInt ((q94 131 11 (by decide)).trans z73)
                  have e139 := congrArg Int32.toInt z133
                  refine r_aload_n S dX12_line_196 rfl (lv_at hl 2 rfl) ?_
                  refine r_bipush S dX12_line_197 (by decide) (fun v140 z141 => ?_)
                  have r142 := R_eq z141
                  refine r_aload_n S dX12_line_199 rfl (lv_at hl 2 rfl) ?_
                  refine r_get (K := 38) (v := .ref (G.2.2.2.1 134)) S X121 (Nat.le_of_ble_eq_true rfl) rfl lk12_37_10 (fun _ => ⟨_, rfl, rfl⟩) dX12_line_200 ?_
                  refine r_iconst S dX12_line_203 (by decide) (fun v143 z144 => ?_)
                  have r145 := R_eq z144
                  refine r_aldi (x := v86) (n := 125) (K := 41) S X121 (Nat.le_of_ble_eq_true rfl) rfl (fun _ => rfl) (ix_of r145 rfl) (zc' (n := 1) (by omega) ((q124 134 1 (by decide)).trans ((q94 134 1 (by decide)).trans (zc (n := 1) (by omega) z87)))) dX12_line_204 ?_
                  refine r_ki (q_V (As := [.int v140, .int v86]) (rest := []) (K := 38) (ci := 10) S X121 (c_X12_looksAt_m l G t122 q123 v140 v86 (R_of (lo := 9) (hi := 28) r142 rfl) r88) ck12_204 (Nat.le_of_ble_eq_true rfl) rfl (fun _ => ⟨_, rfl⟩) ⟨_, _, rfl⟩ ⟨Nat.le_of_ble_eq_true rfl, Nat.le_of_ble_eq_true rfl⟩ rfl hl.1 rfl (Nat.le_of_ble_eq_true rfl) dX12_line_205 ⟨Nat.le_refl 0, Nat.le_refl 0⟩) X121 (fun v150 t149 H lc q147 X148 => ?_)
                  unfold po_X12_looksAt_m at q147
                  obtain ⟨q151, q152, q153, q154, q155⟩ := q147
                  have F156 : Fr [(131, 15), (131, 16), (131, 4), (131, 11), (131, 12), (131, 13), (131, 14), (131, 18), (131, 20), (131, 21)] [134] τ t149 := Fr_call F129 q152 (by decide)
                  have e157 := congrArg Int32.toInt z133
                  have e158 := congrArg Int32.toInt ((q152 131 11 (by decide)).trans z133)
                  refine r_if_ne (tgt := 213) S dX12_line_208 (by decide) (fun c159 => ?_) (fun c159 => ?_)
                  ·
                    have r160 : R (1) (1) v150 := ⟨by omega, by omega⟩
                    have p161 := q154 (by omega)
                    obtain ⟨v162, z163⟩ : ∃ x, t149 131 18 = x := ⟨_, rfl⟩
                    rw [z163] at p161
                    refine r_aload_n S dX12_line_213 rfl (lv_at hl 2 rfl) ?_
                    refine r_geti (K := 38) S X148 (Nat.le_of_ble_eq_true rfl) rfl lk12_193_10 (fun _ => ⟨_, rfl, rfl⟩) z163 dX12_line_214 ?_
                    refine r_iload_n S dX12_line_217 rfl (lv_at hl 0 rfl) ?_
                    refine r_icmp_eq (tgt := 244) S dX12_line_218 (by decide) (fun c164 => ?_) (fun c164 => ?_)
                    ·
                      refine r_aload_n S dX12_line_244 rfl (lv_at hl 2 rfl) ?_
                      refine r_iconst S dX12_line_245 (by decide) (fun v165 z166 => ?_)
                      have r167 := R_eq z166
                      refine r_ki (q_V (As := [.int v165]) (rest := []) (K := 38) (ci := 10) S X148 (c_X12_bad l G t149 q151 v165 (R_of (lo := -2147483648) (hi := 2147483647) r167 rfl)) ck12_183 (Nat.le_of_ble_eq_true rfl) rfl (fun _ => ⟨_, rfl⟩) ⟨_, _, rfl⟩ ⟨Nat.le_of_ble_eq_true rfl, Nat.le_of_ble_eq_true rfl⟩ rfl hl.1 rfl (Nat.le_of_ble_eq_true rfl) dX12_line_246 ⟨Nat.le_refl 0, Nat.le_refl 0⟩) X148 (fun v171 t170 H lc q168 X169 => ?_)
                      unfold po_X12_bad at q168
                      obtain ⟨q172, q173, q174⟩ := q168
                      have F175 : Fr [(131, 15), (131, 16), (131, 4), (131, 11), (131, 12), (131, 13), (131, 14), (131, 18), (131, 20), (131, 21)] [134] τ t170 := Fr_call F156 q173 (by decide)
                      exact r_ret S hr hlk X169 ⟨q172, F175, (R_of q174 rfl), (by rw [((q173 131 4 (by decide)).trans ((q152 131 4 (by decide)).trans z131))]; exact R_of q125 rfl), (by rw [((q173 131 11 (by decide)).trans ((q152 131 11 (by decide)).trans z133))]; exact R_of q126 rfl), (by have h1_0 := congrArg Int32.toInt ((q173 131 4 (by decide)).trans ((q152 131 4 (by decide)).trans z131)); have h2_0 := congrArg Int32.toInt z2; omega), (by have h1_0 := congrArg Int32.toInt ((q173 131 4 (by decide)).trans ((q152 131 4 (by decide)).trans z131)); have h2_0 := congrArg Int32.toInt z2; omega)⟩ (nr_bool (R_of (lo := 0) (hi := 1) q174 rfl)) dX12_line_249
                    ·
                      refine r_iload_n S dX12_line_221 rfl (lv_at hl 1 rfl) ?_
                      refine r_if_ne (tgt := 250) S dX12_line_222 (by decide) (fun c176 => ?_) (fun c176 => ?_)
                      ·
                        refine r_iload_n S dX12_line_250 rfl (lv_at hl 1 rfl) ?_
                        refine r_if_eq (tgt := 272) S dX12_line_251 (by decide) (fun c177 => ?_) (fun c177 => ?_)
                        ·
                          exfalso; omega
                        ·
                          refine r_aload_n S dX12_line_254 rfl (lv_at hl 2 rfl) ?_
                          refine r_get (K := 38) (v := .ref (G.2.2.2.1 134)) S X148 (Nat.le_of_ble_eq_true rfl) rfl lk12_37_10 (fun _ => ⟨_, rfl, rfl⟩) dX12_line_255 ?_
                          refine r_bipush S dX12_line_258 (by decide) (fun v178 z179 => ?_)
                          have r180 := R_eq z179
                          refine r_iload_n S dX12_line_260 rfl (lv_at hl 0 rfl) ?_
                          refine r_iadd S dX12_line_261 (fun v181 z182 => ?_)
                          obtain ⟨e183, r184⟩ := i_add (lo := 105) (hi := 114) z182 r180 p103 rfl
                          refine r_aload_n S dX12_line_262 rfl (lv_at hl 2 rfl) ?_
                          refine r_geti (K := 38) S X148 (Nat.le_of_ble_eq_true rfl) rfl lk12_193_10 (fun _ => ⟨_, rfl, rfl⟩) z163 dX12_line_263 ?_
                          refine r_iconst S dX12_line_266 (by decide) (fun v185 z186 => ?_)
                          have r187 := R_eq z186
                          refine r_iadd S dX12_line_267 (fun v188 z189 => ?_)
                          obtain ⟨e190, r191⟩ := i_add (lo := 1) (hi := 10) z189 p161 r187 rfl
                          refine r_ast (n := 125) (K := 41) S X148 (Nat.le_of_ble_eq_true rfl) rfl (fun _ _ => rfl) (ix_of r184 rfl) dX12_line_268 (fun t192 H lc M193 X194 => ?_)
                          have I195 := Inv_mu q151 M193 (show Rg (kd 134) _ v188 from wrs (K := 41) (a := 105) (n := 10) (R_of r184 rfl) (R_of (lo := 0) (hi := 10) r191 rfl) (by decide +kernel))
                          have F196 : Fr [(131, 15), (131, 16), (131, 4), (131, 11), (131, 12), (131, 13), (131, 14), (131, 18), (131, 20), (131, 21)] [134] τ t192 := Fr_cell F156 M193 (by decide)
                          refine r_goto (tgt := 318) S dX12_line_269 (by decide) ?_
                          refine r_aload_n S dX12_line_318 rfl (lv_at hl 2 rfl) ?_
                          refine r_kv (q_V (As := []) (rest := []) (K := 38) (ci := 10) S X194 (c_X12_skip l G t192 I195 ) ck12_186 (Nat.le_of_ble_eq_true rfl) rfl (fun _ => ⟨_, rfl⟩) ⟨_, _, rfl⟩ ⟨Nat.le_of_ble_eq_true rfl, Nat.le_of_ble_eq_true rfl⟩ rfl hl.1 rfl (Nat.le_of_ble_eq_true rfl) dX12_line_319 ⟨Nat.le_refl 0, Nat.le_refl 0⟩) X194 (fun t199 H lc q197 X198 => ?_)
                          unfold po_X12_skip at q197
                          obtain ⟨q200, q201, q202, q203, q204, q205⟩ := q197
                          have F206 : Fr [(131, 15), (131, 16), (131, 4), (131, 11), (131, 12), (131, 13), (131, 14), (131, 18), (131, 20), (131, 21)] [134] τ t199 := Fr_call F196 q201 (by decide)
                          obtain ⟨v207, z208⟩ : ∃ x, t199 131 4 = x := ⟨_, rfl⟩
                          rw [z208] at q202
                          obtain ⟨v209, z210⟩ : ∃ x, t199 131 11 = x := ⟨_, rfl⟩
                          rw [z210] at q203
                          have e211 := congrArg Int32.toInt ((M193.2 131 4 (Or.inl (by decide))).trans ((q152 131 4 (by decide)).trans z131))
                          have e212 := congrArg Int32.toInt z208
                          have e213 := congrArg Int32.toInt ((M193.2 131 4 (Or.inl (by decide))).trans ((q152 131 4 (by decide)).trans z131))
                          have e214 := congrArg Int32.toInt z208
                          have e215 := congrArg Int32.toInt ((M193.2 131 11 (Or.inl (by decide))).trans ((q152 131 11 (by decide)).trans z133))
                          have e216 := congrArg Int32.toInt z210
                          refine r_iconst S dX12_line_322 (by decide) (fun v217 z218 => ?_)
                          have r219 := R_eq z218
                          exact r_ret S hr hlk X198 ⟨q200, F206, (R_of r219 rfl), (by rw [z208]; exact R_of q202 rfl), (by rw [z210]; exact R_of q203 rfl), (by have h1_0 := congrArg Int32.toInt z208; have h2_0 := congrArg Int32.toInt z2; omega), (by have h1_0 := congrArg Int32.toInt z208; have h2_0 := congrArg Int32.toInt z2; omega)⟩ (nr_bool (R_of (lo := 0) (hi := 1) r219 rfl)) dX12_line_323
                      ·
                        exfalso; omega
                  ·
                    have r220 : R (0) (0) v150 := ⟨by omega, by omega⟩
                    refine r_iconst S dX12_line_211 (by decide) (fun v221 z222 => ?_)
                    have r223 := R_eq z222
                    exact r_ret S hr hlk X148 ⟨q151, F156, (R_of r223 rfl), (by rw [((q152 131 4 (by decide)).trans z131)]; exact R_of q125 rfl), (by rw [((q152 131 11 (by decide)).trans z133)]; exact R_of q126 rfl), (by have h1_0 := congrArg Int32.toInt ((q152 131 4 (by decide)).trans z131); have h2_0 := congrArg Int32.toInt z2; omega), (by have h1_0 := congrArg Int32.toInt ((q152 131 4 (by decide)).trans z131); have h2_0 := congrArg Int32.toInt z2; omega)⟩ (nr_bool (R_of (lo := 0) (hi := 1) r223 rfl)) dX12_line_212
                ·
                  have r224 : R (1) (10) v114 := ⟨by omega, by omega⟩
                  refine r_aload_n S dX12_line_186 rfl (lv_at hl 2 rfl) ?_
                  refine r_iconst S dX12_line_187 (by decide) (fun v225 z226 => ?_)
                  have r227 := R_eq z226
                  refine r_ki (q_V (As := [.int v225]) (rest := []) (K := 38) (ci := 10) S X90 (c_X12_bad l G t91 q93 v225 (R_of (lo := -2147483648) (hi := 2147483647) r227 rfl)) ck12_183 (Nat.le_of_ble_eq_true rfl) rfl (fun _ => ⟨_, rfl⟩) ⟨_, _, rfl⟩ ⟨Nat.le_of_ble_eq_true rfl, Nat.le_of_ble_eq_true rfl⟩ rfl hl.1 rfl (Nat.le_of_ble_eq_true rfl) dX12_line_188 ⟨Nat.le_refl 0, Nat.le_refl 0⟩) X90 (fun v231 t230 H lc q228 X229 => ?_)
                  unfold po_X12_bad at q228
                  obtain ⟨q232, q233, q234⟩ := q228
                  have F235 : Fr [(131, 15), (131, 16), (131, 4), (131, 11), (131, 12), (131, 13), (131, 14), (131, 18), (131, 20), (131, 21)] [134] τ t230 := Fr_call F98 q233 (by decide)
                  exact r_ret S hr hlk X229 ⟨q232, F235, (R_of q234 rfl), (by rw [((q233 131 4 (by decide)).trans ((q94 131 4 (by decide)).trans z71))]; exact R_of q65 rfl), (by rw [((q233 131 11 (by decide)).trans ((q94 131 11 (by decide)).trans z73))]; exact R_of q66 rfl), (by have h1_0 := congrArg Int32.toInt ((q233 131 4 (by decide)).trans ((q94 131 4 (by decide)).trans z71)); have h2_0 := congrArg Int32.toInt z2; omega), (by have h1_0 := congrArg Int32.toInt ((q233 131 4 (by decide)).trans ((q94 131 4 (by decide)).trans z71)); have h2_0 := congrArg Int32.toInt z2; omega)⟩ (nr_bool (R_of (lo := 0) (hi := 1) q234 rfl)) dX12_line_191
            ·
              have r236 : R (0) (0) v92 := ⟨by omega, by omega⟩
              refine r_iconst S dX12_line_163 (by decide) (fun v237 z238 => ?_)
              have r239 := R_eq z238
              exact r_ret S hr hlk X90 ⟨q93, F98, (R_of r239 rfl), (by rw [((q94 131 4 (by decide)).trans z71)]; exact R_of q65 rfl), (by rw [((q94 131 11 (by decide)).trans z73)]; exact R_of q66 rfl), (by have h1_0 := congrArg Int32.toInt ((q94 131 4 (by decide)).trans z71); have h2_0 := congrArg Int32.toInt z2; omega), (by have h1_0 := congrArg Int32.toInt ((q94 131 4 (by decide)).trans z71); have h2_0 := congrArg Int32.toInt z2; omega)⟩ (nr_bool (R_of (lo := 0) (hi := 1) r239 rfl)) dX12_line_164
          ·
            have r240 : R (0) (0) v51 := ⟨by omega, by omega⟩
            refine r_aload_n S dX12_line_128 rfl (lv_at hl 1 rfl) ?_
            refine lv_ldc2 S.1.1 S.1.2.1 S.1.2.2.2.1 (S.1.2.2.2.2 _ kw34) dX12_line_129 ?_
            refine lv_topl (fun j241 _ => ?_)
            refine r_ki (q_V (As := [.long j241]) (rest := []) (K := 38) (ci := 10) S X49 (c_X12_isWord l G τ hI j241) ck12_208 (Nat.le_of_ble_eq_true rfl) rfl (fun _ => ⟨_, rfl⟩) ⟨_, _, rfl⟩ ⟨Nat.le_of_ble_eq_true rfl, Nat.le_of_ble_eq_true rfl⟩ rfl hl.1 rfl (Nat.le_of_ble_eq_true rfl) dX12_line_132 ⟨Nat.le_refl 0, Nat.le_refl 0⟩) X49 (fun v245 t244 H lc q242 X243 => ?_)
            unfold po_X12_isWord at q242
            obtain ⟨q246, q247, q248⟩ := q242
            rw [q246] at X243
            rw [q246] at q248
            refine r_if_ne (tgt := 144) S dX12_line_135 (by decide) (fun c249 => ?_) (fun c249 => ?_)
            ·
              have r250 : R (1) (1) v245 := ⟨by omega, by omega⟩
              have p251 := q248 (by omega)
              have r252 : R (1) (1) v4 := z5 ▸ p251
              have r253 : R (1) (1) v4 := ⟨by omega, by omega⟩
              refine r_aload_n S dX12_line_144 rfl (lv_at hl 1 rfl) ?_
              refine r_kv (q_V (As := []) (rest := []) (K := 38) (ci := 10) S X243 (c_X12_skip l G τ hI ) ck12_186 (Nat.le_of_ble_eq_true rfl) rfl (fun _ => ⟨_, rfl⟩) ⟨_, _, rfl⟩ ⟨Nat.le_of_ble_eq_true rfl, Nat.le_of_ble_eq_true rfl⟩ rfl hl.1 rfl (Nat.le_of_ble_eq_true rfl) dX12_line_145 ⟨Nat.le_refl 0, Nat.le_refl 0⟩) X243 (fun t256 H lc q254 X255 => ?_)
              unfold po_X12_skip at q254
              obtain ⟨q257, q258, q259, q260, q261, q262⟩ := q254
              have F263 : Fr [(131, 15), (131, 16), (131, 4), (131, 11), (131, 12), (131, 13), (131, 14), (131, 18), (131, 20), (131, 21)] [134] τ t256 := Fr_call Fr_rfl q258 (by decide)
              obtain ⟨v264, z265⟩ : ∃ x, t256 131 4 = x := ⟨_, rfl⟩
              rw [z265] at q259
              obtain ⟨v266, z267⟩ : ∃ x, t256 131 11 = x := ⟨_, rfl⟩
              rw [z267] at q260
              have e268 := congrArg Int32.toInt z2
              have e269 := congrArg Int32.toInt z265
              have e270 := congrArg Int32.toInt z2
              have e271 := congrArg Int32.toInt z265
              have e272 := congrArg Int32.toInt z5
              have e273 := congrArg Int32.toInt z267
              refine r_aload_n S dX12_line_148 rfl (lv_at hl 1 rfl) ?_
              refine r_bipush S dX12_line_149 (by decide) (fun v274 z275 => ?_)
              have r276 := R_eq z275
              refine r_aload_n S dX12_line_151 rfl (lv_at hl 1 rfl) ?_
              refine r_get (K := 38) (v := .ref (G.2.2.2.1 134)) S X255 (Nat.le_of_ble_eq_true rfl) rfl lk12_37_10 (fun _ => ⟨_, rfl, rfl⟩) dX12_line_152 ?_
              refine r_iconst S dX12_line_155 (by decide) (fun v277 z278 => ?_)
              have r279 := R_eq z278
              refine r_aldn (n := 125) (K := 41) S X255 (Nat.le_of_ble_eq_true rfl) rfl (fun _ => rfl) (ix_of r279 rfl) dX12_line_156 (fun v280 z281 => ?_)
              have r282 : R (0) (10) v280 := rds (K := 41) (a := 1) (n := 1) q257 rfl z281 (R_of r279 rfl) (by decide +kernel)
              refine r_ki (q_V (As := [.int v274, .int v280]) (rest := []) (K := 38) (ci := 10) S X255 (c_X12_looksAt_m l G t256 q257 v274 v280 (R_of (lo := 9) (hi := 28) r276 rfl) r282) ck12_204 (Nat.le_of_ble_eq_true rfl) rfl (fun _ => ⟨_, rfl⟩) ⟨_, _, rfl⟩ ⟨Nat.le_of_ble_eq_true rfl, Nat.le_of_ble_eq_true rfl⟩ rfl hl.1 rfl (Nat.le_of_ble_eq_true rfl) dX12_line_157 ⟨Nat.le_refl 0, Nat.le_refl 0⟩) X255 (fun v286 t285 H lc q283 X284 => ?_)
              unfold po_X12_looksAt_m at q283
              obtain ⟨q287, q288, q289, q290, q291⟩ := q283
              have F292 : Fr [(131, 15), (131, 16), (131, 4), (131, 11), (131, 12), (131, 13), (131, 14), (131, 18), (131, 20), (131, 21)] [134] τ t285 := Fr_call F263 q288 (by decide)
              have e293 := congrArg Int32.toInt z267
              have e294 := congrArg Int32.toInt ((q288 131 11 (by decide)).trans z267)
              refine r_if_ne (tgt := 165) S dX12_line_160 (by decide) (fun c295 => ?_) (fun c295 => ?_)
              ·
                have r296 : R (1) (1) v286 := ⟨by omega, by omega⟩
                have p297 := q290 (by omega)
                obtain ⟨v298, z299⟩ : ∃ x, t285 131 18 = x := ⟨_, rfl⟩
                rw [z299] at p297
                refine r_aload_n S dX12_line_165 rfl (lv_at hl 1 rfl) ?_
                refine r_geti (K := 38) S X284 (Nat.le_of_ble_eq_true rfl) rfl lk12_193_10 (fun _ => ⟨_, rfl, rfl⟩) z299 dX12_line_166 ?_
                refine r_istore_n (lv' := [(2, .int v298), (1, .int v51), (0, .ref (G.2.2.2.1 131))]) S dX12_line_169 rfl hl (by decide) rfl (fun ls hl => ?_)
                refine r_iload_n S dX12_line_170 rfl (lv_at hl 1 rfl) ?_
                refine r_if_eq (tgt := 192) S dX12_line_171 (by decide) (fun c300 => ?_) (fun c300 => ?_)
                ·
                  refine r_aload_n S dX12_line_192 rfl (lv_at hl 2 rfl) ?_
                  refine r_kv (q_V (As := []) (rest := []) (K := 38) (ci := 10) S X284 (c_X12_skip l G t285 q287 ) ck12_186 (Nat.le_of_ble_eq_true rfl) rfl (fun _ => ⟨_, rfl⟩) ⟨_, _, rfl⟩ ⟨Nat.le_of_ble_eq_true rfl, Nat.le_of_ble_eq_true rfl⟩ rfl hl.1 rfl (Nat.le_of_ble_eq_true rfl) dX12_line_193 ⟨Nat.le_refl 0, Nat.le_refl 0⟩) X284 (fun t303 H lc q301 X302 => ?_)
                  unfold po_X12_skip at q301
                  obtain ⟨q304, q305, q306, q307, q308, q309⟩ := q301
                  have F310 : Fr [(131, 15), (131, 16), (131, 4), (131, 11), (131, 12), (131, 13), (131, 14), (131, 18), (131, 20), (131, 21)] [134] τ t303 := Fr_call F292 q305 (by decide)
                  obtain ⟨v311, z312⟩ : ∃ x, t303 131 4 = x := ⟨_, rfl⟩
                  rw [z312] at q306
                  obtain ⟨v313, z314⟩ : ∃ x, t303 131 11 = x := ⟨_, rfl⟩
                  rw [z314] at q307
                  have e315 := congrArg Int32.toInt ((q288 131 4 (by decide)).trans z265)
                  have e316 := congrArg Int32.toInt z312
                  have e317 := congrArg Int32.toInt ((q288 131 4 (by decide)).trans z265)
                  have e318 := congrArg Int32.toInt z312
                  have e319 := congrArg Int32.toInt ((q288 131 11 (by decide)).trans z267)
                  have e320 := congrArg Int32.toInt z314
                  refine r_aload_n S dX12_line_196 rfl (lv_at hl 2 rfl) ?_
                  refine r_bipush S dX12_line_197 (by decide) (fun v321 z322 => ?_)
                  have r323 := R_eq z322
                  refine r_aload_n S dX12_line_199 rfl (lv_at hl 2 rfl) ?_
                  refine r_get (K := 38) (v := .ref (G.2.2.2.1 134)) S X302 (Nat.le_of_ble_eq_true rfl) rfl lk12_37_10 (fun _ => ⟨_, rfl, rfl⟩) dX12_line_200 ?_
                  refine r_iconst S dX12_line_203 (by decide) (fun v324 z325 => ?_)
                  have r326 := R_eq z325
                  refine r_aldi (x := v280) (n := 125) (K := 41) S X302 (Nat.le_of_ble_eq_true rfl) rfl (fun _ => rfl) (ix_of r326 rfl) (zc' (n := 1) (by omega) ((q305 134 1 (by decide)).trans ((q288 134 1 (by decide)).trans (zc (n := 1) (by omega) z281)))) dX12_line_204 ?_
                  refine r_ki (q_V (As := [.int v321, .int v280]) (rest := []) (K := 38) (ci := 10) S X302 (c_X12_looksAt_m l G t303 q304 v321 v280 (R_of (lo := 9) (hi := 28) r323 rfl) r282) ck12_204 (Nat.le_of_ble_eq_true rfl) rfl (fun _ => ⟨_, rfl⟩) ⟨_, _, rfl⟩ ⟨Nat.le_of_ble_eq_true rfl, Nat.le_of_ble_eq_true rfl⟩ rfl hl.1 rfl (Nat.le_of_ble_eq_true rfl) dX12_line_205 ⟨Nat.le_refl 0, Nat.le_refl 0⟩) X302 (fun v331 t330 H lc q328 X329 => ?_)
                  unfold po_X12_looksAt_m at q328
                  obtain ⟨q332, q333, q334, q335, q336⟩ := q328
                  have F337 : Fr [(131, 15), (131, 16), (131, 4), (131, 11), (131, 12), (131, 13), (131, 14), (131, 18), (131, 20), (131, 21)] [134] τ t330 := Fr_call F310 q333 (by decide)
                  have e338 := congrArg Int32.toInt z314
                  have e339 := congrArg Int32.toInt ((q333 131 11 (by decide)).trans z314)
                  refine r_if_ne (tgt := 213) S dX12_line_208 (by decide) (fun c340 => ?_) (fun c340 => ?_)
                  ·
                    have r341 : R (1) (1) v331 := ⟨by omega, by omega⟩
                    have p342 := q335 (by omega)
                    obtain ⟨v343, z344⟩ : ∃ x, t330 131 18 = x := ⟨_, rfl⟩
                    rw [z344] at p342
                    refine r_aload_n S dX12_line_213 rfl (lv_at hl 2 rfl) ?_
                    refine r_geti (K := 38) S X329 (Nat.le_of_ble_eq_true rfl) rfl lk12_193_10 (fun _ => ⟨_, rfl, rfl⟩) z344 dX12_line_214 ?_
                    refine r_iload_n S dX12_line_217 rfl (lv_at hl 0 rfl) ?_
                    refine r_icmp_eq (tgt := 244) S dX12_line_218 (by decide) (fun c345 => ?_) (fun c345 => ?_)
                    ·
                      refine r_aload_n S dX12_line_244 rfl (lv_at hl 2 rfl) ?_
                      refine r_iconst S dX12_line_245 (by decide) (fun v346 z347 => ?_)
                      have r348 := R_eq z347
                      refine r_ki (q_V (As := [.int v346]) (rest := []) (K := 38) (ci := 10) S X329 (c_X12_bad l G t330 q332 v346 (R_of (lo := -2147483648) (hi := 2147483647) r348 rfl)) ck12_183 (Nat.le_of_ble_eq_true rfl) rfl (fun _ => ⟨_, rfl⟩) ⟨_, _, rfl⟩ ⟨Nat.le_of_ble_eq_true rfl, Nat.le_of_ble_eq_true rfl⟩ rfl hl.1 rfl (Nat.le_of_ble_eq_true rfl) dX12_line_246 ⟨Nat.le_refl 0, Nat.le_refl 0⟩) X329 (fun v352 t351 H lc q349 X350 => ?_)
                      unfold po_X12_bad at q349
                      obtain ⟨q353, q354, q355⟩ := q349
                      have F356 : Fr [(131, 15), (131, 16), (131, 4), (131, 11), (131, 12), (131, 13), (131, 14), (131, 18), (131, 20), (131, 21)] [134] τ t351 := Fr_call F337 q354 (by decide)
                      exact r_ret S hr hlk X350 ⟨q353, F356, (R_of q355 rfl), (by rw [((q354 131 4 (by decide)).trans ((q333 131 4 (by decide)).trans z312))]; exact R_of q306 rfl), (by rw [((q354 131 11 (by decide)).trans ((q333 131 11 (by decide)).trans z314))]; exact R_of q307 rfl), (by have h1_0 := congrArg Int32.toInt ((q354 131 4 (by decide)).trans ((q333 131 4 (by decide)).trans z312)); have h2_0 := congrArg Int32.toInt z2; omega), (by have h1_0 := congrArg Int32.toInt ((q354 131 4 (by decide)).trans ((q333 131 4 (by decide)).trans z312)); have h2_0 := congrArg Int32.toInt z2; omega)⟩ (nr_bool (R_of (lo := 0) (hi := 1) q355 rfl)) dX12_line_249
                    ·
                      refine r_iload_n S dX12_line_221 rfl (lv_at hl 1 rfl) ?_
                      refine r_if_ne (tgt := 250) S dX12_line_222 (by decide) (fun c357 => ?_) (fun c357 => ?_)
                      ·
                        exfalso; omega
                      ·
                        refine r_aload_n S dX12_line_225 rfl (lv_at hl 2 rfl) ?_
                        refine r_get (K := 38) (v := .ref (G.2.2.2.1 134)) S X329 (Nat.le_of_ble_eq_true rfl) rfl lk12_37_10 (fun _ => ⟨_, rfl, rfl⟩) dX12_line_226 ?_
                        refine r_bipush S dX12_line_229 (by decide) (fun v358 z359 => ?_)
                        have r360 := R_eq z359
                        refine r_iload_n S dX12_line_231 rfl (lv_at hl 0 rfl) ?_
                        refine r_iadd S dX12_line_232 (fun v361 z362 => ?_)
                        obtain ⟨e363, r364⟩ := i_add (lo := 115) (hi := 124) z362 r360 p297 rfl
                        refine r_aldn (n := 125) (K := 41) S X329 (Nat.le_of_ble_eq_true rfl) rfl (fun _ => rfl) (ix_of r364 rfl) dX12_line_233 (fun v365 z366 => ?_)
                        have r367 : R (0) (1023) v365 := rds (K := 41) (a := 115) (n := 10) q332 rfl z366 (R_of r364 rfl) (by decide +kernel)
                        have g368 : Rg 41 v361.toNatClampNeg v365 := rd q332 rfl z366
                        refine r_aload_n S dX12_line_234 rfl (lv_at hl 2 rfl) ?_
                        refine r_geti (K := 38) S X329 (Nat.le_of_ble_eq_true rfl) rfl lk12_193_10 (fun _ => ⟨_, rfl, rfl⟩) z344 dX12_line_235 ?_
                        refine r_ki (q_S (As := [.int v365, .int v343]) (rest := []) S X329 (c_X12_bitOf l G t330 q332 v365 v343 (R_of (lo := -2147483648) (hi := 2147483647) r367 rfl) (R_of (lo := -2147483648) (hi := 2147483647) p342 rfl)) ck12_221 ⟨Nat.le_of_ble_eq_true rfl, Nat.le_of_ble_eq_true rfl⟩ rfl hl.1 rfl (Nat.le_of_ble_eq_true rfl) dX12_line_238 ⟨Nat.le_refl 0, Nat.le_refl 0⟩) X329 (fun v372 t371 H lc q369 X370 => ?_)
                        unfold po_X12_bitOf at q369
                        obtain ⟨q373, q374⟩ := q369
                        rw [q373] at X370
                        refine r_if_eq (tgt := 250) S dX12_line_241 (by decide) (fun c375 => ?_) (fun c375 => ?_)
                        ·
                          have r376 : R (0) (0) v372 := ⟨by omega, by omega⟩
                          refine r_iload_n S dX12_line_250 rfl (lv_at hl 1 rfl) ?_
                          refine r_if_eq (tgt := 272) S dX12_line_251 (by decide) (fun c377 => ?_) (fun c377 => ?_)
                          ·
                            refine r_aload_n S dX12_line_272 rfl (lv_at hl 2 rfl) ?_
                            refine r_get (K := 38) (v := .ref (G.2.2.2.1 134)) S X370 (Nat.le_of_ble_eq_true rfl) rfl lk12_37_10 (fun _ => ⟨_, rfl, rfl⟩) dX12_line_273 ?_
                            refine r_bipush S dX12_line_276 (by decide) (fun v378 z379 => ?_)
                            have r380 := R_eq z379
                            refine r_iload_n S dX12_line_278 rfl (lv_at hl 0 rfl) ?_
                            refine r_iadd S dX12_line_279 (fun v381 z382 => ?_)
                            obtain ⟨e383, r384⟩ := i_add (lo := 115) (hi := 124) z382 r380 p297 rfl
                            refine r_dup2 S dX12_line_280 rfl rfl ?_
                            refine r_aldn (n := 125) (K := 41) S X370 (Nat.le_of_ble_eq_true rfl) rfl (fun _ => rfl) (ix_of r384 rfl) dX12_line_281 (fun v385 z386 => ?_)
                            have r387 : R (0) (1023) v385 := rds (K := 41) (a := 115) (n := 10) q332 rfl z386 (R_of r384 rfl) (by decide +kernel)
                            have g388 : Rg 41 v381.toNatClampNeg v385 := rd q332 rfl z386
                            refine r_iconst S dX12_line_282 (by decide) (fun v389 z390 => ?_)
                            have r391 := R_eq z390
                            refine r_aload_n S dX12_line_283 rfl (lv_at hl 2 rfl) ?_
                            refine r_geti (K := 38) S X370 (Nat.le_of_ble_eq_true rfl) rfl lk12_193_10 (fun _ => ⟨_, rfl, rfl⟩) z344 dX12_line_284 ?_
                            refine r_ishl S dX12_line_287 (fun v392 z393 => ?_)
                            have r395 : R (1) (512) v392 := i_shl z393 r391 p342 rfl
                            refine r_ior S dX12_line_288 (fun v396 z397 => ?_)
                            have r399 : R (0) (1023) v396 := i_or 10 z397 r387 r395 rfl
                            refine r_ast (n := 125) (K := 41) S X370 (Nat.le_of_ble_eq_true rfl) rfl (fun _ _ => rfl) (ix_of r384 rfl) dX12_line_289 (fun t400 H lc M401 X402 => ?_)
                            have I403 := Inv_mu q332 M401 (show Rg (kd 134) _ v396 from wrs (K := 41) (a := 115) (n := 10) (R_of r384 rfl) (R_of (lo := 0) (hi := 1023) r399 rfl) (by decide +kernel))
                            have F404 : Fr [(131, 15), (131, 16), (131, 4), (131, 11), (131, 12), (131, 13), (131, 14), (131, 18), (131, 20), (131, 21)] [134] τ t400 := Fr_cell F337 M401 (by decide)
                            refine r_aload_n S dX12_line_290 rfl (lv_at hl 2 rfl) ?_
                            refine r_get (K := 38) (v := .ref (G.2.2.2.1 134)) S X402 (Nat.le_of_ble_eq_true rfl) rfl lk12_37_10 (fun _ => ⟨_, rfl, rfl⟩) dX12_line_291 ?_
                            refine r_bipush S dX12_line_294 (by decide) (fun v405 z406 => ?_)
                            have r407 := R_eq z406
                            refine r_aload_n S dX12_line_296 rfl (lv_at hl 2 rfl) ?_
                            refine r_geti (K := 38) S X402 (Nat.le_of_ble_eq_true rfl) rfl lk12_193_10 (fun _ => ⟨_, rfl, rfl⟩) ((M401.2 131 18 (Or.inl (by decide))).trans z344) dX12_line_297 ?_
                            refine r_iadd S dX12_line_300 (fun v408 z409 => ?_)
                            obtain ⟨e410, r411⟩ := i_add (lo := 115) (hi := 124) z409 r407 p342 rfl
                            refine r_dup2 S dX12_line_301 rfl rfl ?_
                            refine r_aldn (n := 125) (K := 41) S X402 (Nat.le_of_ble_eq_true rfl) rfl (fun _ => rfl) (ix_of r411 rfl) dX12_line_302 (fun v412 z413 => ?_)
                            have r414 : R (0) (1023) v412 := rds (K := 41) (a := 115) (n := 10) I403 rfl z413 (R_of r411 rfl) (by decide +kernel)
                            have g415 : Rg 41 v408.toNatClampNeg v412 := rd I403 rfl z413
                            refine r_iconst S dX12_line_303 (by decide) (fun v416 z417 => ?_)
                            have r418 := R_eq z417
                            refine r_iload_n S dX12_line_304 rfl (lv_at hl 0 rfl) ?_
                            refine r_ishl S dX12_line_305 (fun v419 z420 => ?_)
                            have r422 : R (1) (512) v419 := i_shl z420 r418 p297 rfl
                            refine r_ior S dX12_line_306 (fun v423 z424 => ?_)
                            have r426 : R (0) (1023) v423 := i_or 10 z424 r414 r422 rfl
                            refine r_ast (n := 125) (K := 41) S X402 (Nat.le_of_ble_eq_true rfl) rfl (fun _ _ => rfl) (ix_of r411 rfl) dX12_line_307 (fun t427 H lc M428 X429 => ?_)
                            have I430 := Inv_mu I403 M428 (show Rg (kd 134) _ v423 from wrs (K := 41) (a := 115) (n := 10) (R_of r411 rfl) (R_of (lo := 0) (hi := 1023) r426 rfl) (by decide +kernel))
                            have F431 : Fr [(131, 15), (131, 16), (131, 4), (131, 11), (131, 12), (131, 13), (131, 14), (131, 18), (131, 20), (131, 21)] [134] τ t427 := Fr_cell F404 M428 (by decide)
                            refine r_aload_n S dX12_line_308 rfl (lv_at hl 2 rfl) ?_
                            refine r_get (K := 38) (v := .ref (G.2.2.2.1 134)) S X429 (Nat.le_of_ble_eq_true rfl) rfl lk12_37_10 (fun _ => ⟨_, rfl, rfl⟩) dX12_line_309 ?_
                            refine r_iconst S dX12_line_312 (by decide) (fun v432 z433 => ?_)
                            have r434 := R_eq z433
                            refine r_dup2 S dX12_line_313 rfl rfl ?_
                            refine r_aldn (n := 125) (K := 41) S X429 (Nat.le_of_ble_eq_true rfl) rfl (fun _ => rfl) (ix_of r434 rfl) dX12_line_314 (fun v435 z436 => ?_)
                            have r438 := R_any v435
                            refine r_iconst S dX12_line_315 (by decide) (fun v439 z440 => ?_)
                            have r441 := R_eq z440
                            refine r_iadd S dX12_line_316 (fun v442 z443 => ?_)
                            have r444 := R_any v442
                            refine r_ast (n := 125) (K := 41) S X429 (Nat.le_of_ble_eq_true rfl) rfl (fun _ _ => rfl) (ix_of r434 rfl) dX12_line_317 (fun t445 H lc M446 X447 => ?_)
                            have I448 := Inv_mu I430 M446 (show Rg (kd 134) _ v442 from wrs (K := 41) (a := 4) (n := 1) (R_of r434 rfl) (R_of (lo := -2147483648) (hi := 2147483647) r444 rfl) (by decide +kernel))
                            have F449 : Fr [(131, 15), (131, 16), (131, 4), (131, 11), (131, 12), (131, 13), (131, 14), (131, 18), (131, 20), (131, 21)] [134] τ t445 := Fr_cell F431 M446 (by decide)
                            refine r_aload_n S dX12_line_318 rfl (lv_at hl 2 rfl) ?_
                            refine r_kv (q_V (As := []) (rest := []) (K := 38) (ci := 10) S X447 (c_X12_skip l G t445 I448 ) ck12_186 (Nat.le_of_ble_eq_true rfl) rfl (fun _ => ⟨_, rfl⟩) ⟨_, _, rfl⟩ ⟨Nat.le_of_ble_eq_true rfl, Nat.le_of_ble_eq_true rfl⟩ rfl hl.1 rfl (Nat.le_of_ble_eq_true rfl) dX12_line_319 ⟨Nat.le_refl 0, Nat.le_refl 0⟩) X447 (fun t452 H lc q450 X451 => ?_)
                            unfold po_X12_skip at q450
                            obtain ⟨q453, q454, q455, q456, q457, q458⟩ := q450
                            have F459 : Fr [(131, 15), (131, 16), (131, 4), (131, 11), (131, 12), (131, 13), (131, 14), (131, 18), (131, 20), (131, 21)] [134] τ t452 := Fr_call F449 q454 (by decide)
                            obtain ⟨v460, z461⟩ : ∃ x, t452 131 4 = x := ⟨_, rfl⟩
                            rw [z461] at q455
                            obtain ⟨v462, z463⟩ : ∃ x, t452 131 11 = x := ⟨_, rfl⟩
                            rw [z463] at q456
                            have e464 := congrArg Int32.toInt ((M446.2 131 4 (Or.inl (by decide))).trans ((M428.2 131 4 (Or.inl (by decide))).trans ((M401.2 131 4 (Or.inl (by decide))).trans ((q333 131 4 (by decide)).trans z312))))
                            have e465 := congrArg Int32.toInt z461
                            have e466 := congrArg Int32.toInt ((M446.2 131 4 (Or.inl (by decide))).trans ((M428.2 131 4 (Or.inl (by decide))).trans ((M401.2 131 4 (Or.inl (by decide))).trans ((q333 131 4 (by decide)).trans z312))))
                            have e467 := congrArg Int32.toInt z461
                            have e468 := congrArg Int32.toInt ((M446.2 131 11 (Or.inl (by decide))).trans ((M428.2 131 11 (Or.inl (by decide))).trans ((M401.2 131 11 (Or.inl (by decide))).trans ((q333 131 11 (by decide)).trans z314))))
                            have e469 := congrArg Int32.toInt z463
                            refine r_iconst S dX12_line_322 (by decide) (fun v470 z471 => ?_)
                            have r472 := R_eq z471
                            exact r_ret S hr hlk X451 ⟨q453, F459, (R_of r472 rfl), (by rw [z461]; exact R_of q455 rfl), (by rw [z463]; exact R_of q456 rfl), (by have h1_0 := congrArg Int32.toInt z461; have h2_0 := congrArg Int32.toInt z2; omega), (by have h1_0 := congrArg Int32.toInt z461; have h2_0 := congrArg Int32.toInt z2; omega)⟩ (nr_bool (R_of (lo := 0) (hi := 1) r472 rfl)) dX12_line_323
                          ·
                            exfalso; omega
                        ·
                          have r473 : R (1) (1) v372 := ⟨by omega, by omega⟩
                          refine r_aload_n S dX12_line_244 rfl (lv_at hl 2 rfl) ?_
                          refine r_iconst S dX12_line_245 (by decide) (fun v474 z475 => ?_)
                          have r476 := R_eq z475
                          refine r_ki (q_V (As := [.int v474]) (rest := []) (K := 38) (ci := 10) S X370 (c_X12_bad l G t330 q332 v474 (R_of (lo := -2147483648) (hi := 2147483647) r476 rfl)) ck12_183 (Nat.le_of_ble_eq_true rfl) rfl (fun _ => ⟨_, rfl⟩) ⟨_, _, rfl⟩ ⟨Nat.le_of_ble_eq_true rfl, Nat.le_of_ble_eq_true rfl⟩ rfl hl.1 rfl (Nat.le_of_ble_eq_true rfl) dX12_line_246 ⟨Nat.le_refl 0, Nat.le_refl 0⟩) X370 (fun v480 t479 H lc q477 X478 => ?_)
                          unfold po_X12_bad at q477
                          obtain ⟨q481, q482, q483⟩ := q477
                          have F484 : Fr [(131, 15), (131, 16), (131, 4), (131, 11), (131, 12), (131, 13), (131, 14), (131, 18), (131, 20), (131, 21)] [134] τ t479 := Fr_call F337 q482 (by decide)
                          exact r_ret S hr hlk X478 ⟨q481, F484, (R_of q483 rfl), (by rw [((q482 131 4 (by decide)).trans ((q333 131 4 (by decide)).trans z312))]; exact R_of q306 rfl), (by rw [((q482 131 11 (by decide)).trans ((q333 131 11 (by decide)).trans z314))]; exact R_of q307 rfl), (by have h1_0 := congrArg Int32.toInt ((q482 131 4 (by decide)).trans ((q333 131 4 (by decide)).trans z312)); have h2_0 := congrArg Int32.toInt z2; omega), (by have h1_0 := congrArg Int32.toInt ((q482 131 4 (by decide)).trans ((q333 131 4 (by decide)).trans z312)); have h2_0 := congrArg Int32.toInt z2; omega)⟩ (nr_bool (R_of (lo := 0) (hi := 1) q483 rfl)) dX12_line_249
                  ·
                    have r485 : R (0) (0) v331 := ⟨by omega, by omega⟩
                    refine r_iconst S dX12_line_211 (by decide) (fun v486 z487 => ?_)
                    have r488 := R_eq z487
                    exact r_ret S hr hlk X329 ⟨q332, F337, (R_of r488 rfl), (by rw [((q333 131 4 (by decide)).trans z312)]; exact R_of q306 rfl), (by rw [((q333 131 11 (by decide)).trans z314)]; exact R_of q307 rfl), (by have h1_0 := congrArg Int32.toInt ((q333 131 4 (by decide)).trans z312); have h2_0 := congrArg Int32.toInt z2; omega), (by have h1_0 := congrArg Int32.toInt ((q333 131 4 (by decide)).trans z312); have h2_0 := congrArg Int32.toInt z2; omega)⟩ (nr_bool (R_of (lo := 0) (hi := 1) r488 rfl)) dX12_line_212
                ·
                  exfalso; omega
              ·
                have r489 : R (0) (0) v286 := ⟨by omega, by omega⟩
                refine r_iconst S dX12_line_163 (by decide) (fun v490 z491 => ?_)
                have r492 := R_eq z491
                exact r_ret S hr hlk X284 ⟨q287, F292, (R_of r492 rfl), (by rw [((q288 131 4 (by decide)).trans z265)]; exact R_of q259 rfl), (by rw [((q288 131 11 (by decide)).trans z267)]; exact R_of q260 rfl), (by have h1_0 := congrArg Int32.toInt ((q288 131 4 (by decide)).trans z265); have h2_0 := congrArg Int32.toInt z2; omega), (by have h1_0 := congrArg Int32.toInt ((q288 131 4 (by decide)).trans z265); have h2_0 := congrArg Int32.toInt z2; omega)⟩ (nr_bool (R_of (lo := 0) (hi := 1) r492 rfl)) dX12_line_164
            ·
              have r493 : R (0) (0) v245 := ⟨by omega, by omega⟩
              refine r_aload_n S dX12_line_138 rfl (lv_at hl 1 rfl) ?_
              refine r_iconst S dX12_line_139 (by decide) (fun v494 z495 => ?_)
              have r496 := R_eq z495
              refine r_ki (q_V (As := [.int v494]) (rest := []) (K := 38) (ci := 10) S X243 (c_X12_bad l G τ hI v494 (R_of (lo := -2147483648) (hi := 2147483647) r496 rfl)) ck12_183 (Nat.le_of_ble_eq_true rfl) rfl (fun _ => ⟨_, rfl⟩) ⟨_, _, rfl⟩ ⟨Nat.le_of_ble_eq_true rfl, Nat.le_of_ble_eq_true rfl⟩ rfl hl.1 rfl (Nat.le_of_ble_eq_true rfl) dX12_line_140 ⟨Nat.le_refl 0, Nat.le_refl 0⟩) X243 (fun v500 t499 H lc q497 X498 => ?_)
              unfold po_X12_bad at q497
              obtain ⟨q501, q502, q503⟩ := q497
              have F504 : Fr [(131, 15), (131, 16), (131, 4), (131, 11), (131, 12), (131, 13), (131, 14), (131, 18), (131, 20), (131, 21)] [134] τ t499 := Fr_call Fr_rfl q502 (by decide)
              exact r_ret S hr hlk X498 ⟨q501, F504, (R_of q503 rfl), (by rw [((q502 131 4 (by decide)).trans z2)]; exact R_of r3 rfl), (by rw [((q502 131 11 (by decide)).trans z5)]; exact R_of r6 rfl), (by have h1_0 := congrArg Int32.toInt ((q502 131 4 (by decide)).trans z2); have h2_0 := congrArg Int32.toInt z2; omega), (by have h1_0 := congrArg Int32.toInt ((q502 131 4 (by decide)).trans z2); have h2_0 := congrArg Int32.toInt z2; omega)⟩ (nr_bool (R_of (lo := 0) (hi := 1) q503 rfl)) dX12_line_143
        ·
          have r505 : R (1) (1) v41 := ⟨by omega, by omega⟩
          have p506 := q44 (by omega)
          have r507 : R (1) (1) v4 := z5 ▸ p506
          have r508 : R (1) (1) v4 := ⟨by omega, by omega⟩
          refine r_aload_n S dX12_line_111 rfl (lv_at hl 0 rfl) ?_
          refine r_ki (q_V (As := []) (rest := []) (K := 38) (ci := 10) S X39 (c_X12_readMan l G τ hI ) ck12_231 (Nat.le_of_ble_eq_true rfl) rfl (fun _ => ⟨_, rfl⟩) ⟨_, _, rfl⟩ ⟨Nat.le_of_ble_eq_true rfl, Nat.le_of_ble_eq_true rfl⟩ rfl hl.1 rfl (Nat.le_of_ble_eq_true rfl) dX12_line_112 ⟨Nat.le_refl 0, Nat.le_refl 0⟩) X39 (fun v512 t511 H lc q509 X510 => ?_)
          unfold po_X12_readMan at q509
          obtain ⟨q513, q514, q515, q516, q517, q518, q519⟩ := q509
          have F520 : Fr [(131, 15), (131, 16), (131, 4), (131, 11), (131, 12), (131, 13), (131, 14), (131, 18), (131, 20), (131, 21)] [134] τ t511 := Fr_call Fr_rfl q514 (by decide)
          obtain ⟨v521, z522⟩ : ∃ x, t511 131 4 = x := ⟨_, rfl⟩
          rw [z522] at q516
          obtain ⟨v523, z524⟩ : ∃ x, t511 131 11 = x := ⟨_, rfl⟩
          rw [z524] at q517
          have e525 := congrArg Int32.toInt z2
          have e526 := congrArg Int32.toInt z522
          have e527 := congrArg Int32.toInt z2
          have e528 := congrArg Int32.toInt z522
          exact r_ret S hr hlk X510 ⟨q513, F520, q515, (by rw [z522]; exact R_of q516 rfl), (by rw [z524]; exact R_of q517 rfl), (by have h1_0 := congrArg Int32.toInt z522; have h2_0 := congrArg Int32.toInt z2; omega), (by have h1_0 := congrArg Int32.toInt z522; have h2_0 := congrArg Int32.toInt z2; omega)⟩ (nr_bool (R_of (lo := 0) (hi := 1) q515 rfl)) dX12_line_115
      ·
        have r529 : R (1) (1) v31 := ⟨by omega, by omega⟩
        have p530 := q34 (by omega)
        have r531 : R (1) (1) v4 := z5 ▸ p530
        have r532 : R (1) (1) v4 := ⟨by omega, by omega⟩
        refine r_aload_n S dX12_line_50 rfl (lv_at hl 0 rfl) ?_
        refine r_get (K := 38) (v := .ref (G.2.2.2.1 134)) S X29 (Nat.le_of_ble_eq_true rfl) rfl lk12_37_10 (fun _ => ⟨_, rfl, rfl⟩) dX12_line_51 ?_
        refine r_iconst S dX12_line_54 (by decide) (fun v533 z534 => ?_)
        have r535 := R_eq z534
        refine r_aldn (n := 125) (K := 41) S X29 (Nat.le_of_ble_eq_true rfl) rfl (fun _ => rfl) (ix_of r535 rfl) dX12_line_55 (fun v536 z537 => ?_)
        have r538 : R (0) (9) v536 := rds (K := 41) (a := 0) (n := 1) hI rfl z537 (R_of r535 rfl) (by decide +kernel)
        refine r_bipush S dX12_line_56 (by decide) (fun v539 z540 => ?_)
        have r541 := R_eq z540
        refine r_icmp_ne (tgt := 67) S dX12_line_58 (by decide) (fun c542 => ?_) (fun c542 => ?_)
        ·
          have r543 : R (0) (8) v536 := ⟨by omega, by omega⟩
          refine r_aload_n S dX12_line_67 rfl (lv_at hl 0 rfl) ?_
          refine r_kv (q_V (As := []) (rest := []) (K := 38) (ci := 10) S X29 (c_X12_skip l G τ hI ) ck12_186 (Nat.le_of_ble_eq_true rfl) rfl (fun _ => ⟨_, rfl⟩) ⟨_, _, rfl⟩ ⟨Nat.le_of_ble_eq_true rfl, Nat.le_of_ble_eq_true rfl⟩ rfl hl.1 rfl (Nat.le_of_ble_eq_true rfl) dX12_line_68 ⟨Nat.le_refl 0, Nat.le_refl 0⟩) X29 (fun t546 H lc q544 X545 => ?_)
          unfold po_X12_skip at q544
          obtain ⟨q547, q548, q549, q550, q551, q552⟩ := q544
          have F553 : Fr [(131, 15), (131, 16), (131, 4), (131, 11), (131, 12), (131, 13), (131, 14), (131, 18), (131, 20), (131, 21)] [134] τ t546 := Fr_call Fr_rfl q548 (by decide)
          obtain ⟨v554, z555⟩ : ∃ x, t546 131 4 = x := ⟨_, rfl⟩
          rw [z555] at q549
          obtain ⟨v556, z557⟩ : ∃ x, t546 131 11 = x := ⟨_, rfl⟩
          rw [z557] at q550
          have e558 := congrArg Int32.toInt z2
          have e559 := congrArg Int32.toInt z555
          have e560 := congrArg Int32.toInt z2
          have e561 := congrArg Int32.toInt z555
          have e562 := congrArg Int32.toInt z5
          have e563 := congrArg Int32.toInt z557
          refine r_aload_n S dX12_line_71 rfl (lv_at hl 0 rfl) ?_
          refine r_bipush S dX12_line_72 (by decide) (fun v564 z565 => ?_)
          have r566 := R_eq z565
          refine r_aload_n S dX12_line_74 rfl (lv_at hl 0 rfl) ?_
          refine r_get (K := 38) (v := .ref (G.2.2.2.1 134)) S X545 (Nat.le_of_ble_eq_true rfl) rfl lk12_37_10 (fun _ => ⟨_, rfl, rfl⟩) dX12_line_75 ?_
          refine r_iconst S dX12_line_78 (by decide) (fun v567 z568 => ?_)
          have r569 := R_eq z568
          refine r_aldi (x := v536) (n := 125) (K := 41) S X545 (Nat.le_of_ble_eq_true rfl) rfl (fun _ => rfl) (ix_of r569 rfl) (zc' (n := 0) (by omega) ((q548 134 0 (by decide)).trans (zc (n := 0) (by omega) z537))) dX12_line_79 ?_
          refine r_iadd S dX12_line_80 (fun v571 z572 => ?_)
          obtain ⟨e573, r574⟩ := i_add (lo := 19) (hi := 27) z572 r566 r543 rfl
          refine r_ki (q_V (As := [.int v571]) (rest := []) (K := 38) (ci := 10) S X545 (c_X12_fresh l G t546 q547 v571 (R_of (lo := 19) (hi := 37) r574 rfl)) ck12_228 (Nat.le_of_ble_eq_true rfl) rfl (fun _ => ⟨_, rfl⟩) ⟨_, _, rfl⟩ ⟨Nat.le_of_ble_eq_true rfl, Nat.le_of_ble_eq_true rfl⟩ rfl hl.1 rfl (Nat.le_of_ble_eq_true rfl) dX12_line_81 ⟨Nat.le_refl 0, Nat.le_refl 0⟩) X545 (fun v578 t577 H lc q575 X576 => ?_)
          unfold po_X12_fresh at q575
          obtain ⟨q579, q580, q581, q582, q583, q584, q585⟩ := q575
          have F586 : Fr [(131, 15), (131, 16), (131, 4), (131, 11), (131, 12), (131, 13), (131, 14), (131, 18), (131, 20), (131, 21)] [134] τ t577 := Fr_call F553 q580 (by decide)
          obtain ⟨v587, z588⟩ : ∃ x, t577 131 4 = x := ⟨_, rfl⟩
          rw [z588] at q582
          obtain ⟨v589, z590⟩ : ∃ x, t577 131 11 = x := ⟨_, rfl⟩
          rw [z590] at q583
          have e591 := congrArg Int32.toInt z555
          have e592 := congrArg Int32.toInt z588
          have e593 := congrArg Int32.toInt z557
          have e594 := congrArg Int32.toInt z590
          refine r_if_ne (tgt := 89) S dX12_line_84 (by decide) (fun c595 => ?_) (fun c595 => ?_)
          ·
            have r596 : R (1) (1) v578 := ⟨by omega, by omega⟩
            refine r_aload_n S dX12_line_89 rfl (lv_at hl 0 rfl) ?_
            refine r_get (K := 38) (v := .ref (G.2.2.2.1 134)) S X576 (Nat.le_of_ble_eq_true rfl) rfl lk12_37_10 (fun _ => ⟨_, rfl, rfl⟩) dX12_line_90 ?_
            refine r_iconst S dX12_line_93 (by decide) (fun v597 z598 => ?_)
            have r599 := R_eq z598
            refine r_dup2 S dX12_line_94 rfl rfl ?_
            refine r_aldi (x := v536) (n := 125) (K := 41) S X576 (Nat.le_of_ble_eq_true rfl) rfl (fun _ => rfl) (ix_of r599 rfl) (zc' (n := 0) (by omega) ((q580 134 0 (by decide)).trans ((q548 134 0 (by decide)).trans (zc (n := 0) (by omega) z537)))) dX12_line_95 ?_
            refine r_iconst S dX12_line_96 (by decide) (fun v601 z602 => ?_)
            have r603 := R_eq z602
            refine r_iadd S dX12_line_97 (fun v604 z605 => ?_)
            obtain ⟨e606, r607⟩ := i_add (lo := 1) (hi := 9) z605 r543 r603 rfl
            refine r_ast (n := 125) (K := 41) S X576 (Nat.le_of_ble_eq_true rfl) rfl (fun _ _ => rfl) (ix_of r599 rfl) dX12_line_98 (fun t608 H lc M609 X610 => ?_)
            have I611 := Inv_mu q579 M609 (show Rg (kd 134) _ v604 from wrs (K := 41) (a := 0) (n := 1) (R_of r599 rfl) (R_of (lo := 0) (hi := 9) r607 rfl) (by decide +kernel))
            have F612 : Fr [(131, 15), (131, 16), (131, 4), (131, 11), (131, 12), (131, 13), (131, 14), (131, 18), (131, 20), (131, 21)] [134] τ t608 := Fr_cell F586 M609 (by decide)
            refine r_iconst S dX12_line_99 (by decide) (fun v613 z614 => ?_)
            have r615 := R_eq z614
            exact r_ret S hr hlk X610 ⟨I611, F612, (R_of r615 rfl), (by rw [((M609.2 131 4 (Or.inl (by decide))).trans z588)]; exact R_of q582 rfl), (by rw [((M609.2 131 11 (Or.inl (by decide))).trans z590)]; exact R_of q583 rfl), (by have h1_0 := congrArg Int32.toInt ((M609.2 131 4 (Or.inl (by decide))).trans z588); have h2_0 := congrArg Int32.toInt z2; omega), (by have h1_0 := congrArg Int32.toInt ((M609.2 131 4 (Or.inl (by decide))).trans z588); have h2_0 := congrArg Int32.toInt z2; omega)⟩ (nr_bool (R_of (lo := 0) (hi := 1) r615 rfl)) dX12_line_100
          ·
            have r616 : R (0) (0) v578 := ⟨by omega, by omega⟩
            refine r_iconst S dX12_line_87 (by decide) (fun v617 z618 => ?_)
            have r619 := R_eq z618
            exact r_ret S hr hlk X576 ⟨q579, F586, (R_of r619 rfl), (by rw [z588]; exact R_of q582 rfl), (by rw [z590]; exact R_of q583 rfl), (by have h1_0 := congrArg Int32.toInt z588; have h2_0 := congrArg Int32.toInt z2; omega), (by have h1_0 := congrArg Int32.toInt z588; have h2_0 := congrArg Int32.toInt z2; omega)⟩ (nr_bool (R_of (lo := 0) (hi := 1) r619 rfl)) dX12_line_88
        ·
          have r620 : R (9) (9) v536 := ⟨by omega, by omega⟩
          refine r_aload_n S dX12_line_61 rfl (lv_at hl 0 rfl) ?_
          refine r_iconst S dX12_line_62 (by decide) (fun v621 z622 => ?_)
          have r623 := R_eq z622
          refine r_ki (q_V (As := [.int v621]) (rest := []) (K := 38) (ci := 10) S X29 (c_X12_bad l G τ hI v621 (R_of (lo := -2147483648) (hi := 2147483647) r623 rfl)) ck12_183 (Nat.le_of_ble_eq_true rfl) rfl (fun _ => ⟨_, rfl⟩) ⟨_, _, rfl⟩ ⟨Nat.le_of_ble_eq_true rfl, Nat.le_of_ble_eq_true rfl⟩ rfl hl.1 rfl (Nat.le_of_ble_eq_true rfl) dX12_line_63 ⟨Nat.le_refl 0, Nat.le_refl 0⟩) X29 (fun v627 t626 H lc q624 X625 => ?_)
          unfold po_X12_bad at q624
          obtain ⟨q628, q629, q630⟩ := q624
          have F631 : Fr [(131, 15), (131, 16), (131, 4), (131, 11), (131, 12), (131, 13), (131, 14), (131, 18), (131, 20), (131, 21)] [134] τ t626 := Fr_call Fr_rfl q629 (by decide)
          exact r_ret S hr hlk X625 ⟨q628, F631, (R_of q630 rfl), (by rw [((q629 131 4 (by decide)).trans z2)]; exact R_of r3 rfl), (by rw [((q629 131 11 (by decide)).trans z5)]; exact R_of r532 rfl), (by have h1_0 := congrArg Int32.toInt ((q629 131 4 (by decide)).trans z2); have h2_0 := congrArg Int32.toInt z2; omega), (by have h1_0 := congrArg Int32.toInt ((q629 131 4 (by decide)).trans z2); have h2_0 := congrArg Int32.toInt z2; omega)⟩ (nr_bool (R_of (lo := 0) (hi := 1) q630 rfl)) dX12_line_66
    ·
      have r632 : R (1) (1) v21 := ⟨by omega, by omega⟩
      have p633 := q24 (by omega)
      have r634 : R (1) (1) v4 := z5 ▸ p633
      have r635 : R (1) (1) v4 := ⟨by omega, by omega⟩
      refine r_aload_n S dX12_line_30 rfl (lv_at hl 0 rfl) ?_
      refine r_iconst S dX12_line_31 (by decide) (fun v636 z637 => ?_)
      have r638 := R_eq z637
      refine r_iconst S dX12_line_32 (by decide) (fun v639 z640 => ?_)
      have r641 := R_eq z640
      refine r_iconst S dX12_line_33 (by decide) (fun v642 z643 => ?_)
      have r644 := R_eq z643
      refine r_bipush S dX12_line_34 (by decide) (fun v645 z646 => ?_)
      have r647 := R_eq z646
      refine r_ki (q_V (As := [.int v636, .int v639, .int v642, .int v645]) (rest := []) (K := 38) (ci := 10) S X19 (c_X12_once_1 l G τ hI v636 v639 v642 v645 r638 r641 r644 r647) ck12_224 (Nat.le_of_ble_eq_true rfl) rfl (fun _ => ⟨_, rfl⟩) ⟨_, _, rfl⟩ ⟨Nat.le_of_ble_eq_true rfl, Nat.le_of_ble_eq_true rfl⟩ rfl hl.1 rfl (Nat.le_of_ble_eq_true rfl) dX12_line_36 ⟨Nat.le_refl 0, Nat.le_refl 0⟩) X19 (fun v651 t650 H lc q648 X649 => ?_)
      unfold po_X12_once_1 at q648
      obtain ⟨q652, q653, q654, q655, q656, q657, q658⟩ := q648
      have F659 : Fr [(131, 15), (131, 16), (131, 4), (131, 11), (131, 12), (131, 13), (131, 14), (131, 18), (131, 20), (131, 21)] [134] τ t650 := Fr_call Fr_rfl q653 (by decide)
      obtain ⟨v660, z661⟩ : ∃ x, t650 131 4 = x := ⟨_, rfl⟩
      rw [z661] at q655
      obtain ⟨v662, z663⟩ : ∃ x, t650 131 11 = x := ⟨_, rfl⟩
      rw [z663] at q656
      have e664 := congrArg Int32.toInt z2
      have e665 := congrArg Int32.toInt z661
      have e666 := congrArg Int32.toInt z2
      have e667 := congrArg Int32.toInt z661
      exact r_ret S hr hlk X649 ⟨q652, F659, q654, (by rw [z661]; exact R_of q655 rfl), (by rw [z663]; exact R_of q656 rfl), (by have h1_0 := congrArg Int32.toInt z661; have h2_0 := congrArg Int32.toInt z2; omega), (by have h1_0 := congrArg Int32.toInt z661; have h2_0 := congrArg Int32.toInt z2; omega)⟩ (nr_bool (R_of (lo := 0) (hi := 1) q654 rfl)) dX12_line_39
  ·
    have r668 : R (1) (1) v11 := ⟨by omega, by omega⟩
    have p669 := q14 (by omega)
    have r670 : R (1) (1) v4 := z5 ▸ p669
    have r671 : R (1) (1) v4 := ⟨by omega, by omega⟩
    refine r_aload_n S dX12_line_10 rfl (lv_at hl 0 rfl) ?_
    refine r_iconst S dX12_line_11 (by decide) (fun v672 z673 => ?_)
    have r674 := R_eq z673
    refine r_iconst S dX12_line_12 (by decide) (fun v675 z676 => ?_)
    have r677 := R_eq z676
    refine r_iconst S dX12_line_13 (by decide) (fun v678 z679 => ?_)
    have r680 := R_eq z679
    refine r_bipush S dX12_line_14 (by decide) (fun v681 z682 => ?_)
    have r683 := R_eq z682
    refine r_ki (q_V (As := [.int v672, .int v675, .int v678, .int v681]) (rest := []) (K := 38) (ci := 10) S X9 (c_X12_once_0 l G τ hI v672 v675 v678 v681 r674 r677 r680 r683) ck12_224 (Nat.le_of_ble_eq_true rfl) rfl (fun _ => ⟨_, rfl⟩) ⟨_, _, rfl⟩ ⟨Nat.le_of_ble_eq_true rfl, Nat.le_of_ble_eq_true rfl⟩ rfl hl.1 rfl (Nat.le_of_ble_eq_true rfl) dX12_line_16 ⟨Nat.le_refl 0, Nat.le_refl 0⟩) X9 (fun v687 t686 H lc q684 X685 => ?_)
    unfold po_X12_once_0 at q684
    obtain ⟨q688, q689, q690, q691, q692, q693, q694⟩ := q684
    have F695 : Fr [(131, 15), (131, 16), (131, 4), (131, 11), (131, 12), (131, 13), (131, 14), (131, 18), (131, 20), (131, 21)] [134] τ t686 := Fr_call Fr_rfl q689 (by decide)
    obtain ⟨v696, z697⟩ : ∃ x, t686 131 4 = x := ⟨_, rfl⟩
    rw [z697] at q691
    obtain ⟨v698, z699⟩ : ∃ x, t686 131 11 = x := ⟨_, rfl⟩
    rw [z699] at q692
    have e700 := congrArg Int32.toInt z2
    have e701 := congrArg Int32.toInt z697
    have e702 := congrArg Int32.toInt z2
    have e703 := congrArg Int32.toInt z697
    exact r_ret S hr hlk X685 ⟨q688, F695, q690, (by rw [z697]; exact R_of q691 rfl), (by rw [z699]; exact R_of q692 rfl), (by have h1_0 := congrArg Int32.toInt z697; have h2_0 := congrArg Int32.toInt z2; omega), (by have h1_0 := congrArg Int32.toInt z697; have h2_0 := congrArg Int32.toInt z2; omega)⟩ (nr_bool (R_of (lo := 0) (hi := 1) q690 rfl)) dX12_line_19
