def po_X9_isKept (τ : Tau)     (r : Int32) (u : Tau) : Prop := u = τ ∧ R (0) (1) r
set_option maxHeartbeats 4000000 in
set_option maxRecDepth 100000 in
theorem c_X9_isKept (l : Launch) (G : Gx) (τ : Tau) (hI : Inv τ) (a0 : Int64) : Ci l G yX9_isKept cX9_isKept 3 (some .boolean) 0 0 [.long a0] τ (po_X9_isKept τ    ) := by
  unfold Ci
  refine C_of (own := RX9) (by decide) rfl (Nat.le_of_ble_eq_true rfl) ?_
  intro p e s m below meth c ls S hr hlk X hl
  have hl : lv_has ls 3 [(0, .long a0)] := hl
  refine r_iconst S dX9_isKept_0 (by decide) (fun v1 z2 => ?_)
  have r3 := R_eq z2
  refine r_istore_n (lv' := [(2, .int v1), (0, .long a0)]) S dX9_isKept_1 rfl hl (by decide) rfl (fun ls hl => ?_)
  have L229 : ∀ (n : Nat) (H : Heap) (lc : List Loc) (ls : Array Slot) (i226 : Int32), Xd G s H lc τ → R (0) (24) i226 → lv_has ls 3 [(0, .long a0), (2, .int i226)] → (24 - i226.toInt).toNat < n → W p l e (Rm 0 0) s m ([.long a0] : List Value).toArray below meth c H lc 0 0 (MQ below (va_Qi (po_X9_isKept τ    ) (Bs G) G.2.2.2.2) ([.long a0] : List Value).toArray s 0 0 G.2.2.2.2) (F0 m 2 ls []) := by
    intro n
    induction n with
    | zero => intros; omega
    | succ n ih230 =>
      intro H lc ls i226 X228 r227 hl hm
      refine r_iload_n S dX9_isKept_2 rfl (lv_at hl 1 rfl) ?_
      obtain ⟨tA, hZA, hTA⟩ := S.2.2.2.1.2.2
      refine va_gets S.1.1 S.1.2.1 hZA X228.2 S.1.2.2.2.1 (S.1.2.2.2.2 _ kw14) (fun _ h => h) dX9_isKept_3 ?_
      refine va_tlen S.1.1 S.1.2.1 hTA X228.2 rfl dX9_isKept_6 ?_
      refine lv_topi (fun v231 z232 => ?_)
      have r233 : R 24 24 v231 := by rw [z232]; decide
      refine r_icmp_ge (tgt := 31) S dX9_isKept_7 (by decide) (fun c234 => ?_) (fun c234 => ?_)
      ·
        have r235 : R (24) (24) i226 := ⟨by omega, by omega⟩
        refine r_iconst S dX9_isKept_31 (by decide) (fun v236 z237 => ?_)
        have r238 := R_eq z237
        exact r_ret S hr hlk X228 ⟨rfl, (R_of r238 rfl)⟩ (nr_bool (R_of (lo := 0) (hi := 1) r238 rfl)) dX9_isKept_32
      ·
        have r239 : R (0) (23) i226 := ⟨by omega, by omega⟩
        obtain ⟨tA, hZA, hTA⟩ := S.2.2.2.1.2.2
        refine va_gets S.1.1 S.1.2.1 hZA X228.2 S.1.2.2.2.1 (S.1.2.2.2.2 _ kw14) (fun _ h => h) dX9_isKept_10 ?_
        refine r_iload_n S dX9_isKept_13 rfl (lv_at hl 1 rfl) ?_
        refine vb_tq S.1.1 S.1.2.1 hTA X228.2 (vp_in_iff.mpr (ix_of r239 rfl)) rfl dX9_isKept_14 ?_
        obtain ⟨w240, h241⟩ : ∃ n, n = i226.toNatClampNeg := ⟨_, rfl⟩
        rw [← h241]
        have h_w240 : w240 < 24 := by have hh : i226.toNatClampNeg = i226.toInt.toNat := rfl; omega
        refine r_wsp S X228 h_w240 kw15 dX9_isKept_15 (fun j242 z243 => ?_)
        refine lv_lload_n S.1.1 S.1.2.1 dX9_isKept_18 rfl (lv_at hl 0 rfl) ?_
        refine r_lcmp S dX9_isKept_19 (fun v244 r245 e246 => ?_)
        refine r_if_ne (tgt := 25) S dX9_isKept_20 (by decide) (fun c247 => ?_) (fun c247 => ?_)
        ·
          refine r_iinc (k := 1) S dX9_isKept_25 hl rfl (by decide) (by decide) (fun v248 d249 ls z250 z251 hl => ?_)
          obtain ⟨e252, r253⟩ := i_add (lo := 1) (hi := 24) z250 r239 (R_eq z251) rfl
          have hl : lv_has ls 3 [(2, .int v248), (0, .long a0)] := hl
          refine r_goto (tgt := 2) S dX9_isKept_28 (by decide) ?_
          exact ih230 _ _ _ v248 X228 (R_of r253 rfl) (lv_sub hl [1, 0] rfl) (by omega)
        ·
          have r254 : R (0) (0) v244 := ⟨by omega, by omega⟩
          refine r_iconst S dX9_isKept_23 (by decide) (fun v255 z256 => ?_)
          have r257 := R_eq z256
          exact r_ret S hr hlk X228 ⟨rfl, (R_of r257 rfl)⟩ (nr_bool (R_of (lo := 0) (hi := 1) r257 rfl)) dX9_isKept_24
  exact L229 _ _ _ _ v1 X (R_of r3 rfl) (lv_sub hl [1, 0] rfl) (Nat.lt_succ_self _)
def po_X8_fail_3 (τ : Tau)  (a0 : Int32)   (r : Int32) (u : Tau) : Prop := Inv u ∧ Fr [(3, 1)] [] τ u ∧ R (0) (0) r
set_option maxHeartbeats 4000000 in
set_option maxRecDepth 100000 in
theorem c_X8_fail_3 (l : Launch) (G : Gx) (τ : Tau) (hI : Inv τ) (a0 : Int32) (h_a0 : R (-2147483648) (2147483647) a0) : Ci l G yX8_fail cX8_fail 2 (some .boolean) 0 0 [.ref (G.2.2.2.1 3), .int a0] τ (po_X8_fail_3 τ  a0  ) := by
  unfold Ci
  refine C_of (own := RX8) (by decide) rfl (Nat.le_of_ble_eq_true rfl) ?_
  intro p e s m below meth c ls S hr hlk X hl
  have hl : lv_has ls 2 [(0, .ref (G.2.2.2.1 3)), (1, .int a0)] := hl
  refine r_aload_n S dX8_fail_0 rfl (lv_at hl 0 rfl) ?_
  refine r_iload_n S dX8_fail_1 rfl (lv_at hl 1 rfl) ?_
  refine r_put (K := 3) (ty := .int) S X (Nat.le_of_ble_eq_true rfl) rfl lk8_15_0 (fun _ => ⟨_, rfl, Nat.le_of_ble_eq_true rfl, rfl⟩) (fun _ _ _ h => by cases h; exact ⟨rfl, rfl⟩) rfl rfl dX8_fail_2 (fun t1 H lc M2 X3 => ?_)
  have I4 := Inv_mu hI M2 (R_any a0)
  have F5 : Fr [(3, 1)] [] τ t1 := Fr_mu Fr_rfl M2 (by decide)
  refine r_iconst S dX8_fail_5 (by decide) (fun v6 z7 => ?_)
  have r8 := R_eq z7
  exact r_ret S hr hlk X3 ⟨I4, F5, r8⟩ (nr_bool (R_of (lo := 0) (hi := 1) r8 rfl)) dX8_fail_6
def po_X8_open_3 (τ : Tau)  (a0 : Int32)   (u : Tau) : Prop := Inv u ∧ Fr [(3, 1), (1, 2), (1, 3), (1, 4), (1, 5), (1, 7), (1, 8)] [201] τ u
set_option maxHeartbeats 4000000 in
set_option maxRecDepth 100000 in
theorem c_X8_open_3 (l : Launch) (G : Gx) (τ : Tau) (hI : Inv τ) (a0 : Int32) (h_a0 : R (0) (900) a0) : Cv l G yX8_open cX8_open 2 2 45 [.ref (G.2.2.2.1 3), .int a0] τ (po_X8_open_3 τ  a0  ) := by
  unfold Cv
  refine C_of (own := RX8) (by decide) rfl (Nat.le_of_ble_eq_true rfl) ?_
  intro p e s m below meth c ls S hr hlk X hl
  have hl : lv_has ls 2 [(0, .ref (G.2.2.2.1 3)), (1, .int a0)] := hl
  refine r_aload_n S dX8_open_0 rfl (lv_at hl 0 rfl) ?_
  refine r_iconst S dX8_open_1 (by decide) (fun v1 z2 => ?_)
  have r3 := R_eq z2
  refine r_put (K := 3) (ty := .int) S X (Nat.le_of_ble_eq_true rfl) rfl lk8_15_0 (fun _ => ⟨_, rfl, Nat.le_of_ble_eq_true rfl, rfl⟩) (fun _ _ _ h => by cases h; exact ⟨rfl, rfl⟩) rfl rfl dX8_open_2 (fun t4 H lc M5 X6 => ?_)
  have I7 := Inv_mu hI M5 (R_any v1)
  have F8 : Fr [(3, 1), (1, 2), (1, 3), (1, 4), (1, 5), (1, 7), (1, 8)] [201] τ t4 := Fr_mu Fr_rfl M5 (by decide)
  refine r_aload_n S dX8_open_5 rfl (lv_at hl 0 rfl) ?_
  refine r_get (K := 3) (v := .ref (G.2.2.2.1 1)) S X6 (Nat.le_of_ble_eq_true rfl) rfl lk8_9_0 (fun _ => ⟨_, rfl, rfl⟩) dX8_open_6 ?_
  refine r_iload_n S dX8_open_9 rfl (lv_at hl 1 rfl) ?_
  refine r_kv (q_V (As := [.int a0]) (rest := []) (K := 1) (ci := 7) S X6 (c_X7_open l G t4 I7 a0 h_a0) ck8_19 (Nat.le_of_ble_eq_true rfl) rfl (fun _ => ⟨_, rfl⟩) ⟨_, _, rfl⟩ ⟨Nat.le_of_ble_eq_true rfl, Nat.le_of_ble_eq_true rfl⟩ rfl hl.1 rfl (Nat.le_of_ble_eq_true rfl) dX8_open_10 ⟨Nat.le_refl 0, Nat.le_refl 0⟩) X6 (fun t11 H lc q9 X10 => ?_)
  unfold po_X7_open at q9
  obtain ⟨q12, q13⟩ := q9
  have F14 : Fr [(3, 1), (1, 2), (1, 3), (1, 4), (1, 5), (1, 7), (1, 8)] [201] τ t11 := Fr_call F8 q13 (by decide)
  exact r_vret S hr hlk X10 ⟨q12, F14⟩ dX8_open_13
def po_X8_takeSign_3 (τ : Tau)  (a0 : Int32)   (r : Int32) (u : Tau) : Prop := Inv u ∧ Fr [(3, 1), (1, 3), (1, 4), (1, 5), (1, 7), (1, 8)] [201] τ u ∧ R (0) (1) r
set_option maxHeartbeats 4000000 in
set_option maxRecDepth 100000 in
theorem c_X8_takeSign_3 (l : Launch) (G : Gx) (τ : Tau) (hI : Inv τ) (a0 : Int32) (h_a0 : R (0) (65535) a0) : Ci l G yX8_takeSign cX8_takeSign 2 (some .boolean) 1 24 [.ref (G.2.2.2.1 3), .int a0] τ (po_X8_takeSign_3 τ  a0  ) := by
  unfold Ci
  refine C_of (own := RX8) (by decide) rfl (Nat.le_of_ble_eq_true rfl) ?_
  intro p e s m below meth c ls S hr hlk X hl
  have hl : lv_has ls 2 [(0, .ref (G.2.2.2.1 3)), (1, .int a0)] := hl
  refine r_aload_n S dX8_takeSign_0 rfl (lv_at hl 0 rfl) ?_
  refine r_get (K := 3) (v := .ref (G.2.2.2.1 1)) S X (Nat.le_of_ble_eq_true rfl) rfl lk8_9_0 (fun _ => ⟨_, rfl, rfl⟩) dX8_takeSign_1 ?_
  refine r_iload_n S dX8_takeSign_4 rfl (lv_at hl 1 rfl) ?_
  refine r_ki (q_V (As := [.int a0]) (rest := []) (K := 1) (ci := 7) S X (c_X7_isSigned l G τ hI a0 h_a0) ck8_25 (Nat.le_of_ble_eq_true rfl) rfl (fun _ => ⟨_, rfl⟩) ⟨_, _, rfl⟩ ⟨Nat.le_of_ble_eq_true rfl, Nat.le_of_ble_eq_true rfl⟩ rfl hl.1 rfl (Nat.le_of_ble_eq_true rfl) dX8_takeSign_5 ⟨Nat.le_refl 0, Nat.le_refl 0⟩) X (fun v4 t3 H lc q1 X2 => ?_)
  unfold po_X7_isSigned at q1
  obtain ⟨q5, q6⟩ := q1
  rw [q5] at X2
  refine r_if_ne (tgt := 17) S dX8_takeSign_8 (by decide) (fun c7 => ?_) (fun c7 => ?_)
  ·
    have r8 : R (1) (1) v4 := ⟨by omega, by omega⟩
    refine r_aload_n S dX8_takeSign_17 rfl (lv_at hl 0 rfl) ?_
    refine r_get (K := 3) (v := .ref (G.2.2.2.1 1)) S X2 (Nat.le_of_ble_eq_true rfl) rfl lk8_9_0 (fun _ => ⟨_, rfl, rfl⟩) dX8_takeSign_18 ?_
    refine r_kv (q_V (As := []) (rest := []) (K := 1) (ci := 7) S X2 (c_X7_step l G τ hI ) ck8_33 (Nat.le_of_ble_eq_true rfl) rfl (fun _ => ⟨_, rfl⟩) ⟨_, _, rfl⟩ ⟨Nat.le_of_ble_eq_true rfl, Nat.le_of_ble_eq_true rfl⟩ rfl hl.1 rfl (Nat.le_of_ble_eq_true rfl) dX8_takeSign_21 ⟨Nat.le_refl 0, Nat.le_refl 0⟩) X2 (fun t11 H lc q9 X10 => ?_)
    unfold po_X7_step at q9
    obtain ⟨q12, q13⟩ := q9
    have F14 : Fr [(3, 1), (1, 3), (1, 4), (1, 5), (1, 7), (1, 8)] [201] τ t11 := Fr_call Fr_rfl q13 (by decide)
    refine r_iconst S dX8_takeSign_24 (by decide) (fun v15 z16 => ?_)
    have r17 := R_eq z16
    exact r_ret S hr hlk X10 ⟨q12, F14, (R_of r17 rfl)⟩ (nr_bool (R_of (lo := 0) (hi := 1) r17 rfl)) dX8_takeSign_25
  ·
    have r18 : R (0) (0) v4 := ⟨by omega, by omega⟩
    refine r_aload_n S dX8_takeSign_11 rfl (lv_at hl 0 rfl) ?_
    refine r_iconst S dX8_takeSign_12 (by decide) (fun v19 z20 => ?_)
    have r21 := R_eq z20
    refine r_ki (q_U (As := [.int v19]) (rest := []) (K := 3) (ci := 0) S X2 (c_X8_fail_3 l G τ hI v19 (R_of (lo := -2147483648) (hi := 2147483647) r21 rfl)) ck8_29_0 (Nat.le_of_ble_eq_true rfl) rfl (fun _ => ⟨_, rfl⟩) ⟨_, _, rfl⟩ ⟨Nat.le_of_ble_eq_true rfl, Nat.le_of_ble_eq_true rfl⟩ rfl hl.1 rfl (Nat.le_of_ble_eq_true rfl) dX8_takeSign_13 ⟨Nat.le_refl 0, Nat.le_refl 0⟩) X2 (fun v25 t24 H lc q22 X23 => ?_)
    unfold po_X8_fail_3 at q22
    obtain ⟨q26, q27, q28⟩ := q22
    have F29 : Fr [(3, 1), (1, 3), (1, 4), (1, 5), (1, 7), (1, 8)] [201] τ t24 := Fr_call Fr_rfl q27 (by decide)
    exact r_ret S hr hlk X23 ⟨q26, F29, (R_of q28 rfl)⟩ (nr_bool (R_of (lo := 0) (hi := 1) q28 rfl)) dX8_takeSign_16
def po_X8_takeNumber_3_1_8 (τ : Tau)  (a0 a1 : Int32)   (r : Int32) (u : Tau) : Prop := Inv u ∧ Fr [(3, 1), (3, 2), (1, 3), (1, 4), (1, 5), (1, 7), (1, 8)] [201] τ u ∧ R (0) (1) r ∧ (r.toInt = 1 → R (1) (8) (u 3 2))
set_option maxHeartbeats 4000000 in
set_option maxRecDepth 100000 in
theorem c_X8_takeNumber_3_1_8 (l : Launch) (G : Gx) (τ : Tau) (hI : Inv τ) (a0 : Int32) (a1 : Int32) (h_a0 : R (1) (1) a0) (h_a1 : R (8) (8) a1) : Ci l G yX8_takeNumber cX8_takeNumber 3 (some .boolean) 1 24 [.ref (G.2.2.2.1 3), .int a0, .int a1] τ (po_X8_takeNumber_3_1_8 τ  a0 a1  ) := by
  unfold Ci
  refine C_of (own := RX8) (by decide) rfl (Nat.le_of_ble_eq_true rfl) ?_
  intro p e s m below meth c ls S hr hlk X hl
  have hl : lv_has ls 3 [(0, .ref (G.2.2.2.1 3)), (1, .int a0), (2, .int a1)] := hl
  refine r_aload_n S dX8_takeNumber_0 rfl (lv_at hl 0 rfl) ?_
  refine r_get (K := 3) (v := .ref (G.2.2.2.1 1)) S X (Nat.le_of_ble_eq_true rfl) rfl lk8_9_0 (fun _ => ⟨_, rfl, rfl⟩) dX8_takeNumber_1 ?_
  refine r_getn (K := 1) S X (Nat.le_of_ble_eq_true rfl) rfl lk8_36_7 (fun _ => ⟨_, rfl, rfl⟩) dX8_takeNumber_4 (fun v1 z2 => ?_)
  have r3 : R (0) (4) v1 := rd hI rfl z2
  refine r_iconst S dX8_takeNumber_7 (by decide) (fun v4 z5 => ?_)
  have r6 := R_eq z5
  refine r_icmp_eq (tgt := 17) S dX8_takeNumber_8 (by decide) (fun c7 => ?_) (fun c7 => ?_)
  ·
    have r8 : R (3) (3) v1 := ⟨by omega, by omega⟩
    refine r_aload_n S dX8_takeNumber_17 rfl (lv_at hl 0 rfl) ?_
    refine r_get (K := 3) (v := .ref (G.2.2.2.1 1)) S X (Nat.le_of_ble_eq_true rfl) rfl lk8_9_0 (fun _ => ⟨_, rfl, rfl⟩) dX8_takeNumber_18 ?_
    refine r_getn (K := 1) S X (Nat.le_of_ble_eq_true rfl) rfl lk8_39_7 (fun _ => ⟨_, rfl, rfl⟩) dX8_takeNumber_21 (fun v9 z10 => ?_)
    have r12 := R_any v9
    refine r_iload_n S dX8_takeNumber_24 rfl (lv_at hl 1 rfl) ?_
    refine r_icmp_lt (tgt := 39) S dX8_takeNumber_25 (by decide) (fun c13 => ?_) (fun c13 => ?_)
    ·
      have r14 : R (-2147483648) (0) v9 := ⟨by omega, by omega⟩
      refine r_aload_n S dX8_takeNumber_39 rfl (lv_at hl 0 rfl) ?_
      refine r_iconst S dX8_takeNumber_40 (by decide) (fun v15 z16 => ?_)
      have r17 := R_eq z16
      refine r_ki (q_U (As := [.int v15]) (rest := []) (K := 3) (ci := 0) S X (c_X8_fail_3 l G τ hI v15 (R_of (lo := -2147483648) (hi := 2147483647) r17 rfl)) ck8_29_0 (Nat.le_of_ble_eq_true rfl) rfl (fun _ => ⟨_, rfl⟩) ⟨_, _, rfl⟩ ⟨Nat.le_of_ble_eq_true rfl, Nat.le_of_ble_eq_true rfl⟩ rfl hl.1 rfl (Nat.le_of_ble_eq_true rfl) dX8_takeNumber_41 ⟨Nat.le_refl 0, Nat.le_refl 0⟩) X (fun v21 t20 H lc q18 X19 => ?_)
      unfold po_X8_fail_3 at q18
      obtain ⟨q22, q23, q24⟩ := q18
      have F25 : Fr [(3, 1), (3, 2), (1, 3), (1, 4), (1, 5), (1, 7), (1, 8)] [201] τ t20 := Fr_call Fr_rfl q23 (by decide)
      exact r_ret S hr hlk X19 ⟨q22, F25, (R_of q24 rfl), (fun h => by exfalso; omega)⟩ (nr_bool (R_of (lo := 0) (hi := 1) q24 rfl)) dX8_takeNumber_44
    ·
      have r26 : R (1) (2147483647) v9 := ⟨by omega, by omega⟩
      refine r_aload_n S dX8_takeNumber_28 rfl (lv_at hl 0 rfl) ?_
      refine r_get (K := 3) (v := .ref (G.2.2.2.1 1)) S X (Nat.le_of_ble_eq_true rfl) rfl lk8_9_0 (fun _ => ⟨_, rfl, rfl⟩) dX8_takeNumber_29 ?_
      refine r_geti (K := 1) S X (Nat.le_of_ble_eq_true rfl) rfl lk8_39_7 (fun _ => ⟨_, rfl, rfl⟩) z10 dX8_takeNumber_32 ?_
      refine r_iload_n S dX8_takeNumber_35 rfl (lv_at hl 2 rfl) ?_
      refine r_icmp_le (tgt := 45) S dX8_takeNumber_36 (by decide) (fun c27 => ?_) (fun c27 => ?_)
      ·
        have r28 : R (1) (8) v9 := ⟨by omega, by omega⟩
        refine r_aload_n S dX8_takeNumber_45 rfl (lv_at hl 0 rfl) ?_
        refine r_aload_n S dX8_takeNumber_46 rfl (lv_at hl 0 rfl) ?_
        refine r_get (K := 3) (v := .ref (G.2.2.2.1 1)) S X (Nat.le_of_ble_eq_true rfl) rfl lk8_9_0 (fun _ => ⟨_, rfl, rfl⟩) dX8_takeNumber_47 ?_
        refine r_geti (K := 1) S X (Nat.le_of_ble_eq_true rfl) rfl lk8_39_7 (fun _ => ⟨_, rfl, rfl⟩) z10 dX8_takeNumber_50 ?_
        refine r_put (K := 3) (ty := .int) S X (Nat.le_of_ble_eq_true rfl) rfl lk8_42_0 (fun _ => ⟨_, rfl, Nat.le_of_ble_eq_true rfl, rfl⟩) (fun _ _ _ h => by cases h; exact ⟨rfl, rfl⟩) rfl rfl dX8_takeNumber_53 (fun t29 H lc M30 X31 => ?_)
        have I32 := Inv_mu hI M30 (R_any v9)
        have F33 : Fr [(3, 1), (3, 2), (1, 3), (1, 4), (1, 5), (1, 7), (1, 8)] [201] τ t29 := Fr_mu Fr_rfl M30 (by decide)
        refine r_aload_n S dX8_takeNumber_56 rfl (lv_at hl 0 rfl) ?_
        refine r_get (K := 3) (v := .ref (G.2.2.2.1 1)) S X31 (Nat.le_of_ble_eq_true rfl) rfl lk8_9_0 (fun _ => ⟨_, rfl, rfl⟩) dX8_takeNumber_57 ?_
        refine r_kv (q_V (As := []) (rest := []) (K := 1) (ci := 7) S X31 (c_X7_step l G t29 I32 ) ck8_33 (Nat.le_of_ble_eq_true rfl) rfl (fun _ => ⟨_, rfl⟩) ⟨_, _, rfl⟩ ⟨Nat.le_of_ble_eq_true rfl, Nat.le_of_ble_eq_true rfl⟩ rfl hl.1 rfl (Nat.le_of_ble_eq_true rfl) dX8_takeNumber_60 ⟨Nat.le_refl 0, Nat.le_refl 0⟩) X31 (fun t36 H lc q34 X35 => ?_)
        unfold po_X7_step at q34
        obtain ⟨q37, q38⟩ := q34
        have F39 : Fr [(3, 1), (3, 2), (1, 3), (1, 4), (1, 5), (1, 7), (1, 8)] [201] τ t36 := Fr_call F33 q38 (by decide)
        refine r_iconst S dX8_takeNumber_63 (by decide) (fun v40 z41 => ?_)
        have r42 := R_eq z41
        exact r_ret S hr hlk X35 ⟨q37, F39, (R_of r42 rfl), (fun h => (by rw [((q38 3 2 (by decide)).trans M30.1)]; exact R_of r28 rfl))⟩ (nr_bool (R_of (lo := 0) (hi := 1) r42 rfl)) dX8_takeNumber_64
      ·
        have r43 : R (9) (2147483647) v9 := ⟨by omega, by omega⟩
        refine r_aload_n S dX8_takeNumber_39 rfl (lv_at hl 0 rfl) ?_
        refine r_iconst S dX8_takeNumber_40 (by decide) (fun v44 z45 => ?_)
        have r46 := R_eq z45
        refine r_ki (q_U (As := [.int v44]) (rest := []) (K := 3) (ci := 0) S X (c_X8_fail_3 l G τ hI v44 (R_of (lo := -2147483648) (hi := 2147483647) r46 rfl)) ck8_29_0 (Nat.le_of_ble_eq_true rfl) rfl (fun _ => ⟨_, rfl⟩) ⟨_, _, rfl⟩ ⟨Nat.le_of_ble_eq_true rfl, Nat.le_of_ble_eq_true rfl⟩ rfl hl.1 rfl (Nat.le_of_ble_eq_true rfl) dX8_takeNumber_41 ⟨Nat.le_refl 0, Nat.le_refl 0⟩) X (fun v50 t49 H lc q47 X48 => ?_)
        unfold po_X8_fail_3 at q47
        obtain ⟨q51, q52, q53⟩ := q47
        have F54 : Fr [(3, 1), (3, 2), (1, 3), (1, 4), (1, 5), (1, 7), (1, 8)] [201] τ t49 := Fr_call Fr_rfl q52 (by decide)
        exact r_ret S hr hlk X48 ⟨q51, F54, (R_of q53 rfl), (fun h => by exfalso; omega)⟩ (nr_bool (R_of (lo := 0) (hi := 1) q53 rfl)) dX8_takeNumber_44
  ·
    refine r_aload_n S dX8_takeNumber_11 rfl (lv_at hl 0 rfl) ?_
    refine r_iconst S dX8_takeNumber_12 (by decide) (fun v55 z56 => ?_)
    have r57 := R_eq z56
    refine r_ki (q_U (As := [.int v55]) (rest := []) (K := 3) (ci := 0) S X (c_X8_fail_3 l G τ hI v55 (R_of (lo := -2147483648) (hi := 2147483647) r57 rfl)) ck8_29_0 (Nat.le_of_ble_eq_true rfl) rfl (fun _ => ⟨_, rfl⟩) ⟨_, _, rfl⟩ ⟨Nat.le_of_ble_eq_true rfl, Nat.le_of_ble_eq_true rfl⟩ rfl hl.1 rfl (Nat.le_of_ble_eq_true rfl) dX8_takeNumber_13 ⟨Nat.le_refl 0, Nat.le_refl 0⟩) X (fun v61 t60 H lc q58 X59 => ?_)
    unfold po_X8_fail_3 at q58
    obtain ⟨q62, q63, q64⟩ := q58
    have F65 : Fr [(3, 1), (3, 2), (1, 3), (1, 4), (1, 5), (1, 7), (1, 8)] [201] τ t60 := Fr_call Fr_rfl q63 (by decide)
    exact r_ret S hr hlk X59 ⟨q62, F65, (R_of q64 rfl), (fun h => by exfalso; omega)⟩ (nr_bool (R_of (lo := 0) (hi := 1) q64 rfl)) dX8_takeNumber_16
def po_X8_takeNumber_3_0_9 (τ : Tau)  (a0 a1 : Int32)   (r : Int32) (u : Tau) : Prop := Inv u ∧ Fr [(3, 1), (3, 2), (1, 3), (1, 4), (1, 5), (1, 7), (1, 8)] [201] τ u ∧ R (0) (1) r ∧ (r.toInt = 1 → R (0) (9) (u 3 2))
set_option maxHeartbeats 4000000 in
set_option maxRecDepth 100000 in
theorem c_X8_takeNumber_3_0_9 (l : Launch) (G : Gx) (τ : Tau) (hI : Inv τ) (a0 : Int32) (a1 : Int32) (h_a0 : R (0) (0) a0) (h_a1 : R (9) (9) a1) : Ci l G yX8_takeNumber cX8_takeNumber 3 (some .boolean) 1 24 [.ref (G.2.2.2.1 3), .int a0, .int a1] τ (po_X8_takeNumber_3_0_9 τ  a0 a1  ) := by
  unfold Ci
  refine C_of (own := RX8) (by decide) rfl (Nat.le_of_ble_eq_true rfl) ?_
  intro p e s m below meth c ls S hr hlk X hl
  have hl : lv_has ls 3 [(0, .ref (G.2.2.2.1 3)), (1, .int a0), (2, .int a1)] := hl
  refine r_aload_n S dX8_takeNumber_0 rfl (lv_at hl 0 rfl) ?_
  refine r_get (K := 3) (v := .ref (G.2.2.2.1 1)) S X (Nat.le_of_ble_eq_true rfl) rfl lk8_9_0 (fun _ => ⟨_, rfl, rfl⟩) dX8_takeNumber_1 ?_
  refine r_getn (K := 1) S X (Nat.le_of_ble_eq_true rfl) rfl lk8_36_7 (fun _ => ⟨_, rfl, rfl⟩) dX8_takeNumber_4 (fun v1 z2 => ?_)
  have r3 : R (0) (4) v1 := rd hI rfl z2
  refine r_iconst S dX8_takeNumber_7 (by decide) (fun v4 z5 => ?_)
  have r6 := R_eq z5
  refine r_icmp_eq (tgt := 17) S dX8_takeNumber_8 (by decide) (fun c7 => ?_) (fun c7 => ?_)
  ·
    have r8 : R (3) (3) v1 := ⟨by omega, by omega⟩
    refine r_aload_n S dX8_takeNumber_17 rfl (lv_at hl 0 rfl) ?_
    refine r_get (K := 3) (v := .ref (G.2.2.2.1 1)) S X (Nat.le_of_ble_eq_true rfl) rfl lk8_9_0 (fun _ => ⟨_, rfl, rfl⟩) dX8_takeNumber_18 ?_
    refine r_getn (K := 1) S X (Nat.le_of_ble_eq_true rfl) rfl lk8_39_7 (fun _ => ⟨_, rfl, rfl⟩) dX8_takeNumber_21 (fun v9 z10 => ?_)
    have r12 := R_any v9
    refine r_iload_n S dX8_takeNumber_24 rfl (lv_at hl 1 rfl) ?_
    refine r_icmp_lt (tgt := 39) S dX8_takeNumber_25 (by decide) (fun c13 => ?_) (fun c13 => ?_)
    ·
      have r14 : R (-2147483648) (-1) v9 := ⟨by omega, by omega⟩
      refine r_aload_n S dX8_takeNumber_39 rfl (lv_at hl 0 rfl) ?_
      refine r_iconst S dX8_takeNumber_40 (by decide) (fun v15 z16 => ?_)
      have r17 := R_eq z16
      refine r_ki (q_U (As := [.int v15]) (rest := []) (K := 3) (ci := 0) S X (c_X8_fail_3 l G τ hI v15 (R_of (lo := -2147483648) (hi := 2147483647) r17 rfl)) ck8_29_0 (Nat.le_of_ble_eq_true rfl) rfl (fun _ => ⟨_, rfl⟩) ⟨_, _, rfl⟩ ⟨Nat.le_of_ble_eq_true rfl, Nat.le_of_ble_eq_true rfl⟩ rfl hl.1 rfl (Nat.le_of_ble_eq_true rfl) dX8_takeNumber_41 ⟨Nat.le_refl 0, Nat.le_refl 0⟩) X (fun v21 t20 H lc q18 X19 => ?_)
      unfold po_X8_fail_3 at q18
      obtain ⟨q22, q23, q24⟩ := q18
      have F25 : Fr [(3, 1), (3, 2), (1, 3), (1, 4), (1, 5), (1, 7), (1, 8)] [201] τ t20 := Fr_call Fr_rfl q23 (by decide)
      exact r_ret S hr hlk X19 ⟨q22, F25, (R_of q24 rfl), (fun h => by exfalso; omega)⟩ (nr_bool (R_of (lo := 0) (hi := 1) q24 rfl)) dX8_takeNumber_44
    ·
      have r26 : R (0) (2147483647) v9 := ⟨by omega, by omega⟩
      refine r_aload_n S dX8_takeNumber_28 rfl (lv_at hl 0 rfl) ?_
      refine r_get (K := 3) (v := .ref (G.2.2.2.1 1)) S X (Nat.le_of_ble_eq_true rfl) rfl lk8_9_0 (fun _ => ⟨_, rfl, rfl⟩) dX8_takeNumber_29 ?_
      refine r_geti (K := 1) S X (Nat.le_of_ble_eq_true rfl) rfl lk8_39_7 (fun _ => ⟨_, rfl, rfl⟩) z10 dX8_takeNumber_32 ?_
      refine r_iload_n S dX8_takeNumber_35 rfl (lv_at hl 2 rfl) ?_
      refine r_icmp_le (tgt := 45) S dX8_takeNumber_36 (by decide) (fun c27 => ?_) (fun c27 => ?_)
      ·
        have r28 : R (0) (9) v9 := ⟨by omega, by omega⟩
        refine r_aload_n S dX8_takeNumber_45 rfl (lv_at hl 0 rfl) ?_
        refine r_aload_n S dX8_takeNumber_46 rfl (lv_at hl 0 rfl) ?_
        refine r_get (K := 3) (v := .ref (G.2.2.2.1 1)) S X (Nat.le_of_ble_eq_true rfl) rfl lk8_9_0 (fun _ => ⟨_, rfl, rfl⟩) dX8_takeNumber_47 ?_
        refine r_geti (K := 1) S X (Nat.le_of_ble_eq_true rfl) rfl lk8_39_7 (fun _ => ⟨_, rfl, rfl⟩) z10 dX8_takeNumber_50 ?_
        refine r_put (K := 3) (ty := .int) S X (Nat.le_of_ble_eq_true rfl) rfl lk8_42_0 (fun _ => ⟨_, rfl, Nat.le_of_ble_eq_true rfl, rfl⟩) (fun _ _ _ h => by cases h; exact ⟨rfl, rfl⟩) rfl rfl dX8_takeNumber_53 (fun t29 H lc M30 X31 => ?_)
        have I32 := Inv_mu hI M30 (R_any v9)
        have F33 : Fr [(3, 1), (3, 2), (1, 3), (1, 4), (1, 5), (1, 7), (1, 8)] [201] τ t29 := Fr_mu Fr_rfl M30 (by decide)
        refine r_aload_n S dX8_takeNumber_56 rfl (lv_at hl 0 rfl) ?_
        refine r_get (K := 3) (v := .ref (G.2.2.2.1 1)) S X31 (Nat.le_of_ble_eq_true rfl) rfl lk8_9_0 (fun _ => ⟨_, rfl, rfl⟩) dX8_takeNumber_57 ?_
        refine r_kv (q_V (As := []) (rest := []) (K := 1) (ci := 7) S X31 (c_X7_step l G t29 I32 ) ck8_33 (Nat.le_of_ble_eq_true rfl) rfl (fun _ => ⟨_, rfl⟩) ⟨_, _, rfl⟩ ⟨Nat.le_of_ble_eq_true rfl, Nat.le_of_ble_eq_true rfl⟩ rfl hl.1 rfl (Nat.le_of_ble_eq_true rfl) dX8_takeNumber_60 ⟨Nat.le_refl 0, Nat.le_refl 0⟩) X31 (fun t36 H lc q34 X35 => ?_)
        unfold po_X7_step at q34
        obtain ⟨q37, q38⟩ := q34
        have F39 : Fr [(3, 1), (3, 2), (1, 3), (1, 4), (1, 5), (1, 7), (1, 8)] [201] τ t36 := Fr_call F33 q38 (by decide)
        refine r_iconst S dX8_takeNumber_63 (by decide) (fun v40 z41 => ?_)
        have r42 := R_eq z41
        exact r_ret S hr hlk X35 ⟨q37, F39, (R_of r42 rfl), (fun h => (by rw [((q38 3 2 (by decide)).trans M30.1)]; exact R_of r28 rfl))⟩ (nr_bool (R_of (lo := 0) (hi := 1) r42 rfl)) dX8_takeNumber_64
      ·
        have r43 : R (10) (2147483647) v9 := ⟨by omega, by omega⟩
        refine r_aload_n S dX8_takeNumber_39 rfl (lv_at hl 0 rfl) ?_
        refine r_iconst S dX8_takeNumber_40 (by decide) (fun v44 z45 => ?_)
        have r46 := R_eq z45
        refine r_ki (q_U (As := [.int v44]) (rest := []) (K := 3) (ci := 0) S X (c_X8_fail_3 l G τ hI v44 (R_of (lo := -2147483648) (hi := 2147483647) r46 rfl)) ck8_29_0 (Nat.le_of_ble_eq_true rfl) rfl (fun _ => ⟨_, rfl⟩) ⟨_, _, rfl⟩ ⟨Nat.le_of_ble_eq_true rfl, Nat.le_of_ble_eq_true rfl⟩ rfl hl.1 rfl (Nat.le_of_ble_eq_true rfl) dX8_takeNumber_41 ⟨Nat.le_refl 0, Nat.le_refl 0⟩) X (fun v50 t49 H lc q47 X48 => ?_)
        unfold po_X8_fail_3 at q47
        obtain ⟨q51, q52, q53⟩ := q47
        have F54 : Fr [(3, 1), (3, 2), (1, 3), (1, 4), (1, 5), (1, 7), (1, 8)] [201] τ t49 := Fr_call Fr_rfl q52 (by decide)
        exact r_ret S hr hlk X48 ⟨q51, F54, (R_of q53 rfl), (fun h => by exfalso; omega)⟩ (nr_bool (R_of (lo := 0) (hi := 1) q53 rfl)) dX8_takeNumber_44
  ·
    refine r_aload_n S dX8_takeNumber_11 rfl (lv_at hl 0 rfl) ?_
    refine r_iconst S dX8_takeNumber_12 (by decide) (fun v55 z56 => ?_)
    have r57 := R_eq z56
    refine r_ki (q_U (As := [.int v55]) (rest := []) (K := 3) (ci := 0) S X (c_X8_fail_3 l G τ hI v55 (R_of (lo := -2147483648) (hi := 2147483647) r57 rfl)) ck8_29_0 (Nat.le_of_ble_eq_true rfl) rfl (fun _ => ⟨_, rfl⟩) ⟨_, _, rfl⟩ ⟨Nat.le_of_ble_eq_true rfl, Nat.le_of_ble_eq_true rfl⟩ rfl hl.1 rfl (Nat.le_of_ble_eq_true rfl) dX8_takeNumber_13 ⟨Nat.le_refl 0, Nat.le_refl 0⟩) X (fun v61 t60 H lc q58 X59 => ?_)
    unfold po_X8_fail_3 at q58
    obtain ⟨q62, q63, q64⟩ := q58
    have F65 : Fr [(3, 1), (3, 2), (1, 3), (1, 4), (1, 5), (1, 7), (1, 8)] [201] τ t60 := Fr_call Fr_rfl q63 (by decide)
    exact r_ret S hr hlk X59 ⟨q62, F65, (R_of q64 rfl), (fun h => by exfalso; omega)⟩ (nr_bool (R_of (lo := 0) (hi := 1) q64 rfl)) dX8_takeNumber_16
def po_X8_takeNumber_3_0_20 (τ : Tau)  (a0 a1 : Int32)   (r : Int32) (u : Tau) : Prop := Inv u ∧ Fr [(3, 1), (3, 2), (1, 3), (1, 4), (1, 5), (1, 7), (1, 8)] [201] τ u ∧ R (0) (1) r ∧ (r.toInt = 1 → R (0) (20) (u 3 2))
set_option maxHeartbeats 4000000 in
set_option maxRecDepth 100000 in
theorem c_X8_takeNumber_3_0_20 (l : Launch) (G : Gx) (τ : Tau) (hI : Inv τ) (a0 : Int32) (a1 : Int32) (h_a0 : R (0) (0) a0) (h_a1 : R (20) (20) a1) : Ci l G yX8_takeNumber cX8_takeNumber 3 (some .boolean) 1 24 [.ref (G.2.2.2.1 3), .int a0, .int a1] τ (po_X8_takeNumber_3_0_20 τ  a0 a1  ) := by
  unfold Ci
  refine C_of (own := RX8) (by decide) rfl (Nat.le_of_ble_eq_true rfl) ?_
  intro p e s m below meth c ls S hr hlk X hl
  have hl : lv_has ls 3 [(0, .ref (G.2.2.2.1 3)), (1, .int a0), (2, .int a1)] := hl
  refine r_aload_n S dX8_takeNumber_0 rfl (lv_at hl 0 rfl) ?_
  refine r_get (K := 3) (v := .ref (G.2.2.2.1 1)) S X (Nat.le_of_ble_eq_true rfl) rfl lk8_9_0 (fun _ => ⟨_, rfl, rfl⟩) dX8_takeNumber_1 ?_
  refine r_getn (K := 1) S X (Nat.le_of_ble_eq_true rfl) rfl lk8_36_7 (fun _ => ⟨_, rfl, rfl⟩) dX8_takeNumber_4 (fun v1 z2 => ?_)
  have r3 : R (0) (4) v1 := rd hI rfl z2
  refine r_iconst S dX8_takeNumber_7 (by decide) (fun v4 z5 => ?_)
  have r6 := R_eq z5
  refine r_icmp_eq (tgt := 17) S dX8_takeNumber_8 (by decide) (fun c7 => ?_) (fun c7 => ?_)
  ·
    have r8 : R (3) (3) v1 := ⟨by omega, by omega⟩
    refine r_aload_n S dX8_takeNumber_17 rfl (lv_at hl 0 rfl) ?_
    refine r_get (K := 3) (v := .ref (G.2.2.2.1 1)) S X (Nat.le_of_ble_eq_true rfl) rfl lk8_9_0 (fun _ => ⟨_, rfl, rfl⟩) dX8_takeNumber_18 ?_
    refine r_getn (K := 1) S X (Nat.le_of_ble_eq_true rfl) rfl lk8_39_7 (fun _ => ⟨_, rfl, rfl⟩) dX8_takeNumber_21 (fun v9 z10 => ?_)
    have r12 := R_any v9
    refine r_iload_n S dX8_takeNumber_24 rfl (lv_at hl 1 rfl) ?_
    refine r_icmp_lt (tgt := 39) S dX8_takeNumber_25 (by decide) (fun c13 => ?_) (fun c13 => ?_)
    ·
      have r14 : R (-2147483648) (-1) v9 := ⟨by omega, by omega⟩
      refine r_aload_n S dX8_takeNumber_39 rfl (lv_at hl 0 rfl) ?_
      refine r_iconst S dX8_takeNumber_40 (by decide) (fun v15 z16 => ?_)
      have r17 := R_eq z16
      refine r_ki (q_U (As := [.int v15]) (rest := []) (K := 3) (ci := 0) S X (c_X8_fail_3 l G τ hI v15 (R_of (lo := -2147483648) (hi := 2147483647) r17 rfl)) ck8_29_0 (Nat.le_of_ble_eq_true rfl) rfl (fun _ => ⟨_, rfl⟩) ⟨_, _, rfl⟩ ⟨Nat.le_of_ble_eq_true rfl, Nat.le_of_ble_eq_true rfl⟩ rfl hl.1 rfl (Nat.le_of_ble_eq_true rfl) dX8_takeNumber_41 ⟨Nat.le_refl 0, Nat.le_refl 0⟩) X (fun v21 t20 H lc q18 X19 => ?_)
      unfold po_X8_fail_3 at q18
      obtain ⟨q22, q23, q24⟩ := q18
      have F25 : Fr [(3, 1), (3, 2), (1, 3), (1, 4), (1, 5), (1, 7), (1, 8)] [201] τ t20 := Fr_call Fr_rfl q23 (by decide)
      exact r_ret S hr hlk X19 ⟨q22, F25, (R_of q24 rfl), (fun h => by exfalso; omega)⟩ (nr_bool (R_of (lo := 0) (hi := 1) q24 rfl)) dX8_takeNumber_44
    ·
      have r26 : R (0) (2147483647) v9 := ⟨by omega, by omega⟩
      refine r_aload_n S dX8_takeNumber_28 rfl (lv_at hl 0 rfl) ?_
      refine r_get (K := 3) (v := .ref (G.2.2.2.1 1)) S X (Nat.le_of_ble_eq_true rfl) rfl lk8_9_0 (fun _ => ⟨_, rfl, rfl⟩) dX8_takeNumber_29 ?_
      refine r_geti (K := 1) S X (Nat.le_of_ble_eq_true rfl) rfl lk8_39_7 (fun _ => ⟨_, rfl, rfl⟩) z10 dX8_takeNumber_32 ?_
      refine r_iload_n S dX8_takeNumber_35 rfl (lv_at hl 2 rfl) ?_
      refine r_icmp_le (tgt := 45) S dX8_takeNumber_36 (by decide) (fun c27 => ?_) (fun c27 => ?_)
      ·
        have r28 : R (0) (20) v9 := ⟨by omega, by omega⟩
        refine r_aload_n S dX8_takeNumber_45 rfl (lv_at hl 0 rfl) ?_
        refine r_aload_n S dX8_takeNumber_46 rfl (lv_at hl 0 rfl) ?_
        refine r_get (K := 3) (v := .ref (G.2.2.2.1 1)) S X (Nat.le_of_ble_eq_true rfl) rfl lk8_9_0 (fun _ => ⟨_, rfl, rfl⟩) dX8_takeNumber_47 ?_
        refine r_geti (K := 1) S X (Nat.le_of_ble_eq_true rfl) rfl lk8_39_7 (fun _ => ⟨_, rfl, rfl⟩) z10 dX8_takeNumber_50 ?_
        refine r_put (K := 3) (ty := .int) S X (Nat.le_of_ble_eq_true rfl) rfl lk8_42_0 (fun _ => ⟨_, rfl, Nat.le_of_ble_eq_true rfl, rfl⟩) (fun _ _ _ h => by cases h; exact ⟨rfl, rfl⟩) rfl rfl dX8_takeNumber_53 (fun t29 H lc M30 X31 => ?_)
        have I32 := Inv_mu hI M30 (R_any v9)
        have F33 : Fr [(3, 1), (3, 2), (1, 3), (1, 4), (1, 5), (1, 7), (1, 8)] [201] τ t29 := Fr_mu Fr_rfl M30 (by decide)
        refine r_aload_n S dX8_takeNumber_56 rfl (lv_at hl 0 rfl) ?_
        refine r_get (K := 3) (v := .ref (G.2.2.2.1 1)) S X31 (Nat.le_of_ble_eq_true rfl) rfl lk8_9_0 (fun _ => ⟨_, rfl, rfl⟩) dX8_takeNumber_57 ?_
        refine r_kv (q_V (As := []) (rest := []) (K := 1) (ci := 7) S X31 (c_X7_step l G t29 I32 ) ck8_33 (Nat.le_of_ble_eq_true rfl) rfl (fun _ => ⟨_, rfl⟩) ⟨_, _, rfl⟩ ⟨Nat.le_of_ble_eq_true rfl, Nat.le_of_ble_eq_true rfl⟩ rfl hl.1 rfl (Nat.le_of_ble_eq_true rfl) dX8_takeNumber_60 ⟨Nat.le_refl 0, Nat.le_refl 0⟩) X31 (fun t36 H lc q34 X35 => ?_)
        unfold po_X7_step at q34
        obtain ⟨q37, q38⟩ := q34
        have F39 : Fr [(3, 1), (3, 2), (1, 3), (1, 4), (1, 5), (1, 7), (1, 8)] [201] τ t36 := Fr_call F33 q38 (by decide)
        refine r_iconst S dX8_takeNumber_63 (by decide) (fun v40 z41 => ?_)
        have r42 := R_eq z41
        exact r_ret S hr hlk X35 ⟨q37, F39, (R_of r42 rfl), (fun h => (by rw [((q38 3 2 (by decide)).trans M30.1)]; exact R_of r28 rfl))⟩ (nr_bool (R_of (lo := 0) (hi := 1) r42 rfl)) dX8_takeNumber_64
      ·
        have r43 : R (21) (2147483647) v9 := ⟨by omega, by omega⟩
        refine r_aload_n S dX8_takeNumber_39 rfl (lv_at hl 0 rfl) ?_
        refine r_iconst S dX8_takeNumber_40 (by decide) (fun v44 z45 => ?_)
        have r46 := R_eq z45
        refine r_ki (q_U (As := [.int v44]) (rest := []) (K := 3) (ci := 0) S X (c_X8_fail_3 l G τ hI v44 (R_of (lo := -2147483648) (hi := 2147483647) r46 rfl)) ck8_29_0 (Nat.le_of_ble_eq_true rfl) rfl (fun _ => ⟨_, rfl⟩) ⟨_, _, rfl⟩ ⟨Nat.le_of_ble_eq_true rfl, Nat.le_of_ble_eq_true rfl⟩ rfl hl.1 rfl (Nat.le_of_ble_eq_true rfl) dX8_takeNumber_41 ⟨Nat.le_refl 0, Nat.le_refl 0⟩) X (fun v50 t49 H lc q47 X48 => ?_)
        unfold po_X8_fail_3 at q47
        obtain ⟨q51, q52, q53⟩ := q47
        have F54 : Fr [(3, 1), (3, 2), (1, 3), (1, 4), (1, 5), (1, 7), (1, 8)] [201] τ t49 := Fr_call Fr_rfl q52 (by decide)
        exact r_ret S hr hlk X48 ⟨q51, F54, (R_of q53 rfl), (fun h => by exfalso; omega)⟩ (nr_bool (R_of (lo := 0) (hi := 1) q53 rfl)) dX8_takeNumber_44
  ·
    refine r_aload_n S dX8_takeNumber_11 rfl (lv_at hl 0 rfl) ?_
    refine r_iconst S dX8_takeNumber_12 (by decide) (fun v55 z56 => ?_)
    have r57 := R_eq z56
    refine r_ki (q_U (As := [.int v55]) (rest := []) (K := 3) (ci := 0) S X (c_X8_fail_3 l G τ hI v55 (R_of (lo := -2147483648) (hi := 2147483647) r57 rfl)) ck8_29_0 (Nat.le_of_ble_eq_true rfl) rfl (fun _ => ⟨_, rfl⟩) ⟨_, _, rfl⟩ ⟨Nat.le_of_ble_eq_true rfl, Nat.le_of_ble_eq_true rfl⟩ rfl hl.1 rfl (Nat.le_of_ble_eq_true rfl) dX8_takeNumber_13 ⟨Nat.le_refl 0, Nat.le_refl 0⟩) X (fun v61 t60 H lc q58 X59 => ?_)
    unfold po_X8_fail_3 at q58
    obtain ⟨q62, q63, q64⟩ := q58
    have F65 : Fr [(3, 1), (3, 2), (1, 3), (1, 4), (1, 5), (1, 7), (1, 8)] [201] τ t60 := Fr_call Fr_rfl q63 (by decide)
    exact r_ret S hr hlk X59 ⟨q62, F65, (R_of q64 rfl), (fun h => by exfalso; omega)⟩ (nr_bool (R_of (lo := 0) (hi := 1) q64 rfl)) dX8_takeNumber_16
def po_X8_takeNumber_3_1_9 (τ : Tau)  (a0 a1 : Int32)   (r : Int32) (u : Tau) : Prop := Inv u ∧ Fr [(3, 1), (3, 2), (1, 3), (1, 4), (1, 5), (1, 7), (1, 8)] [201] τ u ∧ R (0) (1) r ∧ (r.toInt = 1 → R (1) (9) (u 3 2))
set_option maxHeartbeats 4000000 in
set_option maxRecDepth 100000 in
theorem c_X8_takeNumber_3_1_9 (l : Launch) (G : Gx) (τ : Tau) (hI : Inv τ) (a0 : Int32) (a1 : Int32) (h_a0 : R (1) (1) a0) (h_a1 : R (9) (9) a1) : Ci l G yX8_takeNumber cX8_takeNumber 3 (some .boolean) 1 24 [.ref (G.2.2.2.1 3), .int a0, .int a1] τ (po_X8_takeNumber_3_1_9 τ  a0 a1  ) := by
  unfold Ci
  refine C_of (own := RX8) (by decide) rfl (Nat.le_of_ble_eq_true rfl) ?_
  intro p e s m below meth c ls S hr hlk X hl
  have hl : lv_has ls 3 [(0, .ref (G.2.2.2.1 3)), (1, .int a0), (2, .int a1)] := hl
  refine r_aload_n S dX8_takeNumber_0 rfl (lv_at hl 0 rfl) ?_
  refine r_get (K := 3) (v := .ref (G.2.2.2.1 1)) S X (Nat.le_of_ble_eq_true rfl) rfl lk8_9_0 (fun _ => ⟨_, rfl, rfl⟩) dX8_takeNumber_1 ?_
  refine r_getn (K := 1) S X (Nat.le_of_ble_eq_true rfl) rfl lk8_36_7 (fun _ => ⟨_, rfl, rfl⟩) dX8_takeNumber_4 (fun v1 z2 => ?_)
  have r3 : R (0) (4) v1 := rd hI rfl z2
  refine r_iconst S dX8_takeNumber_7 (by decide) (fun v4 z5 => ?_)
  have r6 := R_eq z5
  refine r_icmp_eq (tgt := 17) S dX8_takeNumber_8 (by decide) (fun c7 => ?_) (fun c7 => ?_)
  ·
    have r8 : R (3) (3) v1 := ⟨by omega, by omega⟩
    refine r_aload_n S dX8_takeNumber_17 rfl (lv_at hl 0 rfl) ?_
    refine r_get (K := 3) (v := .ref (G.2.2.2.1 1)) S X (Nat.le_of_ble_eq_true rfl) rfl lk8_9_0 (fun _ => ⟨_, rfl, rfl⟩) dX8_takeNumber_18 ?_
    refine r_getn (K := 1) S X (Nat.le_of_ble_eq_true rfl) rfl lk8_39_7 (fun _ => ⟨_, rfl, rfl⟩) dX8_takeNumber_21 (fun v9 z10 => ?_)
    have r12 := R_any v9
    refine r_iload_n S dX8_takeNumber_24 rfl (lv_at hl 1 rfl) ?_
    refine r_icmp_lt (tgt := 39) S dX8_takeNumber_25 (by decide) (fun c13 => ?_) (fun c13 => ?_)
    ·
      have r14 : R (-2147483648) (0) v9 := ⟨by omega, by omega⟩
      refine r_aload_n S dX8_takeNumber_39 rfl (lv_at hl 0 rfl) ?_
      refine r_iconst S dX8_takeNumber_40 (by decide) (fun v15 z16 => ?_)
      have r17 := R_eq z16
      refine r_ki (q_U (As := [.int v15]) (rest := []) (K := 3) (ci := 0) S X (c_X8_fail_3 l G τ hI v15 (R_of (lo := -2147483648) (hi := 2147483647) r17 rfl)) ck8_29_0 (Nat.le_of_ble_eq_true rfl) rfl (fun _ => ⟨_, rfl⟩) ⟨_, _, rfl⟩ ⟨Nat.le_of_ble_eq_true rfl, Nat.le_of_ble_eq_true rfl⟩ rfl hl.1 rfl (Nat.le_of_ble_eq_true rfl) dX8_takeNumber_41 ⟨Nat.le_refl 0, Nat.le_refl 0⟩) X (fun v21 t20 H lc q18 X19 => ?_)
      unfold po_X8_fail_3 at q18
      obtain ⟨q22, q23, q24⟩ := q18
      have F25 : Fr [(3, 1), (3, 2), (1, 3), (1, 4), (1, 5), (1, 7), (1, 8)] [201] τ t20 := Fr_call Fr_rfl q23 (by decide)
      exact r_ret S hr hlk X19 ⟨q22, F25, (R_of q24 rfl), (fun h => by exfalso; omega)⟩ (nr_bool (R_of (lo := 0) (hi := 1) q24 rfl)) dX8_takeNumber_44
    ·
      have r26 : R (1) (2147483647) v9 := ⟨by omega, by omega⟩
      refine r_aload_n S dX8_takeNumber_28 rfl (lv_at hl 0 rfl) ?_
      refine r_get (K := 3) (v := .ref (G.2.2.2.1 1)) S X (Nat.le_of_ble_eq_true rfl) rfl lk8_9_0 (fun _ => ⟨_, rfl, rfl⟩) dX8_takeNumber_29 ?_
      refine r_geti (K := 1) S X (Nat.le_of_ble_eq_true rfl) rfl lk8_39_7 (fun _ => ⟨_, rfl, rfl⟩) z10 dX8_takeNumber_32 ?_
      refine r_iload_n S dX8_takeNumber_35 rfl (lv_at hl 2 rfl) ?_
      refine r_icmp_le (tgt := 45) S dX8_takeNumber_36 (by decide) (fun c27 => ?_) (fun c27 => ?_)
      ·
        have r28 : R (1) (9) v9 := ⟨by omega, by omega⟩
        refine r_aload_n S dX8_takeNumber_45 rfl (lv_at hl 0 rfl) ?_
        refine r_aload_n S dX8_takeNumber_46 rfl (lv_at hl 0 rfl) ?_
        refine r_get (K := 3) (v := .ref (G.2.2.2.1 1)) S X (Nat.le_of_ble_eq_true rfl) rfl lk8_9_0 (fun _ => ⟨_, rfl, rfl⟩) dX8_takeNumber_47 ?_
        refine r_geti (K := 1) S X (Nat.le_of_ble_eq_true rfl) rfl lk8_39_7 (fun _ => ⟨_, rfl, rfl⟩) z10 dX8_takeNumber_50 ?_
        refine r_put (K := 3) (ty := .int) S X (Nat.le_of_ble_eq_true rfl) rfl lk8_42_0 (fun _ => ⟨_, rfl, Nat.le_of_ble_eq_true rfl, rfl⟩) (fun _ _ _ h => by cases h; exact ⟨rfl, rfl⟩) rfl rfl dX8_takeNumber_53 (fun t29 H lc M30 X31 => ?_)
        have I32 := Inv_mu hI M30 (R_any v9)
        have F33 : Fr [(3, 1), (3, 2), (1, 3), (1, 4), (1, 5), (1, 7), (1, 8)] [201] τ t29 := Fr_mu Fr_rfl M30 (by decide)
        refine r_aload_n S dX8_takeNumber_56 rfl (lv_at hl 0 rfl) ?_
        refine r_get (K := 3) (v := .ref (G.2.2.2.1 1)) S X31 (Nat.le_of_ble_eq_true rfl) rfl lk8_9_0 (fun _ => ⟨_, rfl, rfl⟩) dX8_takeNumber_57 ?_
        refine r_kv (q_V (As := []) (rest := []) (K := 1) (ci := 7) S X31 (c_X7_step l G t29 I32 ) ck8_33 (Nat.le_of_ble_eq_true rfl) rfl (fun _ => ⟨_, rfl⟩) ⟨_, _, rfl⟩ ⟨Nat.le_of_ble_eq_true rfl, Nat.le_of_ble_eq_true rfl⟩ rfl hl.1 rfl (Nat.le_of_ble_eq_true rfl) dX8_takeNumber_60 ⟨Nat.le_refl 0, Nat.le_refl 0⟩) X31 (fun t36 H lc q34 X35 => ?_)
        unfold po_X7_step at q34
        obtain ⟨q37, q38⟩ := q34
        have F39 : Fr [(3, 1), (3, 2), (1, 3), (1, 4), (1, 5), (1, 7), (1, 8)] [201] τ t36 := Fr_call F33 q38 (by decide)
        refine r_iconst S dX8_takeNumber_63 (by decide) (fun v40 z41 => ?_)
        have r42 := R_eq z41
        exact r_ret S hr hlk X35 ⟨q37, F39, (R_of r42 rfl), (fun h => (by rw [((q38 3 2 (by decide)).trans M30.1)]; exact R_of r28 rfl))⟩ (nr_bool (R_of (lo := 0) (hi := 1) r42 rfl)) dX8_takeNumber_64
      ·
        have r43 : R (10) (2147483647) v9 := ⟨by omega, by omega⟩
        refine r_aload_n S dX8_takeNumber_39 rfl (lv_at hl 0 rfl) ?_
        refine r_iconst S dX8_takeNumber_40 (by decide) (fun v44 z45 => ?_)
        have r46 := R_eq z45
        refine r_ki (q_U (As := [.int v44]) (rest := []) (K := 3) (ci := 0) S X (c_X8_fail_3 l G τ hI v44 (R_of (lo := -2147483648) (hi := 2147483647) r46 rfl)) ck8_29_0 (Nat.le_of_ble_eq_true rfl) rfl (fun _ => ⟨_, rfl⟩) ⟨_, _, rfl⟩ ⟨Nat.le_of_ble_eq_true rfl, Nat.le_of_ble_eq_true rfl⟩ rfl hl.1 rfl (Nat.le_of_ble_eq_true rfl) dX8_takeNumber_41 ⟨Nat.le_refl 0, Nat.le_refl 0⟩) X (fun v50 t49 H lc q47 X48 => ?_)
        unfold po_X8_fail_3 at q47
        obtain ⟨q51, q52, q53⟩ := q47
        have F54 : Fr [(3, 1), (3, 2), (1, 3), (1, 4), (1, 5), (1, 7), (1, 8)] [201] τ t49 := Fr_call Fr_rfl q52 (by decide)
        exact r_ret S hr hlk X48 ⟨q51, F54, (R_of q53 rfl), (fun h => by exfalso; omega)⟩ (nr_bool (R_of (lo := 0) (hi := 1) q53 rfl)) dX8_takeNumber_44
  ·
    refine r_aload_n S dX8_takeNumber_11 rfl (lv_at hl 0 rfl) ?_
    refine r_iconst S dX8_takeNumber_12 (by decide) (fun v55 z56 => ?_)
    have r57 := R_eq z56
    refine r_ki (q_U (As := [.int v55]) (rest := []) (K := 3) (ci := 0) S X (c_X8_fail_3 l G τ hI v55 (R_of (lo := -2147483648) (hi := 2147483647) r57 rfl)) ck8_29_0 (Nat.le_of_ble_eq_true rfl) rfl (fun _ => ⟨_, rfl⟩) ⟨_, _, rfl⟩ ⟨Nat.le_of_ble_eq_true rfl, Nat.le_of_ble_eq_true rfl⟩ rfl hl.1 rfl (Nat.le_of_ble_eq_true rfl) dX8_takeNumber_13 ⟨Nat.le_refl 0, Nat.le_refl 0⟩) X (fun v61 t60 H lc q58 X59 => ?_)
    unfold po_X8_fail_3 at q58
    obtain ⟨q62, q63, q64⟩ := q58
    have F65 : Fr [(3, 1), (3, 2), (1, 3), (1, 4), (1, 5), (1, 7), (1, 8)] [201] τ t60 := Fr_call Fr_rfl q63 (by decide)
    exact r_ret S hr hlk X59 ⟨q62, F65, (R_of q64 rfl), (fun h => by exfalso; omega)⟩ (nr_bool (R_of (lo := 0) (hi := 1) q64 rfl)) dX8_takeNumber_16
def po_X8_takeYesOrNo_3 (τ : Tau)     (r : Int32) (u : Tau) : Prop := Inv u ∧ Fr [(3, 1), (3, 2), (1, 3), (1, 4), (1, 5), (1, 7), (1, 8)] [201] τ u ∧ R (0) (1) r ∧ (r.toInt = 1 → R (-1) (1) (u 3 2))
set_option maxHeartbeats 4000000 in
set_option maxRecDepth 100000 in
theorem c_X8_takeYesOrNo_3 (l : Launch) (G : Gx) (τ : Tau) (hI : Inv τ) : Ci l G yX8_takeYesOrNo cX8_takeYesOrNo 1 (some .boolean) 1 24 [.ref (G.2.2.2.1 3)] τ (po_X8_takeYesOrNo_3 τ    ) := by
  unfold Ci
  refine C_of (own := RX8) (by decide) rfl (Nat.le_of_ble_eq_true rfl) ?_
  intro p e s m below meth c ls S hr hlk X hl
  have hl : lv_has ls 1 [(0, .ref (G.2.2.2.1 3))] := hl
  refine r_aload_n S dX8_takeYesOrNo_0 rfl (lv_at hl 0 rfl) ?_
  refine r_get (K := 3) (v := .ref (G.2.2.2.1 1)) S X (Nat.le_of_ble_eq_true rfl) rfl lk8_9_0 (fun _ => ⟨_, rfl, rfl⟩) dX8_takeYesOrNo_1 ?_
  refine r_wst (i := 4) S X (by decide) kw16 dX8_takeYesOrNo_4 ?_
  refine r_ki (q_V (As := [.ref (G.2.2.1 4)]) (rest := []) (K := 1) (ci := 7) S X (c_X7_is l G τ hI 4 (by decide)) ck8_51 (Nat.le_of_ble_eq_true rfl) rfl (fun _ => ⟨_, rfl⟩) ⟨_, _, rfl⟩ ⟨Nat.le_of_ble_eq_true rfl, Nat.le_of_ble_eq_true rfl⟩ rfl hl.1 rfl (Nat.le_of_ble_eq_true rfl) dX8_takeYesOrNo_7 ⟨Nat.le_refl 0, Nat.le_refl 0⟩) X (fun v4 t3 H lc q1 X2 => ?_)
  unfold po_X7_is at q1
  obtain ⟨q5, q6⟩ := q1
  rw [q5] at X2
  refine r_if_ne (tgt := 32) S dX8_takeYesOrNo_10 (by decide) (fun c7 => ?_) (fun c7 => ?_)
  ·
    have r8 : R (1) (1) v4 := ⟨by omega, by omega⟩
    refine r_aload_n S dX8_takeYesOrNo_32 rfl (lv_at hl 0 rfl) ?_
    refine r_aload_n S dX8_takeYesOrNo_33 rfl (lv_at hl 0 rfl) ?_
    refine r_get (K := 3) (v := .ref (G.2.2.2.1 1)) S X2 (Nat.le_of_ble_eq_true rfl) rfl lk8_9_0 (fun _ => ⟨_, rfl, rfl⟩) dX8_takeYesOrNo_34 ?_
    refine r_wst (i := 4) S X2 (by decide) kw16 dX8_takeYesOrNo_37 ?_
    refine r_ki (q_V (As := [.ref (G.2.2.1 4)]) (rest := [.ref (G.2.2.2.1 3)]) (K := 1) (ci := 7) S X2 (c_X7_is l G τ hI 4 (by decide)) ck8_51 (Nat.le_of_ble_eq_true rfl) rfl (fun _ => ⟨_, rfl⟩) ⟨_, _, rfl⟩ ⟨Nat.le_of_ble_eq_true rfl, Nat.le_of_ble_eq_true rfl⟩ rfl hl.1 rfl (Nat.le_of_ble_eq_true rfl) dX8_takeYesOrNo_40 ⟨Nat.le_refl 0, Nat.le_refl 0⟩) X2 (fun v12 t11 H lc q9 X10 => ?_)
    unfold po_X7_is at q9
    obtain ⟨q13, q14⟩ := q9
    rw [q13] at X10
    refine r_if_eq (tgt := 50) S dX8_takeYesOrNo_43 (by decide) (fun c15 => ?_) (fun c15 => ?_)
    ·
      have r16 : R (0) (0) v12 := ⟨by omega, by omega⟩
      refine r_iconst S dX8_takeYesOrNo_50 (by decide) (fun v17 z18 => ?_)
      have r19 := R_eq z18
      refine r_put (K := 3) (ty := .int) S X10 (Nat.le_of_ble_eq_true rfl) rfl lk8_42_0 (fun _ => ⟨_, rfl, Nat.le_of_ble_eq_true rfl, rfl⟩) (fun _ _ _ h => by cases h; exact ⟨rfl, rfl⟩) rfl rfl dX8_takeYesOrNo_51 (fun t20 H lc M21 X22 => ?_)
      have I23 := Inv_mu hI M21 (R_any v17)
      have F24 : Fr [(3, 1), (3, 2), (1, 3), (1, 4), (1, 5), (1, 7), (1, 8)] [201] τ t20 := Fr_mu Fr_rfl M21 (by decide)
      refine r_aload_n S dX8_takeYesOrNo_54 rfl (lv_at hl 0 rfl) ?_
      refine r_get (K := 3) (v := .ref (G.2.2.2.1 1)) S X22 (Nat.le_of_ble_eq_true rfl) rfl lk8_9_0 (fun _ => ⟨_, rfl, rfl⟩) dX8_takeYesOrNo_55 ?_
      refine r_kv (q_V (As := []) (rest := []) (K := 1) (ci := 7) S X22 (c_X7_step l G t20 I23 ) ck8_33 (Nat.le_of_ble_eq_true rfl) rfl (fun _ => ⟨_, rfl⟩) ⟨_, _, rfl⟩ ⟨Nat.le_of_ble_eq_true rfl, Nat.le_of_ble_eq_true rfl⟩ rfl hl.1 rfl (Nat.le_of_ble_eq_true rfl) dX8_takeYesOrNo_58 ⟨Nat.le_refl 0, Nat.le_refl 0⟩) X22 (fun t27 H lc q25 X26 => ?_)
      unfold po_X7_step at q25
      obtain ⟨q28, q29⟩ := q25
      have F30 : Fr [(3, 1), (3, 2), (1, 3), (1, 4), (1, 5), (1, 7), (1, 8)] [201] τ t27 := Fr_call F24 q29 (by decide)
      refine r_iconst S dX8_takeYesOrNo_61 (by decide) (fun v31 z32 => ?_)
      have r33 := R_eq z32
      exact r_ret S hr hlk X26 ⟨q28, F30, (R_of r33 rfl), (fun h => (by rw [((q29 3 2 (by decide)).trans M21.1)]; exact R_of r19 rfl))⟩ (nr_bool (R_of (lo := 0) (hi := 1) r33 rfl)) dX8_takeYesOrNo_62
    ·
      have r34 : R (1) (1) v12 := ⟨by omega, by omega⟩
      refine r_iconst S dX8_takeYesOrNo_46 (by decide) (fun v35 z36 => ?_)
      have r37 := R_eq z36
      refine r_goto (tgt := 51) S dX8_takeYesOrNo_47 (by decide) ?_
      refine r_put (K := 3) (ty := .int) S X10 (Nat.le_of_ble_eq_true rfl) rfl lk8_42_0 (fun _ => ⟨_, rfl, Nat.le_of_ble_eq_true rfl, rfl⟩) (fun _ _ _ h => by cases h; exact ⟨rfl, rfl⟩) rfl rfl dX8_takeYesOrNo_51 (fun t38 H lc M39 X40 => ?_)
      have I41 := Inv_mu hI M39 (R_any v35)
      have F42 : Fr [(3, 1), (3, 2), (1, 3), (1, 4), (1, 5), (1, 7), (1, 8)] [201] τ t38 := Fr_mu Fr_rfl M39 (by decide)
      refine r_aload_n S dX8_takeYesOrNo_54 rfl (lv_at hl 0 rfl) ?_
      refine r_get (K := 3) (v := .ref (G.2.2.2.1 1)) S X40 (Nat.le_of_ble_eq_true rfl) rfl lk8_9_0 (fun _ => ⟨_, rfl, rfl⟩) dX8_takeYesOrNo_55 ?_
      refine r_kv (q_V (As := []) (rest := []) (K := 1) (ci := 7) S X40 (c_X7_step l G t38 I41 ) ck8_33 (Nat.le_of_ble_eq_true rfl) rfl (fun _ => ⟨_, rfl⟩) ⟨_, _, rfl⟩ ⟨Nat.le_of_ble_eq_true rfl, Nat.le_of_ble_eq_true rfl⟩ rfl hl.1 rfl (Nat.le_of_ble_eq_true rfl) dX8_takeYesOrNo_58 ⟨Nat.le_refl 0, Nat.le_refl 0⟩) X40 (fun t45 H lc q43 X44 => ?_)
      unfold po_X7_step at q43
      obtain ⟨q46, q47⟩ := q43
      have F48 : Fr [(3, 1), (3, 2), (1, 3), (1, 4), (1, 5), (1, 7), (1, 8)] [201] τ t45 := Fr_call F42 q47 (by decide)
      refine r_iconst S dX8_takeYesOrNo_61 (by decide) (fun v49 z50 => ?_)
      have r51 := R_eq z50
      exact r_ret S hr hlk X44 ⟨q46, F48, (R_of r51 rfl), (fun h => (by rw [((q47 3 2 (by decide)).trans M39.1)]; exact R_of r37 rfl))⟩ (nr_bool (R_of (lo := 0) (hi := 1) r51 rfl)) dX8_takeYesOrNo_62
  ·
    have r52 : R (0) (0) v4 := ⟨by omega, by omega⟩
    refine r_aload_n S dX8_takeYesOrNo_13 rfl (lv_at hl 0 rfl) ?_
    refine r_get (K := 3) (v := .ref (G.2.2.2.1 1)) S X2 (Nat.le_of_ble_eq_true rfl) rfl lk8_9_0 (fun _ => ⟨_, rfl, rfl⟩) dX8_takeYesOrNo_14 ?_
    refine r_wst (i := 5) S X2 (by decide) kw17 dX8_takeYesOrNo_17 ?_
    refine r_ki (q_V (As := [.ref (G.2.2.1 5)]) (rest := []) (K := 1) (ci := 7) S X2 (c_X7_is l G τ hI 5 (by decide)) ck8_51 (Nat.le_of_ble_eq_true rfl) rfl (fun _ => ⟨_, rfl⟩) ⟨_, _, rfl⟩ ⟨Nat.le_of_ble_eq_true rfl, Nat.le_of_ble_eq_true rfl⟩ rfl hl.1 rfl (Nat.le_of_ble_eq_true rfl) dX8_takeYesOrNo_20 ⟨Nat.le_refl 0, Nat.le_refl 0⟩) X2 (fun v56 t55 H lc q53 X54 => ?_)
    unfold po_X7_is at q53
    obtain ⟨q57, q58⟩ := q53
    rw [q57] at X54
    refine r_if_ne (tgt := 32) S dX8_takeYesOrNo_23 (by decide) (fun c59 => ?_) (fun c59 => ?_)
    ·
      have r60 : R (1) (1) v56 := ⟨by omega, by omega⟩
      refine r_aload_n S dX8_takeYesOrNo_32 rfl (lv_at hl 0 rfl) ?_
      refine r_aload_n S dX8_takeYesOrNo_33 rfl (lv_at hl 0 rfl) ?_
      refine r_get (K := 3) (v := .ref (G.2.2.2.1 1)) S X54 (Nat.le_of_ble_eq_true rfl) rfl lk8_9_0 (fun _ => ⟨_, rfl, rfl⟩) dX8_takeYesOrNo_34 ?_
      refine r_wst (i := 4) S X54 (by decide) kw16 dX8_takeYesOrNo_37 ?_
      refine r_ki (q_V (As := [.ref (G.2.2.1 4)]) (rest := [.ref (G.2.2.2.1 3)]) (K := 1) (ci := 7) S X54 (c_X7_is l G τ hI 4 (by decide)) ck8_51 (Nat.le_of_ble_eq_true rfl) rfl (fun _ => ⟨_, rfl⟩) ⟨_, _, rfl⟩ ⟨Nat.le_of_ble_eq_true rfl, Nat.le_of_ble_eq_true rfl⟩ rfl hl.1 rfl (Nat.le_of_ble_eq_true rfl) dX8_takeYesOrNo_40 ⟨Nat.le_refl 0, Nat.le_refl 0⟩) X54 (fun v64 t63 H lc q61 X62 => ?_)
      unfold po_X7_is at q61
      obtain ⟨q65, q66⟩ := q61
      rw [q65] at X62
      refine r_if_eq (tgt := 50) S dX8_takeYesOrNo_43 (by decide) (fun c67 => ?_) (fun c67 => ?_)
      ·
        have r68 : R (0) (0) v64 := ⟨by omega, by omega⟩
        refine r_iconst S dX8_takeYesOrNo_50 (by decide) (fun v69 z70 => ?_)
        have r71 := R_eq z70
        refine r_put (K := 3) (ty := .int) S X62 (Nat.le_of_ble_eq_true rfl) rfl lk8_42_0 (fun _ => ⟨_, rfl, Nat.le_of_ble_eq_true rfl, rfl⟩) (fun _ _ _ h => by cases h; exact ⟨rfl, rfl⟩) rfl rfl dX8_takeYesOrNo_51 (fun t72 H lc M73 X74 => ?_)
        have I75 := Inv_mu hI M73 (R_any v69)
        have F76 : Fr [(3, 1), (3, 2), (1, 3), (1, 4), (1, 5), (1, 7), (1, 8)] [201] τ t72 := Fr_mu Fr_rfl M73 (by decide)
        refine r_aload_n S dX8_takeYesOrNo_54 rfl (lv_at hl 0 rfl) ?_
        refine r_get (K := 3) (v := .ref (G.2.2.2.1 1)) S X74 (Nat.le_of_ble_eq_true rfl) rfl lk8_9_0 (fun _ => ⟨_, rfl, rfl⟩) dX8_takeYesOrNo_55 ?_
        refine r_kv (q_V (As := []) (rest := []) (K := 1) (ci := 7) S X74 (c_X7_step l G t72 I75 ) ck8_33 (Nat.le_of_ble_eq_true rfl) rfl (fun _ => ⟨_, rfl⟩) ⟨_, _, rfl⟩ ⟨Nat.le_of_ble_eq_true rfl, Nat.le_of_ble_eq_true rfl⟩ rfl hl.1 rfl (Nat.le_of_ble_eq_true rfl) dX8_takeYesOrNo_58 ⟨Nat.le_refl 0, Nat.le_refl 0⟩) X74 (fun t79 H lc q77 X78 => ?_)
        unfold po_X7_step at q77
        obtain ⟨q80, q81⟩ := q77
        have F82 : Fr [(3, 1), (3, 2), (1, 3), (1, 4), (1, 5), (1, 7), (1, 8)] [201] τ t79 := Fr_call F76 q81 (by decide)
        refine r_iconst S dX8_takeYesOrNo_61 (by decide) (fun v83 z84 => ?_)
        have r85 := R_eq z84
        exact r_ret S hr hlk X78 ⟨q80, F82, (R_of r85 rfl), (fun h => (by rw [((q81 3 2 (by decide)).trans M73.1)]; exact R_of r71 rfl))⟩ (nr_bool (R_of (lo := 0) (hi := 1) r85 rfl)) dX8_takeYesOrNo_62
      ·
        have r86 : R (1) (1) v64 := ⟨by omega, by omega⟩
        refine r_iconst S dX8_takeYesOrNo_46 (by decide) (fun v87 z88 => ?_)
        have r89 := R_eq z88
        refine r_goto (tgt := 51) S dX8_takeYesOrNo_47 (by decide) ?_
        refine r_put (K := 3) (ty := .int) S X62 (Nat.le_of_ble_eq_true rfl) rfl lk8_42_0 (fun _ => ⟨_, rfl, Nat.le_of_ble_eq_true rfl, rfl⟩) (fun _ _ _ h => by cases h; exact ⟨rfl, rfl⟩) rfl rfl dX8_takeYesOrNo_51 (fun t90 H lc M91 X92 => ?_)
        have I93 := Inv_mu hI M91 (R_any v87)
        have F94 : Fr [(3, 1), (3, 2), (1, 3), (1, 4), (1, 5), (1, 7), (1, 8)] [201] τ t90 := Fr_mu Fr_rfl M91 (by decide)
        refine r_aload_n S dX8_takeYesOrNo_54 rfl (lv_at hl 0 rfl) ?_
        refine r_get (K := 3) (v := .ref (G.2.2.2.1 1)) S X92 (Nat.le_of_ble_eq_true rfl) rfl lk8_9_0 (fun _ => ⟨_, rfl, rfl⟩) dX8_takeYesOrNo_55 ?_
        refine r_kv (q_V (As := []) (rest := []) (K := 1) (ci := 7) S X92 (c_X7_step l G t90 I93 ) ck8_33 (Nat.le_of_ble_eq_true rfl) rfl (fun _ => ⟨_, rfl⟩) ⟨_, _, rfl⟩ ⟨Nat.le_of_ble_eq_true rfl, Nat.le_of_ble_eq_true rfl⟩ rfl hl.1 rfl (Nat.le_of_ble_eq_true rfl) dX8_takeYesOrNo_58 ⟨Nat.le_refl 0, Nat.le_refl 0⟩) X92 (fun t97 H lc q95 X96 => ?_)
        unfold po_X7_step at q95
        obtain ⟨q98, q99⟩ := q95
        have F100 : Fr [(3, 1), (3, 2), (1, 3), (1, 4), (1, 5), (1, 7), (1, 8)] [201] τ t97 := Fr_call F94 q99 (by decide)
        refine r_iconst S dX8_takeYesOrNo_61 (by decide) (fun v101 z102 => ?_)
        have r103 := R_eq z102
        exact r_ret S hr hlk X96 ⟨q98, F100, (R_of r103 rfl), (fun h => (by rw [((q99 3 2 (by decide)).trans M91.1)]; exact R_of r89 rfl))⟩ (nr_bool (R_of (lo := 0) (hi := 1) r103 rfl)) dX8_takeYesOrNo_62
    ·
      have r104 : R (0) (0) v56 := ⟨by omega, by omega⟩
      refine r_aload_n S dX8_takeYesOrNo_26 rfl (lv_at hl 0 rfl) ?_
      refine r_iconst S dX8_takeYesOrNo_27 (by decide) (fun v105 z106 => ?_)
      have r107 := R_eq z106
      refine r_ki (q_U (As := [.int v105]) (rest := []) (K := 3) (ci := 0) S X54 (c_X8_fail_3 l G τ hI v105 (R_of (lo := -2147483648) (hi := 2147483647) r107 rfl)) ck8_29_0 (Nat.le_of_ble_eq_true rfl) rfl (fun _ => ⟨_, rfl⟩) ⟨_, _, rfl⟩ ⟨Nat.le_of_ble_eq_true rfl, Nat.le_of_ble_eq_true rfl⟩ rfl hl.1 rfl (Nat.le_of_ble_eq_true rfl) dX8_takeYesOrNo_28 ⟨Nat.le_refl 0, Nat.le_refl 0⟩) X54 (fun v111 t110 H lc q108 X109 => ?_)
      unfold po_X8_fail_3 at q108
      obtain ⟨q112, q113, q114⟩ := q108
      have F115 : Fr [(3, 1), (3, 2), (1, 3), (1, 4), (1, 5), (1, 7), (1, 8)] [201] τ t110 := Fr_call Fr_rfl q113 (by decide)
      exact r_ret S hr hlk X109 ⟨q112, F115, (R_of q114 rfl), (fun h => by exfalso; omega)⟩ (nr_bool (R_of (lo := 0) (hi := 1) q114 rfl)) dX8_takeYesOrNo_31
def po_X8_seeMan_3 (τ : Tau)     (r : Int32) (u : Tau) : Prop := Inv u ∧ Fr [(3, 1), (3, 2)] [] τ u ∧ R (0) (1) r ∧ (r.toInt = 1 → R (0) (9) (u 3 2))
set_option maxHeartbeats 4000000 in
set_option maxRecDepth 100000 in
theorem c_X8_seeMan_3 (l : Launch) (G : Gx) (τ : Tau) (hI : Inv τ) : Ci l G yX8_seeMan cX8_seeMan 2 (some .boolean) 1 23 [.ref (G.2.2.2.1 3), .ref (G.2.2.2.1 4)] τ (po_X8_seeMan_3 τ    ) := by
  unfold Ci
  refine C_of (own := RX8) (by decide) rfl (Nat.le_of_ble_eq_true rfl) ?_
  intro p e s m below meth c ls S hr hlk X hl
  have hl : lv_has ls 2 [(0, .ref (G.2.2.2.1 3)), (1, .ref (G.2.2.2.1 4))] := hl
  refine r_aload_n S dX8_seeMan_0 rfl (lv_at hl 0 rfl) ?_
  refine r_get (K := 3) (v := .ref (G.2.2.2.1 1)) S X (Nat.le_of_ble_eq_true rfl) rfl lk8_9_0 (fun _ => ⟨_, rfl, rfl⟩) dX8_seeMan_1 ?_
  refine r_getn (K := 1) S X (Nat.le_of_ble_eq_true rfl) rfl lk8_36_7 (fun _ => ⟨_, rfl, rfl⟩) dX8_seeMan_4 (fun v1 z2 => ?_)
  have r3 : R (0) (4) v1 := rd hI rfl z2
  refine r_iconst S dX8_seeMan_7 (by decide) (fun v4 z5 => ?_)
  have r6 := R_eq z5
  refine r_icmp_ne (tgt := 24) S dX8_seeMan_8 (by decide) (fun c7 => ?_) (fun c7 => ?_)
  ·
    refine r_aload_n S dX8_seeMan_24 rfl (lv_at hl 0 rfl) ?_
    refine r_iconst S dX8_seeMan_25 (by decide) (fun v8 z9 => ?_)
    have r10 := R_eq z9
    refine r_ki (q_U (As := [.int v8]) (rest := []) (K := 3) (ci := 0) S X (c_X8_fail_3 l G τ hI v8 (R_of (lo := -2147483648) (hi := 2147483647) r10 rfl)) ck8_29_0 (Nat.le_of_ble_eq_true rfl) rfl (fun _ => ⟨_, rfl⟩) ⟨_, _, rfl⟩ ⟨Nat.le_of_ble_eq_true rfl, Nat.le_of_ble_eq_true rfl⟩ rfl hl.1 rfl (Nat.le_of_ble_eq_true rfl) dX8_seeMan_26 ⟨Nat.le_refl 0, Nat.le_refl 0⟩) X (fun v14 t13 H lc q11 X12 => ?_)
    unfold po_X8_fail_3 at q11
    obtain ⟨q15, q16, q17⟩ := q11
    have F18 : Fr [(3, 1), (3, 2)] [] τ t13 := Fr_call Fr_rfl q16 (by decide)
    exact r_ret S hr hlk X12 ⟨q15, F18, (R_of q17 rfl), (fun h => by exfalso; omega)⟩ (nr_bool (R_of (lo := 0) (hi := 1) q17 rfl)) dX8_seeMan_29
  ·
    have r19 : R (2) (2) v1 := ⟨by omega, by omega⟩
    refine r_aload_n S dX8_seeMan_11 rfl (lv_at hl 0 rfl) ?_
    refine r_get (K := 3) (v := .ref (G.2.2.2.1 1)) S X (Nat.le_of_ble_eq_true rfl) rfl lk8_9_0 (fun _ => ⟨_, rfl, rfl⟩) dX8_seeMan_12 ?_
    refine r_getJ (K := 1) S X (Nat.le_of_ble_eq_true rfl) rfl lk8_58_7 (fun _ => ⟨_, rfl, rfl⟩) dX8_seeMan_15 (fun j20 z21 => ?_)
    refine r_ki (q_S (As := [.long j20]) (rest := []) S X (c_X9_isKept l G τ hI j20) ck8_62 ⟨Nat.le_of_ble_eq_true rfl, Nat.le_of_ble_eq_true rfl⟩ rfl hl.1 rfl (Nat.le_of_ble_eq_true rfl) dX8_seeMan_18 ⟨Nat.le_refl 0, Nat.le_refl 0⟩) X (fun v25 t24 H lc q22 X23 => ?_)
    unfold po_X9_isKept at q22
    obtain ⟨q26, q27⟩ := q22
    rw [q26] at X23
    refine r_if_eq (tgt := 30) S dX8_seeMan_21 (by decide) (fun c28 => ?_) (fun c28 => ?_)
    ·
      have r29 : R (0) (0) v25 := ⟨by omega, by omega⟩
      refine r_aload_n S dX8_seeMan_30 rfl (lv_at hl 0 rfl) ?_
      refine r_aload_n S dX8_seeMan_31 rfl (lv_at hl 1 rfl) ?_
      refine r_aload_n S dX8_seeMan_32 rfl (lv_at hl 0 rfl) ?_
      refine r_get (K := 3) (v := .ref (G.2.2.2.1 1)) S X23 (Nat.le_of_ble_eq_true rfl) rfl lk8_9_0 (fun _ => ⟨_, rfl, rfl⟩) dX8_seeMan_33 ?_
      refine r_getJ (K := 1) S X23 (Nat.le_of_ble_eq_true rfl) rfl lk8_58_7 (fun _ => ⟨_, rfl, rfl⟩) dX8_seeMan_36 (fun j30 z31 => ?_)
      refine r_ki (q_V (As := [.long j30]) (rest := [.ref (G.2.2.2.1 3)]) (K := 4) (ci := 2) S X23 (c_X2_manNamed l G τ hI 4 (Nat.le_of_ble_eq_true rfl) rfl j30) ck8_66 (Nat.le_of_ble_eq_true rfl) rfl (fun _ => ⟨_, rfl⟩) ⟨_, _, rfl⟩ ⟨Nat.le_of_ble_eq_true rfl, Nat.le_of_ble_eq_true rfl⟩ rfl hl.1 rfl (Nat.le_of_ble_eq_true rfl) dX8_seeMan_39 ⟨Nat.le_refl 0, Nat.le_refl 0⟩) X23 (fun v35 t34 H lc q32 X33 => ?_)
      unfold po_X2_manNamed at q32
      obtain ⟨q36, q37⟩ := q32
      rw [q36] at X33
      refine r_put (K := 3) (ty := .int) S X33 (Nat.le_of_ble_eq_true rfl) rfl lk8_42_0 (fun _ => ⟨_, rfl, Nat.le_of_ble_eq_true rfl, rfl⟩) (fun _ _ _ h => by cases h; exact ⟨rfl, rfl⟩) rfl rfl dX8_seeMan_42 (fun t38 H lc M39 X40 => ?_)
      have I41 := Inv_mu hI M39 (R_any v35)
      have F42 : Fr [(3, 1), (3, 2)] [] τ t38 := Fr_mu Fr_rfl M39 (by decide)
      refine r_aload_n S dX8_seeMan_45 rfl (lv_at hl 0 rfl) ?_
      refine r_geti (K := 3) S X40 (Nat.le_of_ble_eq_true rfl) rfl lk8_42_0 (fun _ => ⟨_, rfl, rfl⟩) M39.1 dX8_seeMan_46 ?_
      refine r_iconst S dX8_seeMan_49 (by decide) (fun v43 z44 => ?_)
      have r45 := R_eq z44
      refine r_icmp_ne (tgt := 61) S dX8_seeMan_50 (by decide) (fun c46 => ?_) (fun c46 => ?_)
      ·
        have r47 : R (0) (9) v35 := ⟨by omega, by omega⟩
        refine r_iconst S dX8_seeMan_61 (by decide) (fun v48 z49 => ?_)
        have r50 := R_eq z49
        refine r_goto (tgt := 66) S dX8_seeMan_62 (by decide) ?_
        exact r_ret S hr hlk X40 ⟨I41, F42, (R_of r50 rfl), (fun h => (by rw [M39.1]; exact R_of r47 rfl))⟩ (nr_bool (R_of (lo := 0) (hi := 1) r50 rfl)) dX8_seeMan_66
      ·
        have r51 : R (-1) (-1) v35 := ⟨by omega, by omega⟩
        refine r_aload_n S dX8_seeMan_53 rfl (lv_at hl 0 rfl) ?_
        refine r_iconst S dX8_seeMan_54 (by decide) (fun v52 z53 => ?_)
        have r54 := R_eq z53
        refine r_ki (q_U (As := [.int v52]) (rest := []) (K := 3) (ci := 0) S X40 (c_X8_fail_3 l G t38 I41 v52 (R_of (lo := -2147483648) (hi := 2147483647) r54 rfl)) ck8_29_0 (Nat.le_of_ble_eq_true rfl) rfl (fun _ => ⟨_, rfl⟩) ⟨_, _, rfl⟩ ⟨Nat.le_of_ble_eq_true rfl, Nat.le_of_ble_eq_true rfl⟩ rfl hl.1 rfl (Nat.le_of_ble_eq_true rfl) dX8_seeMan_55 ⟨Nat.le_refl 0, Nat.le_refl 0⟩) X40 (fun v58 t57 H lc q55 X56 => ?_)
        unfold po_X8_fail_3 at q55
        obtain ⟨q59, q60, q61⟩ := q55
        have F62 : Fr [(3, 1), (3, 2)] [] τ t57 := Fr_call F42 q60 (by decide)
        refine r_if_eq (tgt := 65) S dX8_seeMan_58 (by decide) (fun c63 => ?_) (fun c63 => ?_)
        ·
          refine r_iconst S dX8_seeMan_65 (by decide) (fun v64 z65 => ?_)
          have r66 := R_eq z65
          exact r_ret S hr hlk X56 ⟨q59, F62, (R_of r66 rfl), (fun h => by exfalso; omega)⟩ (nr_bool (R_of (lo := 0) (hi := 1) r66 rfl)) dX8_seeMan_66
        ·
          exfalso; omega
    ·
      have r67 : R (1) (1) v25 := ⟨by omega, by omega⟩
      refine r_aload_n S dX8_seeMan_24 rfl (lv_at hl 0 rfl) ?_
      refine r_iconst S dX8_seeMan_25 (by decide) (fun v68 z69 => ?_)
      have r70 := R_eq z69
      refine r_ki (q_U (As := [.int v68]) (rest := []) (K := 3) (ci := 0) S X23 (c_X8_fail_3 l G τ hI v68 (R_of (lo := -2147483648) (hi := 2147483647) r70 rfl)) ck8_29_0 (Nat.le_of_ble_eq_true rfl) rfl (fun _ => ⟨_, rfl⟩) ⟨_, _, rfl⟩ ⟨Nat.le_of_ble_eq_true rfl, Nat.le_of_ble_eq_true rfl⟩ rfl hl.1 rfl (Nat.le_of_ble_eq_true rfl) dX8_seeMan_26 ⟨Nat.le_refl 0, Nat.le_refl 0⟩) X23 (fun v74 t73 H lc q71 X72 => ?_)
      unfold po_X8_fail_3 at q71
      obtain ⟨q75, q76, q77⟩ := q71
      have F78 : Fr [(3, 1), (3, 2)] [] τ t73 := Fr_call Fr_rfl q76 (by decide)
      exact r_ret S hr hlk X72 ⟨q75, F78, (R_of q77 rfl), (fun h => by exfalso; omega)⟩ (nr_bool (R_of (lo := 0) (hi := 1) q77 rfl)) dX8_seeMan_29
def po_X8_seeAsk_3 (τ : Tau)     (r : Int32) (u : Tau) : Prop := Inv u ∧ Fr [(3, 1), (3, 2)] [] τ u ∧ R (0) (1) r ∧ (r.toInt = 1 → R (0) (8) (u 3 2))
set_option maxHeartbeats 4000000 in
set_option maxRecDepth 100000 in
theorem c_X8_seeAsk_3 (l : Launch) (G : Gx) (τ : Tau) (hI : Inv τ) : Ci l G yX8_seeAsk cX8_seeAsk 2 (some .boolean) 1 23 [.ref (G.2.2.2.1 3), .ref (G.2.2.2.1 4)] τ (po_X8_seeAsk_3 τ    ) := by
  unfold Ci
  refine C_of (own := RX8) (by decide) rfl (Nat.le_of_ble_eq_true rfl) ?_
  intro p e s m below meth c ls S hr hlk X hl
  have hl : lv_has ls 2 [(0, .ref (G.2.2.2.1 3)), (1, .ref (G.2.2.2.1 4))] := hl
  refine r_aload_n S dX8_seeAsk_0 rfl (lv_at hl 0 rfl) ?_
  refine r_get (K := 3) (v := .ref (G.2.2.2.1 1)) S X (Nat.le_of_ble_eq_true rfl) rfl lk8_9_0 (fun _ => ⟨_, rfl, rfl⟩) dX8_seeAsk_1 ?_
  refine r_getn (K := 1) S X (Nat.le_of_ble_eq_true rfl) rfl lk8_36_7 (fun _ => ⟨_, rfl, rfl⟩) dX8_seeAsk_4 (fun v1 z2 => ?_)
  have r3 : R (0) (4) v1 := rd hI rfl z2
  refine r_iconst S dX8_seeAsk_7 (by decide) (fun v4 z5 => ?_)
  have r6 := R_eq z5
  refine r_icmp_ne (tgt := 24) S dX8_seeAsk_8 (by decide) (fun c7 => ?_) (fun c7 => ?_)
  ·
    refine r_aload_n S dX8_seeAsk_24 rfl (lv_at hl 0 rfl) ?_
    refine r_iconst S dX8_seeAsk_25 (by decide) (fun v8 z9 => ?_)
    have r10 := R_eq z9
    refine r_ki (q_U (As := [.int v8]) (rest := []) (K := 3) (ci := 0) S X (c_X8_fail_3 l G τ hI v8 (R_of (lo := -2147483648) (hi := 2147483647) r10 rfl)) ck8_29_0 (Nat.le_of_ble_eq_true rfl) rfl (fun _ => ⟨_, rfl⟩) ⟨_, _, rfl⟩ ⟨Nat.le_of_ble_eq_true rfl, Nat.le_of_ble_eq_true rfl⟩ rfl hl.1 rfl (Nat.le_of_ble_eq_true rfl) dX8_seeAsk_26 ⟨Nat.le_refl 0, Nat.le_refl 0⟩) X (fun v14 t13 H lc q11 X12 => ?_)
    unfold po_X8_fail_3 at q11
    obtain ⟨q15, q16, q17⟩ := q11
    have F18 : Fr [(3, 1), (3, 2)] [] τ t13 := Fr_call Fr_rfl q16 (by decide)
    exact r_ret S hr hlk X12 ⟨q15, F18, (R_of q17 rfl), (fun h => by exfalso; omega)⟩ (nr_bool (R_of (lo := 0) (hi := 1) q17 rfl)) dX8_seeAsk_29
  ·
    have r19 : R (2) (2) v1 := ⟨by omega, by omega⟩
    refine r_aload_n S dX8_seeAsk_11 rfl (lv_at hl 0 rfl) ?_
    refine r_get (K := 3) (v := .ref (G.2.2.2.1 1)) S X (Nat.le_of_ble_eq_true rfl) rfl lk8_9_0 (fun _ => ⟨_, rfl, rfl⟩) dX8_seeAsk_12 ?_
    refine r_getJ (K := 1) S X (Nat.le_of_ble_eq_true rfl) rfl lk8_58_7 (fun _ => ⟨_, rfl, rfl⟩) dX8_seeAsk_15 (fun j20 z21 => ?_)
    refine r_ki (q_S (As := [.long j20]) (rest := []) S X (c_X9_isKept l G τ hI j20) ck8_62 ⟨Nat.le_of_ble_eq_true rfl, Nat.le_of_ble_eq_true rfl⟩ rfl hl.1 rfl (Nat.le_of_ble_eq_true rfl) dX8_seeAsk_18 ⟨Nat.le_refl 0, Nat.le_refl 0⟩) X (fun v25 t24 H lc q22 X23 => ?_)
    unfold po_X9_isKept at q22
    obtain ⟨q26, q27⟩ := q22
    rw [q26] at X23
    refine r_if_eq (tgt := 30) S dX8_seeAsk_21 (by decide) (fun c28 => ?_) (fun c28 => ?_)
    ·
      have r29 : R (0) (0) v25 := ⟨by omega, by omega⟩
      refine r_aload_n S dX8_seeAsk_30 rfl (lv_at hl 0 rfl) ?_
      refine r_aload_n S dX8_seeAsk_31 rfl (lv_at hl 1 rfl) ?_
      refine r_aload_n S dX8_seeAsk_32 rfl (lv_at hl 0 rfl) ?_
      refine r_get (K := 3) (v := .ref (G.2.2.2.1 1)) S X23 (Nat.le_of_ble_eq_true rfl) rfl lk8_9_0 (fun _ => ⟨_, rfl, rfl⟩) dX8_seeAsk_33 ?_
      refine r_getJ (K := 1) S X23 (Nat.le_of_ble_eq_true rfl) rfl lk8_58_7 (fun _ => ⟨_, rfl, rfl⟩) dX8_seeAsk_36 (fun j30 z31 => ?_)
      refine r_ki (q_V (As := [.long j30]) (rest := [.ref (G.2.2.2.1 3)]) (K := 4) (ci := 2) S X23 (c_X2_askNamed l G τ hI 4 (Nat.le_of_ble_eq_true rfl) rfl j30) ck8_72 (Nat.le_of_ble_eq_true rfl) rfl (fun _ => ⟨_, rfl⟩) ⟨_, _, rfl⟩ ⟨Nat.le_of_ble_eq_true rfl, Nat.le_of_ble_eq_true rfl⟩ rfl hl.1 rfl (Nat.le_of_ble_eq_true rfl) dX8_seeAsk_39 ⟨Nat.le_refl 0, Nat.le_refl 0⟩) X23 (fun v35 t34 H lc q32 X33 => ?_)
      unfold po_X2_askNamed at q32
      obtain ⟨q36, q37⟩ := q32
      rw [q36] at X33
      refine r_put (K := 3) (ty := .int) S X33 (Nat.le_of_ble_eq_true rfl) rfl lk8_42_0 (fun _ => ⟨_, rfl, Nat.le_of_ble_eq_true rfl, rfl⟩) (fun _ _ _ h => by cases h; exact ⟨rfl, rfl⟩) rfl rfl dX8_seeAsk_42 (fun t38 H lc M39 X40 => ?_)
      have I41 := Inv_mu hI M39 (R_any v35)
      have F42 : Fr [(3, 1), (3, 2)] [] τ t38 := Fr_mu Fr_rfl M39 (by decide)
      refine r_aload_n S dX8_seeAsk_45 rfl (lv_at hl 0 rfl) ?_
      refine r_geti (K := 3) S X40 (Nat.le_of_ble_eq_true rfl) rfl lk8_42_0 (fun _ => ⟨_, rfl, rfl⟩) M39.1 dX8_seeAsk_46 ?_
      refine r_iconst S dX8_seeAsk_49 (by decide) (fun v43 z44 => ?_)
      have r45 := R_eq z44
      refine r_icmp_ne (tgt := 61) S dX8_seeAsk_50 (by decide) (fun c46 => ?_) (fun c46 => ?_)
      ·
        have r47 : R (0) (8) v35 := ⟨by omega, by omega⟩
        refine r_iconst S dX8_seeAsk_61 (by decide) (fun v48 z49 => ?_)
        have r50 := R_eq z49
        refine r_goto (tgt := 66) S dX8_seeAsk_62 (by decide) ?_
        exact r_ret S hr hlk X40 ⟨I41, F42, (R_of r50 rfl), (fun h => (by rw [M39.1]; exact R_of r47 rfl))⟩ (nr_bool (R_of (lo := 0) (hi := 1) r50 rfl)) dX8_seeAsk_66
      ·
        have r51 : R (-1) (-1) v35 := ⟨by omega, by omega⟩
        refine r_aload_n S dX8_seeAsk_53 rfl (lv_at hl 0 rfl) ?_
        refine r_iconst S dX8_seeAsk_54 (by decide) (fun v52 z53 => ?_)
        have r54 := R_eq z53
        refine r_ki (q_U (As := [.int v52]) (rest := []) (K := 3) (ci := 0) S X40 (c_X8_fail_3 l G t38 I41 v52 (R_of (lo := -2147483648) (hi := 2147483647) r54 rfl)) ck8_29_0 (Nat.le_of_ble_eq_true rfl) rfl (fun _ => ⟨_, rfl⟩) ⟨_, _, rfl⟩ ⟨Nat.le_of_ble_eq_true rfl, Nat.le_of_ble_eq_true rfl⟩ rfl hl.1 rfl (Nat.le_of_ble_eq_true rfl) dX8_seeAsk_55 ⟨Nat.le_refl 0, Nat.le_refl 0⟩) X40 (fun v58 t57 H lc q55 X56 => ?_)
        unfold po_X8_fail_3 at q55
        obtain ⟨q59, q60, q61⟩ := q55
        have F62 : Fr [(3, 1), (3, 2)] [] τ t57 := Fr_call F42 q60 (by decide)
        refine r_if_eq (tgt := 65) S dX8_seeAsk_58 (by decide) (fun c63 => ?_) (fun c63 => ?_)
        ·
          refine r_iconst S dX8_seeAsk_65 (by decide) (fun v64 z65 => ?_)
          have r66 := R_eq z65
          exact r_ret S hr hlk X56 ⟨q59, F62, (R_of r66 rfl), (fun h => by exfalso; omega)⟩ (nr_bool (R_of (lo := 0) (hi := 1) r66 rfl)) dX8_seeAsk_66
        ·
          exfalso; omega
    ·
      have r67 : R (1) (1) v25 := ⟨by omega, by omega⟩
      refine r_aload_n S dX8_seeAsk_24 rfl (lv_at hl 0 rfl) ?_
      refine r_iconst S dX8_seeAsk_25 (by decide) (fun v68 z69 => ?_)
      have r70 := R_eq z69
      refine r_ki (q_U (As := [.int v68]) (rest := []) (K := 3) (ci := 0) S X23 (c_X8_fail_3 l G τ hI v68 (R_of (lo := -2147483648) (hi := 2147483647) r70 rfl)) ck8_29_0 (Nat.le_of_ble_eq_true rfl) rfl (fun _ => ⟨_, rfl⟩) ⟨_, _, rfl⟩ ⟨Nat.le_of_ble_eq_true rfl, Nat.le_of_ble_eq_true rfl⟩ rfl hl.1 rfl (Nat.le_of_ble_eq_true rfl) dX8_seeAsk_26 ⟨Nat.le_refl 0, Nat.le_refl 0⟩) X23 (fun v74 t73 H lc q71 X72 => ?_)
      unfold po_X8_fail_3 at q71
      obtain ⟨q75, q76, q77⟩ := q71
      have F78 : Fr [(3, 1), (3, 2)] [] τ t73 := Fr_call Fr_rfl q76 (by decide)
      exact r_ret S hr hlk X72 ⟨q75, F78, (R_of q77 rfl), (fun h => by exfalso; omega)⟩ (nr_bool (R_of (lo := 0) (hi := 1) q77 rfl)) dX8_seeAsk_29
def po_X8_fail_11 (τ : Tau)  (a0 : Int32)   (r : Int32) (u : Tau) : Prop := Inv u ∧ Fr [(11, 1)] [] τ u ∧ R (0) (0) r
set_option maxHeartbeats 4000000 in
set_option maxRecDepth 100000 in
theorem c_X8_fail_11 (l : Launch) (G : Gx) (τ : Tau) (hI : Inv τ) (a0 : Int32) (h_a0 : R (-2147483648) (2147483647) a0) : Ci l G yX8_fail cX8_fail 2 (some .boolean) 0 0 [.ref (G.2.2.2.1 11), .int a0] τ (po_X8_fail_11 τ  a0  ) := by
  unfold Ci
  refine C_of (own := RX8) (by decide) rfl (Nat.le_of_ble_eq_true rfl) ?_
  intro p e s m below meth c ls S hr hlk X hl
  have hl : lv_has ls 2 [(0, .ref (G.2.2.2.1 11)), (1, .int a0)] := hl
  refine r_aload_n S dX8_fail_0 rfl (lv_at hl 0 rfl) ?_
  refine r_iload_n S dX8_fail_1 rfl (lv_at hl 1 rfl) ?_
  refine r_put (K := 11) (ty := .int) S X (Nat.le_of_ble_eq_true rfl) rfl lk8_15_1 (fun _ => ⟨_, rfl, Nat.le_of_ble_eq_true rfl, rfl⟩) (fun _ _ _ h => by cases h; exact ⟨rfl, rfl⟩) rfl rfl dX8_fail_2 (fun t1 H lc M2 X3 => ?_)
  have I4 := Inv_mu hI M2 (R_any a0)
  have F5 : Fr [(11, 1)] [] τ t1 := Fr_mu Fr_rfl M2 (by decide)
  refine r_iconst S dX8_fail_5 (by decide) (fun v6 z7 => ?_)
  have r8 := R_eq z7
  exact r_ret S hr hlk X3 ⟨I4, F5, r8⟩ (nr_bool (R_of (lo := 0) (hi := 1) r8 rfl)) dX8_fail_6
def po_X8_open_11 (τ : Tau)  (a0 : Int32)   (u : Tau) : Prop := Inv u ∧ Fr [(11, 1), (1, 2), (1, 3), (1, 4), (1, 5), (1, 7), (1, 8)] [201] τ u
set_option maxHeartbeats 4000000 in
set_option maxRecDepth 100000 in
theorem c_X8_open_11 (l : Launch) (G : Gx) (τ : Tau) (hI : Inv τ) (a0 : Int32) (h_a0 : R (0) (900) a0) : Cv l G yX8_open cX8_open 2 2 45 [.ref (G.2.2.2.1 11), .int a0] τ (po_X8_open_11 τ  a0  ) := by
  unfold Cv
  refine C_of (own := RX8) (by decide) rfl (Nat.le_of_ble_eq_true rfl) ?_
  intro p e s m below meth c ls S hr hlk X hl
  have hl : lv_has ls 2 [(0, .ref (G.2.2.2.1 11)), (1, .int a0)] := hl
  refine r_aload_n S dX8_open_0 rfl (lv_at hl 0 rfl) ?_
  refine r_iconst S dX8_open_1 (by decide) (fun v1 z2 => ?_)
  have r3 := R_eq z2
  refine r_put (K := 11) (ty := .int) S X (Nat.le_of_ble_eq_true rfl) rfl lk8_15_1 (fun _ => ⟨_, rfl, Nat.le_of_ble_eq_true rfl, rfl⟩) (fun _ _ _ h => by cases h; exact ⟨rfl, rfl⟩) rfl rfl dX8_open_2 (fun t4 H lc M5 X6 => ?_)
  have I7 := Inv_mu hI M5 (R_any v1)
  have F8 : Fr [(11, 1), (1, 2), (1, 3), (1, 4), (1, 5), (1, 7), (1, 8)] [201] τ t4 := Fr_mu Fr_rfl M5 (by decide)
  refine r_aload_n S dX8_open_5 rfl (lv_at hl 0 rfl) ?_
  refine r_get (K := 11) (v := .ref (G.2.2.2.1 1)) S X6 (Nat.le_of_ble_eq_true rfl) rfl lk8_9_1 (fun _ => ⟨_, rfl, rfl⟩) dX8_open_6 ?_
  refine r_iload_n S dX8_open_9 rfl (lv_at hl 1 rfl) ?_
  refine r_kv (q_V (As := [.int a0]) (rest := []) (K := 1) (ci := 7) S X6 (c_X7_open l G t4 I7 a0 h_a0) ck8_19 (Nat.le_of_ble_eq_true rfl) rfl (fun _ => ⟨_, rfl⟩) ⟨_, _, rfl⟩ ⟨Nat.le_of_ble_eq_true rfl, Nat.le_of_ble_eq_true rfl⟩ rfl hl.1 rfl (Nat.le_of_ble_eq_true rfl) dX8_open_10 ⟨Nat.le_refl 0, Nat.le_refl 0⟩) X6 (fun t11 H lc q9 X10 => ?_)
  unfold po_X7_open at q9
  obtain ⟨q12, q13⟩ := q9
  have F14 : Fr [(11, 1), (1, 2), (1, 3), (1, 4), (1, 5), (1, 7), (1, 8)] [201] τ t11 := Fr_call F8 q13 (by decide)
  exact r_vret S hr hlk X10 ⟨q12, F14⟩ dX8_open_13
def po_X8_takeSign_11 (τ : Tau)  (a0 : Int32)   (r : Int32) (u : Tau) : Prop := Inv u ∧ Fr [(11, 1), (1, 3), (1, 4), (1, 5), (1, 7), (1, 8)] [201] τ u ∧ R (0) (1) r
set_option maxHeartbeats 4000000 in
set_option maxRecDepth 100000 in
theorem c_X8_takeSign_11 (l : Launch) (G : Gx) (τ : Tau) (hI : Inv τ) (a0 : Int32) (h_a0 : R (0) (65535) a0) : Ci l G yX8_takeSign cX8_takeSign 2 (some .boolean) 1 24 [.ref (G.2.2.2.1 11), .int a0] τ (po_X8_takeSign_11 τ  a0  ) := by
  unfold Ci
  refine C_of (own := RX8) (by decide) rfl (Nat.le_of_ble_eq_true rfl) ?_
  intro p e s m below meth c ls S hr hlk X hl
  have hl : lv_has ls 2 [(0, .ref (G.2.2.2.1 11)), (1, .int a0)] := hl
  refine r_aload_n S dX8_takeSign_0 rfl (lv_at hl 0 rfl) ?_
  refine r_get (K := 11) (v := .ref (G.2.2.2.1 1)) S X (Nat.le_of_ble_eq_true rfl) rfl lk8_9_1 (fun _ => ⟨_, rfl, rfl⟩) dX8_takeSign_1 ?_
  refine r_iload_n S dX8_takeSign_4 rfl (lv_at hl 1 rfl) ?_
  refine r_ki (q_V (As := [.int a0]) (rest := []) (K := 1) (ci := 7) S X (c_X7_isSigned l G τ hI a0 h_a0) ck8_25 (Nat.le_of_ble_eq_true rfl) rfl (fun _ => ⟨_, rfl⟩) ⟨_, _, rfl⟩ ⟨Nat.le_of_ble_eq_true rfl, Nat.le_of_ble_eq_true rfl⟩ rfl hl.1 rfl (Nat.le_of_ble_eq_true rfl) dX8_takeSign_5 ⟨Nat.le_refl 0, Nat.le_refl 0⟩) X (fun v4 t3 H lc q1 X2 => ?_)
  unfold po_X7_isSigned at q1
  obtain ⟨q5, q6⟩ := q1
  rw [q5] at X2
  refine r_if_ne (tgt := 17) S dX8_takeSign_8 (by decide) (fun c7 => ?_) (fun c7 => ?_)
  ·
    have r8 : R (1) (1) v4 := ⟨by omega, by omega⟩
    refine r_aload_n S dX8_takeSign_17 rfl (lv_at hl 0 rfl) ?_
    refine r_get (K := 11) (v := .ref (G.2.2.2.1 1)) S X2 (Nat.le_of_ble_eq_true rfl) rfl lk8_9_1 (fun _ => ⟨_, rfl, rfl⟩) dX8_takeSign_18 ?_
    refine r_kv (q_V (As := []) (rest := []) (K := 1) (ci := 7) S X2 (c_X7_step l G τ hI ) ck8_33 (Nat.le_of_ble_eq_true rfl) rfl (fun _ => ⟨_, rfl⟩) ⟨_, _, rfl⟩ ⟨Nat.le_of_ble_eq_true rfl, Nat.le_of_ble_eq_true rfl⟩ rfl hl.1 rfl (Nat.le_of_ble_eq_true rfl) dX8_takeSign_21 ⟨Nat.le_refl 0, Nat.le_refl 0⟩) X2 (fun t11 H lc q9 X10 => ?_)
    unfold po_X7_step at q9
    obtain ⟨q12, q13⟩ := q9
    have F14 : Fr [(11, 1), (1, 3), (1, 4), (1, 5), (1, 7), (1, 8)] [201] τ t11 := Fr_call Fr_rfl q13 (by decide)
    refine r_iconst S dX8_takeSign_24 (by decide) (fun v15 z16 => ?_)
    have r17 := R_eq z16
    exact r_ret S hr hlk X10 ⟨q12, F14, (R_of r17 rfl)⟩ (nr_bool (R_of (lo := 0) (hi := 1) r17 rfl)) dX8_takeSign_25
  ·
    have r18 : R (0) (0) v4 := ⟨by omega, by omega⟩
    refine r_aload_n S dX8_takeSign_11 rfl (lv_at hl 0 rfl) ?_
    refine r_iconst S dX8_takeSign_12 (by decide) (fun v19 z20 => ?_)
    have r21 := R_eq z20
    refine r_ki (q_U (As := [.int v19]) (rest := []) (K := 11) (ci := 1) S X2 (c_X8_fail_11 l G τ hI v19 (R_of (lo := -2147483648) (hi := 2147483647) r21 rfl)) ck8_29_1 (Nat.le_of_ble_eq_true rfl) rfl (fun _ => ⟨_, rfl⟩) ⟨_, _, rfl⟩ ⟨Nat.le_of_ble_eq_true rfl, Nat.le_of_ble_eq_true rfl⟩ rfl hl.1 rfl (Nat.le_of_ble_eq_true rfl) dX8_takeSign_13 ⟨Nat.le_refl 0, Nat.le_refl 0⟩) X2 (fun v25 t24 H lc q22 X23 => ?_)
    unfold po_X8_fail_11 at q22
    obtain ⟨q26, q27, q28⟩ := q22
    have F29 : Fr [(11, 1), (1, 3), (1, 4), (1, 5), (1, 7), (1, 8)] [201] τ t24 := Fr_call Fr_rfl q27 (by decide)
    exact r_ret S hr hlk X23 ⟨q26, F29, (R_of q28 rfl)⟩ (nr_bool (R_of (lo := 0) (hi := 1) q28 rfl)) dX8_takeSign_16
def po_X8_takeNumber_11_0_9 (τ : Tau)  (a0 a1 : Int32)   (r : Int32) (u : Tau) : Prop := Inv u ∧ Fr [(11, 1), (11, 2), (1, 3), (1, 4), (1, 5), (1, 7), (1, 8)] [201] τ u ∧ R (0) (1) r ∧ (r.toInt = 1 → R (0) (9) (u 11 2))
set_option maxHeartbeats 4000000 in
set_option maxRecDepth 100000 in
theorem c_X8_takeNumber_11_0_9 (l : Launch) (G : Gx) (τ : Tau) (hI : Inv τ) (a0 : Int32) (a1 : Int32) (h_a0 : R (0) (0) a0) (h_a1 : R (9) (9) a1) : Ci l G yX8_takeNumber cX8_takeNumber 3 (some .boolean) 1 24 [.ref (G.2.2.2.1 11), .int a0, .int a1] τ (po_X8_takeNumber_11_0_9 τ  a0 a1  ) := by
  unfold Ci
  refine C_of (own := RX8) (by decide) rfl (Nat.le_of_ble_eq_true rfl) ?_
  intro p e s m below meth c ls S hr hlk X hl
  have hl : lv_has ls 3 [(0, .ref (G.2.2.2.1 11)), (1, .int a0), (2, .int a1)] := hl
  refine r_aload_n S dX8_takeNumber_0 rfl (lv_at hl 0 rfl) ?_
  refine r_get (K := 11) (v := .ref (G.2.2.2.1 1)) S X (Nat.le_of_ble_eq_true rfl) rfl lk8_9_1 (fun _ => ⟨_, rfl, rfl⟩) dX8_takeNumber_1 ?_
  refine r_getn (K := 1) S X (Nat.le_of_ble_eq_true rfl) rfl lk8_36_7 (fun _ => ⟨_, rfl, rfl⟩) dX8_takeNumber_4 (fun v1 z2 => ?_)
  have r3 : R (0) (4) v1 := rd hI rfl z2
  refine r_iconst S dX8_takeNumber_7 (by decide) (fun v4 z5 => ?_)
  have r6 := R_eq z5
  refine r_icmp_eq (tgt := 17) S dX8_takeNumber_8 (by decide) (fun c7 => ?_) (fun c7 => ?_)
  ·
    have r8 : R (3) (3) v1 := ⟨by omega, by omega⟩
    refine r_aload_n S dX8_takeNumber_17 rfl (lv_at hl 0 rfl) ?_
    refine r_get (K := 11) (v := .ref (G.2.2.2.1 1)) S X (Nat.le_of_ble_eq_true rfl) rfl lk8_9_1 (fun _ => ⟨_, rfl, rfl⟩) dX8_takeNumber_18 ?_
    refine r_getn (K := 1) S X (Nat.le_of_ble_eq_true rfl) rfl lk8_39_7 (fun _ => ⟨_, rfl, rfl⟩) dX8_takeNumber_21 (fun v9 z10 => ?_)
    have r12 := R_any v9
    refine r_iload_n S dX8_takeNumber_24 rfl (lv_at hl 1 rfl) ?_
    refine r_icmp_lt (tgt := 39) S dX8_takeNumber_25 (by decide) (fun c13 => ?_) (fun c13 => ?_)
    ·
      have r14 : R (-2147483648) (-1) v9 := ⟨by omega, by omega⟩
      refine r_aload_n S dX8_takeNumber_39 rfl (lv_at hl 0 rfl) ?_
      refine r_iconst S dX8_takeNumber_40 (by decide) (fun v15 z16 => ?_)
      have r17 := R_eq z16
      refine r_ki (q_U (As := [.int v15]) (rest := []) (K := 11) (ci := 1) S X (c_X8_fail_11 l G τ hI v15 (R_of (lo := -2147483648) (hi := 2147483647) r17 rfl)) ck8_29_1 (Nat.le_of_ble_eq_true rfl) rfl (fun _ => ⟨_, rfl⟩) ⟨_, _, rfl⟩ ⟨Nat.le_of_ble_eq_true rfl, Nat.le_of_ble_eq_true rfl⟩ rfl hl.1 rfl (Nat.le_of_ble_eq_true rfl) dX8_takeNumber_41 ⟨Nat.le_refl 0, Nat.le_refl 0⟩) X (fun v21 t20 H lc q18 X19 => ?_)
      unfold po_X8_fail_11 at q18
      obtain ⟨q22, q23, q24⟩ := q18
      have F25 : Fr [(11, 1), (11, 2), (1, 3), (1, 4), (1, 5), (1, 7), (1, 8)] [201] τ t20 := Fr_call Fr_rfl q23 (by decide)
      exact r_ret S hr hlk X19 ⟨q22, F25, (R_of q24 rfl), (fun h => by exfalso; omega)⟩ (nr_bool (R_of (lo := 0) (hi := 1) q24 rfl)) dX8_takeNumber_44
    ·
      have r26 : R (0) (2147483647) v9 := ⟨by omega, by omega⟩
      refine r_aload_n S dX8_takeNumber_28 rfl (lv_at hl 0 rfl) ?_
      refine r_get (K := 11) (v := .ref (G.2.2.2.1 1)) S X (Nat.le_of_ble_eq_true rfl) rfl lk8_9_1 (fun _ => ⟨_, rfl, rfl⟩) dX8_takeNumber_29 ?_
      refine r_geti (K := 1) S X (Nat.le_of_ble_eq_true rfl) rfl lk8_39_7 (fun _ => ⟨_, rfl, rfl⟩) z10 dX8_takeNumber_32 ?_
      refine r_iload_n S dX8_takeNumber_35 rfl (lv_at hl 2 rfl) ?_
      refine r_icmp_le (tgt := 45) S dX8_takeNumber_36 (by decide) (fun c27 => ?_) (fun c27 => ?_)
      ·
        have r28 : R (0) (9) v9 := ⟨by omega, by omega⟩
        refine r_aload_n S dX8_takeNumber_45 rfl (lv_at hl 0 rfl) ?_
        refine r_aload_n S dX8_takeNumber_46 rfl (lv_at hl 0 rfl) ?_
        refine r_get (K := 11) (v := .ref (G.2.2.2.1 1)) S X (Nat.le_of_ble_eq_true rfl) rfl lk8_9_1 (fun _ => ⟨_, rfl, rfl⟩) dX8_takeNumber_47 ?_
        refine r_geti (K := 1) S X (Nat.le_of_ble_eq_true rfl) rfl lk8_39_7 (fun _ => ⟨_, rfl, rfl⟩) z10 dX8_takeNumber_50 ?_
        refine r_put (K := 11) (ty := .int) S X (Nat.le_of_ble_eq_true rfl) rfl lk8_42_1 (fun _ => ⟨_, rfl, Nat.le_of_ble_eq_true rfl, rfl⟩) (fun _ _ _ h => by cases h; exact ⟨rfl, rfl⟩) rfl rfl dX8_takeNumber_53 (fun t29 H lc M30 X31 => ?_)
        have I32 := Inv_mu hI M30 (R_any v9)
        have F33 : Fr [(11, 1), (11, 2), (1, 3), (1, 4), (1, 5), (1, 7), (1, 8)] [201] τ t29 := Fr_mu Fr_rfl M30 (by decide)
        refine r_aload_n S dX8_takeNumber_56 rfl (lv_at hl 0 rfl) ?_
        refine r_get (K := 11) (v := .ref (G.2.2.2.1 1)) S X31 (Nat.le_of_ble_eq_true rfl) rfl lk8_9_1 (fun _ => ⟨_, rfl, rfl⟩) dX8_takeNumber_57 ?_
        refine r_kv (q_V (As := []) (rest := []) (K := 1) (ci := 7) S X31 (c_X7_step l G t29 I32 ) ck8_33 (Nat.le_of_ble_eq_true rfl) rfl (fun _ => ⟨_, rfl⟩) ⟨_, _, rfl⟩ ⟨Nat.le_of_ble_eq_true rfl, Nat.le_of_ble_eq_true rfl⟩ rfl hl.1 rfl (Nat.le_of_ble_eq_true rfl) dX8_takeNumber_60 ⟨Nat.le_refl 0, Nat.le_refl 0⟩) X31 (fun t36 H lc q34 X35 => ?_)
        unfold po_X7_step at q34
        obtain ⟨q37, q38⟩ := q34
        have F39 : Fr [(11, 1), (11, 2), (1, 3), (1, 4), (1, 5), (1, 7), (1, 8)] [201] τ t36 := Fr_call F33 q38 (by decide)
        refine r_iconst S dX8_takeNumber_63 (by decide) (fun v40 z41 => ?_)
        have r42 := R_eq z41
        exact r_ret S hr hlk X35 ⟨q37, F39, (R_of r42 rfl), (fun h => (by rw [((q38 11 2 (by decide)).trans M30.1)]; exact R_of r28 rfl))⟩ (nr_bool (R_of (lo := 0) (hi := 1) r42 rfl)) dX8_takeNumber_64
      ·
        have r43 : R (10) (2147483647) v9 := ⟨by omega, by omega⟩
        refine r_aload_n S dX8_takeNumber_39 rfl (lv_at hl 0 rfl) ?_
        refine r_iconst S dX8_takeNumber_40 (by decide) (fun v44 z45 => ?_)
        have r46 := R_eq z45
        refine r_ki (q_U (As := [.int v44]) (rest := []) (K := 11) (ci := 1) S X (c_X8_fail_11 l G τ hI v44 (R_of (lo := -2147483648) (hi := 2147483647) r46 rfl)) ck8_29_1 (Nat.le_of_ble_eq_true rfl) rfl (fun _ => ⟨_, rfl⟩) ⟨_, _, rfl⟩ ⟨Nat.le_of_ble_eq_true rfl, Nat.le_of_ble_eq_true rfl⟩ rfl hl.1 rfl (Nat.le_of_ble_eq_true rfl) dX8_takeNumber_41 ⟨Nat.le_refl 0, Nat.le_refl 0⟩) X (fun v50 t49 H lc q47 X48 => ?_)
        unfold po_X8_fail_11 at q47
        obtain ⟨q51, q52, q53⟩ := q47
        have F54 : Fr [(11, 1), (11, 2), (1, 3), (1, 4), (1, 5), (1, 7), (1, 8)] [201] τ t49 := Fr_call Fr_rfl q52 (by decide)
        exact r_ret S hr hlk X48 ⟨q51, F54, (R_of q53 rfl), (fun h => by exfalso; omega)⟩ (nr_bool (R_of (lo := 0) (hi := 1) q53 rfl)) dX8_takeNumber_44
  ·
    refine r_aload_n S dX8_takeNumber_11 rfl (lv_at hl 0 rfl) ?_
    refine r_iconst S dX8_takeNumber_12 (by decide) (fun v55 z56 => ?_)
    have r57 := R_eq z56
    refine r_ki (q_U (As := [.int v55]) (rest := []) (K := 11) (ci := 1) S X (c_X8_fail_11 l G τ hI v55 (R_of (lo := -2147483648) (hi := 2147483647) r57 rfl)) ck8_29_1 (Nat.le_of_ble_eq_true rfl) rfl (fun _ => ⟨_, rfl⟩) ⟨_, _, rfl⟩ ⟨Nat.le_of_ble_eq_true rfl, Nat.le_of_ble_eq_true rfl⟩ rfl hl.1 rfl (Nat.le_of_ble_eq_true rfl) dX8_takeNumber_13 ⟨Nat.le_refl 0, Nat.le_refl 0⟩) X (fun v61 t60 H lc q58 X59 => ?_)
    unfold po_X8_fail_11 at q58
    obtain ⟨q62, q63, q64⟩ := q58
    have F65 : Fr [(11, 1), (11, 2), (1, 3), (1, 4), (1, 5), (1, 7), (1, 8)] [201] τ t60 := Fr_call Fr_rfl q63 (by decide)
    exact r_ret S hr hlk X59 ⟨q62, F65, (R_of q64 rfl), (fun h => by exfalso; omega)⟩ (nr_bool (R_of (lo := 0) (hi := 1) q64 rfl)) dX8_takeNumber_16
def po_X8_takeYesOrNo_11 (τ : Tau)     (r : Int32) (u : Tau) : Prop := Inv u ∧ Fr [(11, 1), (11, 2), (1, 3), (1, 4), (1, 5), (1, 7), (1, 8)] [201] τ u ∧ R (0) (1) r ∧ (r.toInt = 1 → R (-1) (1) (u 11 2))
set_option maxHeartbeats 4000000 in
set_option maxRecDepth 100000 in
theorem c_X8_takeYesOrNo_11 (l : Launch) (G : Gx) (τ : Tau) (hI : Inv τ) : Ci l G yX8_takeYesOrNo cX8_takeYesOrNo 1 (some .boolean) 1 24 [.ref (G.2.2.2.1 11)] τ (po_X8_takeYesOrNo_11 τ    ) := by
  unfold Ci
  refine C_of (own := RX8) (by decide) rfl (Nat.le_of_ble_eq_true rfl) ?_
  intro p e s m below meth c ls S hr hlk X hl
  have hl : lv_has ls 1 [(0, .ref (G.2.2.2.1 11))] := hl
  refine r_aload_n S dX8_takeYesOrNo_0 rfl (lv_at hl 0 rfl) ?_
  refine r_get (K := 11) (v := .ref (G.2.2.2.1 1)) S X (Nat.le_of_ble_eq_true rfl) rfl lk8_9_1 (fun _ => ⟨_, rfl, rfl⟩) dX8_takeYesOrNo_1 ?_
  refine r_wst (i := 4) S X (by decide) kw16 dX8_takeYesOrNo_4 ?_
  refine r_ki (q_V (As := [.ref (G.2.2.1 4)]) (rest := []) (K := 1) (ci := 7) S X (c_X7_is l G τ hI 4 (by decide)) ck8_51 (Nat.le_of_ble_eq_true rfl) rfl (fun _ => ⟨_, rfl⟩) ⟨_, _, rfl⟩ ⟨Nat.le_of_ble_eq_true rfl, Nat.le_of_ble_eq_true rfl⟩ rfl hl.1 rfl (Nat.le_of_ble_eq_true rfl) dX8_takeYesOrNo_7 ⟨Nat.le_refl 0, Nat.le_refl 0⟩) X (fun v4 t3 H lc q1 X2 => ?_)
  unfold po_X7_is at q1
  obtain ⟨q5, q6⟩ := q1
  rw [q5] at X2
  refine r_if_ne (tgt := 32) S dX8_takeYesOrNo_10 (by decide) (fun c7 => ?_) (fun c7 => ?_)
  ·
    have r8 : R (1) (1) v4 := ⟨by omega, by omega⟩
    refine r_aload_n S dX8_takeYesOrNo_32 rfl (lv_at hl 0 rfl) ?_
    refine r_aload_n S dX8_takeYesOrNo_33 rfl (lv_at hl 0 rfl) ?_
    refine r_get (K := 11) (v := .ref (G.2.2.2.1 1)) S X2 (Nat.le_of_ble_eq_true rfl) rfl lk8_9_1 (fun _ => ⟨_, rfl, rfl⟩) dX8_takeYesOrNo_34 ?_
    refine r_wst (i := 4) S X2 (by decide) kw16 dX8_takeYesOrNo_37 ?_
    refine r_ki (q_V (As := [.ref (G.2.2.1 4)]) (rest := [.ref (G.2.2.2.1 11)]) (K := 1) (ci := 7) S X2 (c_X7_is l G τ hI 4 (by decide)) ck8_51 (Nat.le_of_ble_eq_true rfl) rfl (fun _ => ⟨_, rfl⟩) ⟨_, _, rfl⟩ ⟨Nat.le_of_ble_eq_true rfl, Nat.le_of_ble_eq_true rfl⟩ rfl hl.1 rfl (Nat.le_of_ble_eq_true rfl) dX8_takeYesOrNo_40 ⟨Nat.le_refl 0, Nat.le_refl 0⟩) X2 (fun v12 t11 H lc q9 X10 => ?_)
    unfold po_X7_is at q9
    obtain ⟨q13, q14⟩ := q9
    rw [q13] at X10
    refine r_if_eq (tgt := 50) S dX8_takeYesOrNo_43 (by decide) (fun c15 => ?_) (fun c15 => ?_)
    ·
      have r16 : R (0) (0) v12 := ⟨by omega, by omega⟩
      refine r_iconst S dX8_takeYesOrNo_50 (by decide) (fun v17 z18 => ?_)
      have r19 := R_eq z18
      refine r_put (K := 11) (ty := .int) S X10 (Nat.le_of_ble_eq_true rfl) rfl lk8_42_1 (fun _ => ⟨_, rfl, Nat.le_of_ble_eq_true rfl, rfl⟩) (fun _ _ _ h => by cases h; exact ⟨rfl, rfl⟩) rfl rfl dX8_takeYesOrNo_51 (fun t20 H lc M21 X22 => ?_)
      have I23 := Inv_mu hI M21 (R_any v17)
      have F24 : Fr [(11, 1), (11, 2), (1, 3), (1, 4), (1, 5), (1, 7), (1, 8)] [201] τ t20 := Fr_mu Fr_rfl M21 (by decide)
      refine r_aload_n S dX8_takeYesOrNo_54 rfl (lv_at hl 0 rfl) ?_
      refine r_get (K := 11) (v := .ref (G.2.2.2.1 1)) S X22 (Nat.le_of_ble_eq_true rfl) rfl lk8_9_1 (fun _ => ⟨_, rfl, rfl⟩) dX8_takeYesOrNo_55 ?_
      refine r_kv (q_V (As := []) (rest := []) (K := 1) (ci := 7) S X22 (c_X7_step l G t20 I23 ) ck8_33 (Nat.le_of_ble_eq_true rfl) rfl (fun _ => ⟨_, rfl⟩) ⟨_, _, rfl⟩ ⟨Nat.le_of_ble_eq_true rfl, Nat.le_of_ble_eq_true rfl⟩ rfl hl.1 rfl (Nat.le_of_ble_eq_true rfl) dX8_takeYesOrNo_58 ⟨Nat.le_refl 0, Nat.le_refl 0⟩) X22 (fun t27 H lc q25 X26 => ?_)
      unfold po_X7_step at q25
      obtain ⟨q28, q29⟩ := q25
      have F30 : Fr [(11, 1), (11, 2), (1, 3), (1, 4), (1, 5), (1, 7), (1, 8)] [201] τ t27 := Fr_call F24 q29 (by decide)
      refine r_iconst S dX8_takeYesOrNo_61 (by decide) (fun v31 z32 => ?_)
      have r33 := R_eq z32
      exact r_ret S hr hlk X26 ⟨q28, F30, (R_of r33 rfl), (fun h => (by rw [((q29 11 2 (by decide)).trans M21.1)]; exact R_of r19 rfl))⟩ (nr_bool (R_of (lo := 0) (hi := 1) r33 rfl)) dX8_takeYesOrNo_62
    ·
      have r34 : R (1) (1) v12 := ⟨by omega, by omega⟩
      refine r_iconst S dX8_takeYesOrNo_46 (by decide) (fun v35 z36 => ?_)
      have r37 := R_eq z36
      refine r_goto (tgt := 51) S dX8_takeYesOrNo_47 (by decide) ?_
      refine r_put (K := 11) (ty := .int) S X10 (Nat.le_of_ble_eq_true rfl) rfl lk8_42_1 (fun _ => ⟨_, rfl, Nat.le_of_ble_eq_true rfl, rfl⟩) (fun _ _ _ h => by cases h; exact ⟨rfl, rfl⟩) rfl rfl dX8_takeYesOrNo_51 (fun t38 H lc M39 X40 => ?_)
      have I41 := Inv_mu hI M39 (R_any v35)
      have F42 : Fr [(11, 1), (11, 2), (1, 3), (1, 4), (1, 5), (1, 7), (1, 8)] [201] τ t38 := Fr_mu Fr_rfl M39 (by decide)
      refine r_aload_n S dX8_takeYesOrNo_54 rfl (lv_at hl 0 rfl) ?_
      refine r_get (K := 11) (v := .ref (G.2.2.2.1 1)) S X40 (Nat.le_of_ble_eq_true rfl) rfl lk8_9_1 (fun _ => ⟨_, rfl, rfl⟩) dX8_takeYesOrNo_55 ?_
      refine r_kv (q_V (As := []) (rest := []) (K := 1) (ci := 7) S X40 (c_X7_step l G t38 I41 ) ck8_33 (Nat.le_of_ble_eq_true rfl) rfl (fun _ => ⟨_, rfl⟩) ⟨_, _, rfl⟩ ⟨Nat.le_of_ble_eq_true rfl, Nat.le_of_ble_eq_true rfl⟩ rfl hl.1 rfl (Nat.le_of_ble_eq_true rfl) dX8_takeYesOrNo_58 ⟨Nat.le_refl 0, Nat.le_refl 0⟩) X40 (fun t45 H lc q43 X44 => ?_)
      unfold po_X7_step at q43
      obtain ⟨q46, q47⟩ := q43
      have F48 : Fr [(11, 1), (11, 2), (1, 3), (1, 4), (1, 5), (1, 7), (1, 8)] [201] τ t45 := Fr_call F42 q47 (by decide)
      refine r_iconst S dX8_takeYesOrNo_61 (by decide) (fun v49 z50 => ?_)
      have r51 := R_eq z50
      exact r_ret S hr hlk X44 ⟨q46, F48, (R_of r51 rfl), (fun h => (by rw [((q47 11 2 (by decide)).trans M39.1)]; exact R_of r37 rfl))⟩ (nr_bool (R_of (lo := 0) (hi := 1) r51 rfl)) dX8_takeYesOrNo_62
  ·
    have r52 : R (0) (0) v4 := ⟨by omega, by omega⟩
    refine r_aload_n S dX8_takeYesOrNo_13 rfl (lv_at hl 0 rfl) ?_
    refine r_get (K := 11) (v := .ref (G.2.2.2.1 1)) S X2 (Nat.le_of_ble_eq_true rfl) rfl lk8_9_1 (fun _ => ⟨_, rfl, rfl⟩) dX8_takeYesOrNo_14 ?_
    refine r_wst (i := 5) S X2 (by decide) kw17 dX8_takeYesOrNo_17 ?_
    refine r_ki (q_V (As := [.ref (G.2.2.1 5)]) (rest := []) (K := 1) (ci := 7) S X2 (c_X7_is l G τ hI 5 (by decide)) ck8_51 (Nat.le_of_ble_eq_true rfl) rfl (fun _ => ⟨_, rfl⟩) ⟨_, _, rfl⟩ ⟨Nat.le_of_ble_eq_true rfl, Nat.le_of_ble_eq_true rfl⟩ rfl hl.1 rfl (Nat.le_of_ble_eq_true rfl) dX8_takeYesOrNo_20 ⟨Nat.le_refl 0, Nat.le_refl 0⟩) X2 (fun v56 t55 H lc q53 X54 => ?_)
    unfold po_X7_is at q53
    obtain ⟨q57, q58⟩ := q53
    rw [q57] at X54
    refine r_if_ne (tgt := 32) S dX8_takeYesOrNo_23 (by decide) (fun c59 => ?_) (fun c59 => ?_)
    ·
      have r60 : R (1) (1) v56 := ⟨by omega, by omega⟩
      refine r_aload_n S dX8_takeYesOrNo_32 rfl (lv_at hl 0 rfl) ?_
      refine r_aload_n S dX8_takeYesOrNo_33 rfl (lv_at hl 0 rfl) ?_
      refine r_get (K := 11) (v := .ref (G.2.2.2.1 1)) S X54 (Nat.le_of_ble_eq_true rfl) rfl lk8_9_1 (fun _ => ⟨_, rfl, rfl⟩) dX8_takeYesOrNo_34 ?_
      refine r_wst (i := 4) S X54 (by decide) kw16 dX8_takeYesOrNo_37 ?_
      refine r_ki (q_V (As := [.ref (G.2.2.1 4)]) (rest := [.ref (G.2.2.2.1 11)]) (K := 1) (ci := 7) S X54 (c_X7_is l G τ hI 4 (by decide)) ck8_51 (Nat.le_of_ble_eq_true rfl) rfl (fun _ => ⟨_, rfl⟩) ⟨_, _, rfl⟩ ⟨Nat.le_of_ble_eq_true rfl, Nat.le_of_ble_eq_true rfl⟩ rfl hl.1 rfl (Nat.le_of_ble_eq_true rfl) dX8_takeYesOrNo_40 ⟨Nat.le_refl 0, Nat.le_refl 0⟩) X54 (fun v64 t63 H lc q61 X62 => ?_)
      unfold po_X7_is at q61
      obtain ⟨q65, q66⟩ := q61
      rw [q65] at X62
      refine r_if_eq (tgt := 50) S dX8_takeYesOrNo_43 (by decide) (fun c67 => ?_) (fun c67 => ?_)
      ·
        have r68 : R (0) (0) v64 := ⟨by omega, by omega⟩
        refine r_iconst S dX8_takeYesOrNo_50 (by decide) (fun v69 z70 => ?_)
        have r71 := R_eq z70
        refine r_put (K := 11) (ty := .int) S X62 (Nat.le_of_ble_eq_true rfl) rfl lk8_42_1 (fun _ => ⟨_, rfl, Nat.le_of_ble_eq_true rfl, rfl⟩) (fun _ _ _ h => by cases h; exact ⟨rfl, rfl⟩) rfl rfl dX8_takeYesOrNo_51 (fun t72 H lc M73 X74 => ?_)
        have I75 := Inv_mu hI M73 (R_any v69)
        have F76 : Fr [(11, 1), (11, 2), (1, 3), (1, 4), (1, 5), (1, 7), (1, 8)] [201] τ t72 := Fr_mu Fr_rfl M73 (by decide)
        refine r_aload_n S dX8_takeYesOrNo_54 rfl (lv_at hl 0 rfl) ?_
        refine r_get (K := 11) (v := .ref (G.2.2.2.1 1)) S X74 (Nat.le_of_ble_eq_true rfl) rfl lk8_9_1 (fun _ => ⟨_, rfl, rfl⟩) dX8_takeYesOrNo_55 ?_
        refine r_kv (q_V (As := []) (rest := []) (K := 1) (ci := 7) S X74 (c_X7_step l G t72 I75 ) ck8_33 (Nat.le_of_ble_eq_true rfl) rfl (fun _ => ⟨_, rfl⟩) ⟨_, _, rfl⟩ ⟨Nat.le_of_ble_eq_true rfl, Nat.le_of_ble_eq_true rfl⟩ rfl hl.1 rfl (Nat.le_of_ble_eq_true rfl) dX8_takeYesOrNo_58 ⟨Nat.le_refl 0, Nat.le_refl 0⟩) X74 (fun t79 H lc q77 X78 => ?_)
        unfold po_X7_step at q77
        obtain ⟨q80, q81⟩ := q77
        have F82 : Fr [(11, 1), (11, 2), (1, 3), (1, 4), (1, 5), (1, 7), (1, 8)] [201] τ t79 := Fr_call F76 q81 (by decide)
        refine r_iconst S dX8_takeYesOrNo_61 (by decide) (fun v83 z84 => ?_)
        have r85 := R_eq z84
        exact r_ret S hr hlk X78 ⟨q80, F82, (R_of r85 rfl), (fun h => (by rw [((q81 11 2 (by decide)).trans M73.1)]; exact R_of r71 rfl))⟩ (nr_bool (R_of (lo := 0) (hi := 1) r85 rfl)) dX8_takeYesOrNo_62
      ·
        have r86 : R (1) (1) v64 := ⟨by omega, by omega⟩
        refine r_iconst S dX8_takeYesOrNo_46 (by decide) (fun v87 z88 => ?_)
        have r89 := R_eq z88
        refine r_goto (tgt := 51) S dX8_takeYesOrNo_47 (by decide) ?_
        refine r_put (K := 11) (ty := .int) S X62 (Nat.le_of_ble_eq_true rfl) rfl lk8_42_1 (fun _ => ⟨_, rfl, Nat.le_of_ble_eq_true rfl, rfl⟩) (fun _ _ _ h => by cases h; exact ⟨rfl, rfl⟩) rfl rfl dX8_takeYesOrNo_51 (fun t90 H lc M91 X92 => ?_)
        have I93 := Inv_mu hI M91 (R_any v87)
        have F94 : Fr [(11, 1), (11, 2), (1, 3), (1, 4), (1, 5), (1, 7), (1, 8)] [201] τ t90 := Fr_mu Fr_rfl M91 (by decide)
        refine r_aload_n S dX8_takeYesOrNo_54 rfl (lv_at hl 0 rfl) ?_
        refine r_get (K := 11) (v := .ref (G.2.2.2.1 1)) S X92 (Nat.le_of_ble_eq_true rfl) rfl lk8_9_1 (fun _ => ⟨_, rfl, rfl⟩) dX8_takeYesOrNo_55 ?_
        refine r_kv (q_V (As := []) (rest := []) (K := 1) (ci := 7) S X92 (c_X7_step l G t90 I93 ) ck8_33 (Nat.le_of_ble_eq_true rfl) rfl (fun _ => ⟨_, rfl⟩) ⟨_, _, rfl⟩ ⟨Nat.le_of_ble_eq_true rfl, Nat.le_of_ble_eq_true rfl⟩ rfl hl.1 rfl (Nat.le_of_ble_eq_true rfl) dX8_takeYesOrNo_58 ⟨Nat.le_refl 0, Nat.le_refl 0⟩) X92 (fun t97 H lc q95 X96 => ?_)
        unfold po_X7_step at q95
        obtain ⟨q98, q99⟩ := q95
        have F100 : Fr [(11, 1), (11, 2), (1, 3), (1, 4), (1, 5), (1, 7), (1, 8)] [201] τ t97 := Fr_call F94 q99 (by decide)
        refine r_iconst S dX8_takeYesOrNo_61 (by decide) (fun v101 z102 => ?_)
        have r103 := R_eq z102
        exact r_ret S hr hlk X96 ⟨q98, F100, (R_of r103 rfl), (fun h => (by rw [((q99 11 2 (by decide)).trans M91.1)]; exact R_of r89 rfl))⟩ (nr_bool (R_of (lo := 0) (hi := 1) r103 rfl)) dX8_takeYesOrNo_62
    ·
      have r104 : R (0) (0) v56 := ⟨by omega, by omega⟩
      refine r_aload_n S dX8_takeYesOrNo_26 rfl (lv_at hl 0 rfl) ?_
      refine r_iconst S dX8_takeYesOrNo_27 (by decide) (fun v105 z106 => ?_)
      have r107 := R_eq z106
      refine r_ki (q_U (As := [.int v105]) (rest := []) (K := 11) (ci := 1) S X54 (c_X8_fail_11 l G τ hI v105 (R_of (lo := -2147483648) (hi := 2147483647) r107 rfl)) ck8_29_1 (Nat.le_of_ble_eq_true rfl) rfl (fun _ => ⟨_, rfl⟩) ⟨_, _, rfl⟩ ⟨Nat.le_of_ble_eq_true rfl, Nat.le_of_ble_eq_true rfl⟩ rfl hl.1 rfl (Nat.le_of_ble_eq_true rfl) dX8_takeYesOrNo_28 ⟨Nat.le_refl 0, Nat.le_refl 0⟩) X54 (fun v111 t110 H lc q108 X109 => ?_)
      unfold po_X8_fail_11 at q108
      obtain ⟨q112, q113, q114⟩ := q108
      have F115 : Fr [(11, 1), (11, 2), (1, 3), (1, 4), (1, 5), (1, 7), (1, 8)] [201] τ t110 := Fr_call Fr_rfl q113 (by decide)
      exact r_ret S hr hlk X109 ⟨q112, F115, (R_of q114 rfl), (fun h => by exfalso; omega)⟩ (nr_bool (R_of (lo := 0) (hi := 1) q114 rfl)) dX8_takeYesOrNo_31
def po_X8_seeMan_11 (τ : Tau)     (r : Int32) (u : Tau) : Prop := Inv u ∧ Fr [(11, 1), (11, 2)] [] τ u ∧ R (0) (1) r ∧ (r.toInt = 1 → R (0) (9) (u 11 2))
set_option maxHeartbeats 4000000 in
set_option maxRecDepth 100000 in
theorem c_X8_seeMan_11 (l : Launch) (G : Gx) (τ : Tau) (hI : Inv τ) : Ci l G yX8_seeMan cX8_seeMan 2 (some .boolean) 1 23 [.ref (G.2.2.2.1 11), .ref (G.2.2.2.1 23)] τ (po_X8_seeMan_11 τ    ) := by
  unfold Ci
  refine C_of (own := RX8) (by decide) rfl (Nat.le_of_ble_eq_true rfl) ?_
  intro p e s m below meth c ls S hr hlk X hl
  have hl : lv_has ls 2 [(0, .ref (G.2.2.2.1 11)), (1, .ref (G.2.2.2.1 23))] := hl
  refine r_aload_n S dX8_seeMan_0 rfl (lv_at hl 0 rfl) ?_
  refine r_get (K := 11) (v := .ref (G.2.2.2.1 1)) S X (Nat.le_of_ble_eq_true rfl) rfl lk8_9_1 (fun _ => ⟨_, rfl, rfl⟩) dX8_seeMan_1 ?_
  refine r_getn (K := 1) S X (Nat.le_of_ble_eq_true rfl) rfl lk8_36_7 (fun _ => ⟨_, rfl, rfl⟩) dX8_seeMan_4 (fun v1 z2 => ?_)
  have r3 : R (0) (4) v1 := rd hI rfl z2
  refine r_iconst S dX8_seeMan_7 (by decide) (fun v4 z5 => ?_)
  have r6 := R_eq z5
  refine r_icmp_ne (tgt := 24) S dX8_seeMan_8 (by decide) (fun c7 => ?_) (fun c7 => ?_)
  ·
    refine r_aload_n S dX8_seeMan_24 rfl (lv_at hl 0 rfl) ?_
    refine r_iconst S dX8_seeMan_25 (by decide) (fun v8 z9 => ?_)
    have r10 := R_eq z9
    refine r_ki (q_U (As := [.int v8]) (rest := []) (K := 11) (ci := 1) S X (c_X8_fail_11 l G τ hI v8 (R_of (lo := -2147483648) (hi := 2147483647) r10 rfl)) ck8_29_1 (Nat.le_of_ble_eq_true rfl) rfl (fun _ => ⟨_, rfl⟩) ⟨_, _, rfl⟩ ⟨Nat.le_of_ble_eq_true rfl, Nat.le_of_ble_eq_true rfl⟩ rfl hl.1 rfl (Nat.le_of_ble_eq_true rfl) dX8_seeMan_26 ⟨Nat.le_refl 0, Nat.le_refl 0⟩) X (fun v14 t13 H lc q11 X12 => ?_)
    unfold po_X8_fail_11 at q11
    obtain ⟨q15, q16, q17⟩ := q11
    have F18 : Fr [(11, 1), (11, 2)] [] τ t13 := Fr_call Fr_rfl q16 (by decide)
    exact r_ret S hr hlk X12 ⟨q15, F18, (R_of q17 rfl), (fun h => by exfalso; omega)⟩ (nr_bool (R_of (lo := 0) (hi := 1) q17 rfl)) dX8_seeMan_29
  ·
    have r19 : R (2) (2) v1 := ⟨by omega, by omega⟩
    refine r_aload_n S dX8_seeMan_11 rfl (lv_at hl 0 rfl) ?_
    refine r_get (K := 11) (v := .ref (G.2.2.2.1 1)) S X (Nat.le_of_ble_eq_true rfl) rfl lk8_9_1 (fun _ => ⟨_, rfl, rfl⟩) dX8_seeMan_12 ?_
    refine r_getJ (K := 1) S X (Nat.le_of_ble_eq_true rfl) rfl lk8_58_7 (fun _ => ⟨_, rfl, rfl⟩) dX8_seeMan_15 (fun j20 z21 => ?_)
    refine r_ki (q_S (As := [.long j20]) (rest := []) S X (c_X9_isKept l G τ hI j20) ck8_62 ⟨Nat.le_of_ble_eq_true rfl, Nat.le_of_ble_eq_true rfl⟩ rfl hl.1 rfl (Nat.le_of_ble_eq_true rfl) dX8_seeMan_18 ⟨Nat.le_refl 0, Nat.le_refl 0⟩) X (fun v25 t24 H lc q22 X23 => ?_)
    unfold po_X9_isKept at q22
    obtain ⟨q26, q27⟩ := q22
    rw [q26] at X23
    refine r_if_eq (tgt := 30) S dX8_seeMan_21 (by decide) (fun c28 => ?_) (fun c28 => ?_)
    ·
      have r29 : R (0) (0) v25 := ⟨by omega, by omega⟩
      refine r_aload_n S dX8_seeMan_30 rfl (lv_at hl 0 rfl) ?_
      refine r_aload_n S dX8_seeMan_31 rfl (lv_at hl 1 rfl) ?_
      refine r_aload_n S dX8_seeMan_32 rfl (lv_at hl 0 rfl) ?_
      refine r_get (K := 11) (v := .ref (G.2.2.2.1 1)) S X23 (Nat.le_of_ble_eq_true rfl) rfl lk8_9_1 (fun _ => ⟨_, rfl, rfl⟩) dX8_seeMan_33 ?_
      refine r_getJ (K := 1) S X23 (Nat.le_of_ble_eq_true rfl) rfl lk8_58_7 (fun _ => ⟨_, rfl, rfl⟩) dX8_seeMan_36 (fun j30 z31 => ?_)
      refine r_ki (q_V (As := [.long j30]) (rest := [.ref (G.2.2.2.1 11)]) (K := 4) (ci := 2) S X23 (c_X2_manNamed l G τ hI 23 (Nat.le_of_ble_eq_true rfl) rfl j30) ck8_66 (Nat.le_of_ble_eq_true rfl) rfl (fun _ => ⟨_, rfl⟩) ⟨_, _, rfl⟩ ⟨Nat.le_of_ble_eq_true rfl, Nat.le_of_ble_eq_true rfl⟩ rfl hl.1 rfl (Nat.le_of_ble_eq_true rfl) dX8_seeMan_39 ⟨Nat.le_refl 0, Nat.le_refl 0⟩) X23 (fun v35 t34 H lc q32 X33 => ?_)
      unfold po_X2_manNamed at q32
      obtain ⟨q36, q37⟩ := q32
      rw [q36] at X33
      refine r_put (K := 11) (ty := .int) S X33 (Nat.le_of_ble_eq_true rfl) rfl lk8_42_1 (fun _ => ⟨_, rfl, Nat.le_of_ble_eq_true rfl, rfl⟩) (fun _ _ _ h => by cases h; exact ⟨rfl, rfl⟩) rfl rfl dX8_seeMan_42 (fun t38 H lc M39 X40 => ?_)
      have I41 := Inv_mu hI M39 (R_any v35)
      have F42 : Fr [(11, 1), (11, 2)] [] τ t38 := Fr_mu Fr_rfl M39 (by decide)
      refine r_aload_n S dX8_seeMan_45 rfl (lv_at hl 0 rfl) ?_
      refine r_geti (K := 11) S X40 (Nat.le_of_ble_eq_true rfl) rfl lk8_42_1 (fun _ => ⟨_, rfl, rfl⟩) M39.1 dX8_seeMan_46 ?_
      refine r_iconst S dX8_seeMan_49 (by decide) (fun v43 z44 => ?_)
      have r45 := R_eq z44
      refine r_icmp_ne (tgt := 61) S dX8_seeMan_50 (by decide) (fun c46 => ?_) (fun c46 => ?_)
      ·
        have r47 : R (0) (9) v35 := ⟨by omega, by omega⟩
        refine r_iconst S dX8_seeMan_61 (by decide) (fun v48 z49 => ?_)
        have r50 := R_eq z49
        refine r_goto (tgt := 66) S dX8_seeMan_62 (by decide) ?_
        exact r_ret S hr hlk X40 ⟨I41, F42, (R_of r50 rfl), (fun h => (by rw [M39.1]; exact R_of r47 rfl))⟩ (nr_bool (R_of (lo := 0) (hi := 1) r50 rfl)) dX8_seeMan_66
      ·
        have r51 : R (-1) (-1) v35 := ⟨by omega, by omega⟩
        refine r_aload_n S dX8_seeMan_53 rfl (lv_at hl 0 rfl) ?_
        refine r_iconst S dX8_seeMan_54 (by decide) (fun v52 z53 => ?_)
        have r54 := R_eq z53
        refine r_ki (q_U (As := [.int v52]) (rest := []) (K := 11) (ci := 1) S X40 (c_X8_fail_11 l G t38 I41 v52 (R_of (lo := -2147483648) (hi := 2147483647) r54 rfl)) ck8_29_1 (Nat.le_of_ble_eq_true rfl) rfl (fun _ => ⟨_, rfl⟩) ⟨_, _, rfl⟩ ⟨Nat.le_of_ble_eq_true rfl, Nat.le_of_ble_eq_true rfl⟩ rfl hl.1 rfl (Nat.le_of_ble_eq_true rfl) dX8_seeMan_55 ⟨Nat.le_refl 0, Nat.le_refl 0⟩) X40 (fun v58 t57 H lc q55 X56 => ?_)
        unfold po_X8_fail_11 at q55
        obtain ⟨q59, q60, q61⟩ := q55
        have F62 : Fr [(11, 1), (11, 2)] [] τ t57 := Fr_call F42 q60 (by decide)
        refine r_if_eq (tgt := 65) S dX8_seeMan_58 (by decide) (fun c63 => ?_) (fun c63 => ?_)
        ·
          refine r_iconst S dX8_seeMan_65 (by decide) (fun v64 z65 => ?_)
          have r66 := R_eq z65
          exact r_ret S hr hlk X56 ⟨q59, F62, (R_of r66 rfl), (fun h => by exfalso; omega)⟩ (nr_bool (R_of (lo := 0) (hi := 1) r66 rfl)) dX8_seeMan_66
        ·
          exfalso; omega
    ·
      have r67 : R (1) (1) v25 := ⟨by omega, by omega⟩
      refine r_aload_n S dX8_seeMan_24 rfl (lv_at hl 0 rfl) ?_
      refine r_iconst S dX8_seeMan_25 (by decide) (fun v68 z69 => ?_)
      have r70 := R_eq z69
      refine r_ki (q_U (As := [.int v68]) (rest := []) (K := 11) (ci := 1) S X23 (c_X8_fail_11 l G τ hI v68 (R_of (lo := -2147483648) (hi := 2147483647) r70 rfl)) ck8_29_1 (Nat.le_of_ble_eq_true rfl) rfl (fun _ => ⟨_, rfl⟩) ⟨_, _, rfl⟩ ⟨Nat.le_of_ble_eq_true rfl, Nat.le_of_ble_eq_true rfl⟩ rfl hl.1 rfl (Nat.le_of_ble_eq_true rfl) dX8_seeMan_26 ⟨Nat.le_refl 0, Nat.le_refl 0⟩) X23 (fun v74 t73 H lc q71 X72 => ?_)
      unfold po_X8_fail_11 at q71
      obtain ⟨q75, q76, q77⟩ := q71
      have F78 : Fr [(11, 1), (11, 2)] [] τ t73 := Fr_call Fr_rfl q76 (by decide)
      exact r_ret S hr hlk X72 ⟨q75, F78, (R_of q77 rfl), (fun h => by exfalso; omega)⟩ (nr_bool (R_of (lo := 0) (hi := 1) q77 rfl)) dX8_seeMan_29
def po_X8_seeAsk_11 (τ : Tau)     (r : Int32) (u : Tau) : Prop := Inv u ∧ Fr [(11, 1), (11, 2)] [] τ u ∧ R (0) (1) r ∧ (r.toInt = 1 → R (0) (8) (u 11 2))
set_option maxHeartbeats 4000000 in
set_option maxRecDepth 100000 in
theorem c_X8_seeAsk_11 (l : Launch) (G : Gx) (τ : Tau) (hI : Inv τ) : Ci l G yX8_seeAsk cX8_seeAsk 2 (some .boolean) 1 23 [.ref (G.2.2.2.1 11), .ref (G.2.2.2.1 23)] τ (po_X8_seeAsk_11 τ    ) := by
  unfold Ci
  refine C_of (own := RX8) (by decide) rfl (Nat.le_of_ble_eq_true rfl) ?_
  intro p e s m below meth c ls S hr hlk X hl
  have hl : lv_has ls 2 [(0, .ref (G.2.2.2.1 11)), (1, .ref (G.2.2.2.1 23))] := hl
  refine r_aload_n S dX8_seeAsk_0 rfl (lv_at hl 0 rfl) ?_
  refine r_get (K := 11) (v := .ref (G.2.2.2.1 1)) S X (Nat.le_of_ble_eq_true rfl) rfl lk8_9_1 (fun _ => ⟨_, rfl, rfl⟩) dX8_seeAsk_1 ?_
  refine r_getn (K := 1) S X (Nat.le_of_ble_eq_true rfl) rfl lk8_36_7 (fun _ => ⟨_, rfl, rfl⟩) dX8_seeAsk_4 (fun v1 z2 => ?_)
  have r3 : R (0) (4) v1 := rd hI rfl z2
  refine r_iconst S dX8_seeAsk_7 (by decide) (fun v4 z5 => ?_)
  have r6 := R_eq z5
  refine r_icmp_ne (tgt := 24) S dX8_seeAsk_8 (by decide) (fun c7 => ?_) (fun c7 => ?_)
  ·
    refine r_aload_n S dX8_seeAsk_24 rfl (lv_at hl 0 rfl) ?_
    refine r_iconst S dX8_seeAsk_25 (by decide) (fun v8 z9 => ?_)
    have r10 := R_eq z9
    refine r_ki (q_U (As := [.int v8]) (rest := []) (K := 11) (ci := 1) S X (c_X8_fail_11 l G τ hI v8 (R_of (lo := -2147483648) (hi := 2147483647) r10 rfl)) ck8_29_1 (Nat.le_of_ble_eq_true rfl) rfl (fun _ => ⟨_, rfl⟩) ⟨_, _, rfl⟩ ⟨Nat.le_of_ble_eq_true rfl, Nat.le_of_ble_eq_true rfl⟩ rfl hl.1 rfl (Nat.le_of_ble_eq_true rfl) dX8_seeAsk_26 ⟨Nat.le_refl 0, Nat.le_refl 0⟩) X (fun v14 t13 H lc q11 X12 => ?_)
    unfold po_X8_fail_11 at q11
    obtain ⟨q15, q16, q17⟩ := q11
    have F18 : Fr [(11, 1), (11, 2)] [] τ t13 := Fr_call Fr_rfl q16 (by decide)
    exact r_ret S hr hlk X12 ⟨q15, F18, (R_of q17 rfl), (fun h => by exfalso; omega)⟩ (nr_bool (R_of (lo := 0) (hi := 1) q17 rfl)) dX8_seeAsk_29
  ·
    have r19 : R (2) (2) v1 := ⟨by omega, by omega⟩
    refine r_aload_n S dX8_seeAsk_11 rfl (lv_at hl 0 rfl) ?_
    refine r_get (K := 11) (v := .ref (G.2.2.2.1 1)) S X (Nat.le_of_ble_eq_true rfl) rfl lk8_9_1 (fun _ => ⟨_, rfl, rfl⟩) dX8_seeAsk_12 ?_
    refine r_getJ (K := 1) S X (Nat.le_of_ble_eq_true rfl) rfl lk8_58_7 (fun _ => ⟨_, rfl, rfl⟩) dX8_seeAsk_15 (fun j20 z21 => ?_)
    refine r_ki (q_S (As := [.long j20]) (rest := []) S X (c_X9_isKept l G τ hI j20) ck8_62 ⟨Nat.le_of_ble_eq_true rfl, Nat.le_of_ble_eq_true rfl⟩ rfl hl.1 rfl (Nat.le_of_ble_eq_true rfl) dX8_seeAsk_18 ⟨Nat.le_refl 0, Nat.le_refl 0⟩) X (fun v25 t24 H lc q22 X23 => ?_)
    unfold po_X9_isKept at q22
    obtain ⟨q26, q27⟩ := q22
    rw [q26] at X23
    refine r_if_eq (tgt := 30) S dX8_seeAsk_21 (by decide) (fun c28 => ?_) (fun c28 => ?_)
    ·
      have r29 : R (0) (0) v25 := ⟨by omega, by omega⟩
      refine r_aload_n S dX8_seeAsk_30 rfl (lv_at hl 0 rfl) ?_
      refine r_aload_n S dX8_seeAsk_31 rfl (lv_at hl 1 rfl) ?_
      refine r_aload_n S dX8_seeAsk_32 rfl (lv_at hl 0 rfl) ?_
      refine r_get (K := 11) (v := .ref (G.2.2.2.1 1)) S X23 (Nat.le_of_ble_eq_true rfl) rfl lk8_9_1 (fun _ => ⟨_, rfl, rfl⟩) dX8_seeAsk_33 ?_
      refine r_getJ (K := 1) S X23 (Nat.le_of_ble_eq_true rfl) rfl lk8_58_7 (fun _ => ⟨_, rfl, rfl⟩) dX8_seeAsk_36 (fun j30 z31 => ?_)
      refine r_ki (q_V (As := [.long j30]) (rest := [.ref (G.2.2.2.1 11)]) (K := 4) (ci := 2) S X23 (c_X2_askNamed l G τ hI 23 (Nat.le_of_ble_eq_true rfl) rfl j30) ck8_72 (Nat.le_of_ble_eq_true rfl) rfl (fun _ => ⟨_, rfl⟩) ⟨_, _, rfl⟩ ⟨Nat.le_of_ble_eq_true rfl, Nat.le_of_ble_eq_true rfl⟩ rfl hl.1 rfl (Nat.le_of_ble_eq_true rfl) dX8_seeAsk_39 ⟨Nat.le_refl 0, Nat.le_refl 0⟩) X23 (fun v35 t34 H lc q32 X33 => ?_)
      unfold po_X2_askNamed at q32
      obtain ⟨q36, q37⟩ := q32
      rw [q36] at X33
      refine r_put (K := 11) (ty := .int) S X33 (Nat.le_of_ble_eq_true rfl) rfl lk8_42_1 (fun _ => ⟨_, rfl, Nat.le_of_ble_eq_true rfl, rfl⟩) (fun _ _ _ h => by cases h; exact ⟨rfl, rfl⟩) rfl rfl dX8_seeAsk_42 (fun t38 H lc M39 X40 => ?_)
      have I41 := Inv_mu hI M39 (R_any v35)
      have F42 : Fr [(11, 1), (11, 2)] [] τ t38 := Fr_mu Fr_rfl M39 (by decide)
      refine r_aload_n S dX8_seeAsk_45 rfl (lv_at hl 0 rfl) ?_
      refine r_geti (K := 11) S X40 (Nat.le_of_ble_eq_true rfl) rfl lk8_42_1 (fun _ => ⟨_, rfl, rfl⟩) M39.1 dX8_seeAsk_46 ?_
      refine r_iconst S dX8_seeAsk_49 (by decide) (fun v43 z44 => ?_)
      have r45 := R_eq z44
      refine r_icmp_ne (tgt := 61) S dX8_seeAsk_50 (by decide) (fun c46 => ?_) (fun c46 => ?_)
      ·
        have r47 : R (0) (8) v35 := ⟨by omega, by omega⟩
        refine r_iconst S dX8_seeAsk_61 (by decide) (fun v48 z49 => ?_)
        have r50 := R_eq z49
        refine r_goto (tgt := 66) S dX8_seeAsk_62 (by decide) ?_
        exact r_ret S hr hlk X40 ⟨I41, F42, (R_of r50 rfl), (fun h => (by rw [M39.1]; exact R_of r47 rfl))⟩ (nr_bool (R_of (lo := 0) (hi := 1) r50 rfl)) dX8_seeAsk_66
      ·
        have r51 : R (-1) (-1) v35 := ⟨by omega, by omega⟩
        refine r_aload_n S dX8_seeAsk_53 rfl (lv_at hl 0 rfl) ?_
        refine r_iconst S dX8_seeAsk_54 (by decide) (fun v52 z53 => ?_)
        have r54 := R_eq z53
        refine r_ki (q_U (As := [.int v52]) (rest := []) (K := 11) (ci := 1) S X40 (c_X8_fail_11 l G t38 I41 v52 (R_of (lo := -2147483648) (hi := 2147483647) r54 rfl)) ck8_29_1 (Nat.le_of_ble_eq_true rfl) rfl (fun _ => ⟨_, rfl⟩) ⟨_, _, rfl⟩ ⟨Nat.le_of_ble_eq_true rfl, Nat.le_of_ble_eq_true rfl⟩ rfl hl.1 rfl (Nat.le_of_ble_eq_true rfl) dX8_seeAsk_55 ⟨Nat.le_refl 0, Nat.le_refl 0⟩) X40 (fun v58 t57 H lc q55 X56 => ?_)
        unfold po_X8_fail_11 at q55
        obtain ⟨q59, q60, q61⟩ := q55
        have F62 : Fr [(11, 1), (11, 2)] [] τ t57 := Fr_call F42 q60 (by decide)
        refine r_if_eq (tgt := 65) S dX8_seeAsk_58 (by decide) (fun c63 => ?_) (fun c63 => ?_)
        ·
          refine r_iconst S dX8_seeAsk_65 (by decide) (fun v64 z65 => ?_)
          have r66 := R_eq z65
          exact r_ret S hr hlk X56 ⟨q59, F62, (R_of r66 rfl), (fun h => by exfalso; omega)⟩ (nr_bool (R_of (lo := 0) (hi := 1) r66 rfl)) dX8_seeAsk_66
        ·
          exfalso; omega
    ·
      have r67 : R (1) (1) v25 := ⟨by omega, by omega⟩
      refine r_aload_n S dX8_seeAsk_24 rfl (lv_at hl 0 rfl) ?_
      refine r_iconst S dX8_seeAsk_25 (by decide) (fun v68 z69 => ?_)
      have r70 := R_eq z69
      refine r_ki (q_U (As := [.int v68]) (rest := []) (K := 11) (ci := 1) S X23 (c_X8_fail_11 l G τ hI v68 (R_of (lo := -2147483648) (hi := 2147483647) r70 rfl)) ck8_29_1 (Nat.le_of_ble_eq_true rfl) rfl (fun _ => ⟨_, rfl⟩) ⟨_, _, rfl⟩ ⟨Nat.le_of_ble_eq_true rfl, Nat.le_of_ble_eq_true rfl⟩ rfl hl.1 rfl (Nat.le_of_ble_eq_true rfl) dX8_seeAsk_26 ⟨Nat.le_refl 0, Nat.le_refl 0⟩) X23 (fun v74 t73 H lc q71 X72 => ?_)
      unfold po_X8_fail_11 at q71
      obtain ⟨q75, q76, q77⟩ := q71
      have F78 : Fr [(11, 1), (11, 2)] [] τ t73 := Fr_call Fr_rfl q76 (by decide)
      exact r_ret S hr hlk X72 ⟨q75, F78, (R_of q77 rfl), (fun h => by exfalso; omega)⟩ (nr_bool (R_of (lo := 0) (hi := 1) q77 rfl)) dX8_seeAsk_29
def po_X8_fail_16 (τ : Tau)  (a0 : Int32)   (r : Int32) (u : Tau) : Prop := Inv u ∧ Fr [(16, 1)] [] τ u ∧ R (0) (0) r
set_option maxHeartbeats 4000000 in
set_option maxRecDepth 100000 in
theorem c_X8_fail_16 (l : Launch) (G : Gx) (τ : Tau) (hI : Inv τ) (a0 : Int32) (h_a0 : R (-2147483648) (2147483647) a0) : Ci l G yX8_fail cX8_fail 2 (some .boolean) 0 0 [.ref (G.2.2.2.1 16), .int a0] τ (po_X8_fail_16 τ  a0  ) := by
  unfold Ci
  refine C_of (own := RX8) (by decide) rfl (Nat.le_of_ble_eq_true rfl) ?_
  intro p e s m below meth c ls S hr hlk X hl
  have hl : lv_has ls 2 [(0, .ref (G.2.2.2.1 16)), (1, .int a0)] := hl
  refine r_aload_n S dX8_fail_0 rfl (lv_at hl 0 rfl) ?_
  refine r_iload_n S dX8_fail_1 rfl (lv_at hl 1 rfl) ?_
  refine r_put (K := 16) (ty := .int) S X (Nat.le_of_ble_eq_true rfl) rfl lk8_15_6 (fun _ => ⟨_, rfl, Nat.le_of_ble_eq_true rfl, rfl⟩) (fun _ _ _ h => by cases h; exact ⟨rfl, rfl⟩) rfl rfl dX8_fail_2 (fun t1 H lc M2 X3 => ?_)
  have I4 := Inv_mu hI M2 (R_any a0)
  have F5 : Fr [(16, 1)] [] τ t1 := Fr_mu Fr_rfl M2 (by decide)
  refine r_iconst S dX8_fail_5 (by decide) (fun v6 z7 => ?_)
  have r8 := R_eq z7
  exact r_ret S hr hlk X3 ⟨I4, F5, r8⟩ (nr_bool (R_of (lo := 0) (hi := 1) r8 rfl)) dX8_fail_6
def po_X8_open_16 (τ : Tau)  (a0 : Int32)   (u : Tau) : Prop := Inv u ∧ Fr [(16, 1), (1, 2), (1, 3), (1, 4), (1, 5), (1, 7), (1, 8)] [201] τ u
set_option maxHeartbeats 4000000 in
set_option maxRecDepth 100000 in
theorem c_X8_open_16 (l : Launch) (G : Gx) (τ : Tau) (hI : Inv τ) (a0 : Int32) (h_a0 : R (0) (900) a0) : Cv l G yX8_open cX8_open 2 2 45 [.ref (G.2.2.2.1 16), .int a0] τ (po_X8_open_16 τ  a0  ) := by
  unfold Cv
  refine C_of (own := RX8) (by decide) rfl (Nat.le_of_ble_eq_true rfl) ?_
  intro p e s m below meth c ls S hr hlk X hl
  have hl : lv_has ls 2 [(0, .ref (G.2.2.2.1 16)), (1, .int a0)] := hl
  refine r_aload_n S dX8_open_0 rfl (lv_at hl 0 rfl) ?_
  refine r_iconst S dX8_open_1 (by decide) (fun v1 z2 => ?_)
  have r3 := R_eq z2
  refine r_put (K := 16) (ty := .int) S X (Nat.le_of_ble_eq_true rfl) rfl lk8_15_6 (fun _ => ⟨_, rfl, Nat.le_of_ble_eq_true rfl, rfl⟩) (fun _ _ _ h => by cases h; exact ⟨rfl, rfl⟩) rfl rfl dX8_open_2 (fun t4 H lc M5 X6 => ?_)
  have I7 := Inv_mu hI M5 (R_any v1)
  have F8 : Fr [(16, 1), (1, 2), (1, 3), (1, 4), (1, 5), (1, 7), (1, 8)] [201] τ t4 := Fr_mu Fr_rfl M5 (by decide)
  refine r_aload_n S dX8_open_5 rfl (lv_at hl 0 rfl) ?_
  refine r_get (K := 16) (v := .ref (G.2.2.2.1 1)) S X6 (Nat.le_of_ble_eq_true rfl) rfl lk8_9_6 (fun _ => ⟨_, rfl, rfl⟩) dX8_open_6 ?_
  refine r_iload_n S dX8_open_9 rfl (lv_at hl 1 rfl) ?_
  refine r_kv (q_V (As := [.int a0]) (rest := []) (K := 1) (ci := 7) S X6 (c_X7_open l G t4 I7 a0 h_a0) ck8_19 (Nat.le_of_ble_eq_true rfl) rfl (fun _ => ⟨_, rfl⟩) ⟨_, _, rfl⟩ ⟨Nat.le_of_ble_eq_true rfl, Nat.le_of_ble_eq_true rfl⟩ rfl hl.1 rfl (Nat.le_of_ble_eq_true rfl) dX8_open_10 ⟨Nat.le_refl 0, Nat.le_refl 0⟩) X6 (fun t11 H lc q9 X10 => ?_)
  unfold po_X7_open at q9
  obtain ⟨q12, q13⟩ := q9
  have F14 : Fr [(16, 1), (1, 2), (1, 3), (1, 4), (1, 5), (1, 7), (1, 8)] [201] τ t11 := Fr_call F8 q13 (by decide)
  exact r_vret S hr hlk X10 ⟨q12, F14⟩ dX8_open_13
def po_X8_takeSign_16 (τ : Tau)  (a0 : Int32)   (r : Int32) (u : Tau) : Prop := Inv u ∧ Fr [(16, 1), (1, 3), (1, 4), (1, 5), (1, 7), (1, 8)] [201] τ u ∧ R (0) (1) r
set_option maxHeartbeats 4000000 in
set_option maxRecDepth 100000 in
theorem c_X8_takeSign_16 (l : Launch) (G : Gx) (τ : Tau) (hI : Inv τ) (a0 : Int32) (h_a0 : R (0) (65535) a0) : Ci l G yX8_takeSign cX8_takeSign 2 (some .boolean) 1 24 [.ref (G.2.2.2.1 16), .int a0] τ (po_X8_takeSign_16 τ  a0  ) := by
  unfold Ci
  refine C_of (own := RX8) (by decide) rfl (Nat.le_of_ble_eq_true rfl) ?_
  intro p e s m below meth c ls S hr hlk X hl
  have hl : lv_has ls 2 [(0, .ref (G.2.2.2.1 16)), (1, .int a0)] := hl
  refine r_aload_n S dX8_takeSign_0 rfl (lv_at hl 0 rfl) ?_
  refine r_get (K := 16) (v := .ref (G.2.2.2.1 1)) S X (Nat.le_of_ble_eq_true rfl) rfl lk8_9_6 (fun _ => ⟨_, rfl, rfl⟩) dX8_takeSign_1 ?_
  refine r_iload_n S dX8_takeSign_4 rfl (lv_at hl 1 rfl) ?_
  refine r_ki (q_V (As := [.int a0]) (rest := []) (K := 1) (ci := 7) S X (c_X7_isSigned l G τ hI a0 h_a0) ck8_25 (Nat.le_of_ble_eq_true rfl) rfl (fun _ => ⟨_, rfl⟩) ⟨_, _, rfl⟩ ⟨Nat.le_of_ble_eq_true rfl, Nat.le_of_ble_eq_true rfl⟩ rfl hl.1 rfl (Nat.le_of_ble_eq_true rfl) dX8_takeSign_5 ⟨Nat.le_refl 0, Nat.le_refl 0⟩) X (fun v4 t3 H lc q1 X2 => ?_)
  unfold po_X7_isSigned at q1
  obtain ⟨q5, q6⟩ := q1
  rw [q5] at X2
  refine r_if_ne (tgt := 17) S dX8_takeSign_8 (by decide) (fun c7 => ?_) (fun c7 => ?_)
  ·
    have r8 : R (1) (1) v4 := ⟨by omega, by omega⟩
    refine r_aload_n S dX8_takeSign_17 rfl (lv_at hl 0 rfl) ?_
    refine r_get (K := 16) (v := .ref (G.2.2.2.1 1)) S X2 (Nat.le_of_ble_eq_true rfl) rfl lk8_9_6 (fun _ => ⟨_, rfl, rfl⟩) dX8_takeSign_18 ?_
    refine r_kv (q_V (As := []) (rest := []) (K := 1) (ci := 7) S X2 (c_X7_step l G τ hI ) ck8_33 (Nat.le_of_ble_eq_true rfl) rfl (fun _ => ⟨_, rfl⟩) ⟨_, _, rfl⟩ ⟨Nat.le_of_ble_eq_true rfl, Nat.le_of_ble_eq_true rfl⟩ rfl hl.1 rfl (Nat.le_of_ble_eq_true rfl) dX8_takeSign_21 ⟨Nat.le_refl 0, Nat.le_refl 0⟩) X2 (fun t11 H lc q9 X10 => ?_)
    unfold po_X7_step at q9
    obtain ⟨q12, q13⟩ := q9
    have F14 : Fr [(16, 1), (1, 3), (1, 4), (1, 5), (1, 7), (1, 8)] [201] τ t11 := Fr_call Fr_rfl q13 (by decide)
    refine r_iconst S dX8_takeSign_24 (by decide) (fun v15 z16 => ?_)
    have r17 := R_eq z16
    exact r_ret S hr hlk X10 ⟨q12, F14, (R_of r17 rfl)⟩ (nr_bool (R_of (lo := 0) (hi := 1) r17 rfl)) dX8_takeSign_25
  ·
    have r18 : R (0) (0) v4 := ⟨by omega, by omega⟩
    refine r_aload_n S dX8_takeSign_11 rfl (lv_at hl 0 rfl) ?_
    refine r_iconst S dX8_takeSign_12 (by decide) (fun v19 z20 => ?_)
    have r21 := R_eq z20
    refine r_ki (q_U (As := [.int v19]) (rest := []) (K := 16) (ci := 6) S X2 (c_X8_fail_16 l G τ hI v19 (R_of (lo := -2147483648) (hi := 2147483647) r21 rfl)) ck8_29_6 (Nat.le_of_ble_eq_true rfl) rfl (fun _ => ⟨_, rfl⟩) ⟨_, _, rfl⟩ ⟨Nat.le_of_ble_eq_true rfl, Nat.le_of_ble_eq_true rfl⟩ rfl hl.1 rfl (Nat.le_of_ble_eq_true rfl) dX8_takeSign_13 ⟨Nat.le_refl 0, Nat.le_refl 0⟩) X2 (fun v25 t24 H lc q22 X23 => ?_)
    unfold po_X8_fail_16 at q22
    obtain ⟨q26, q27, q28⟩ := q22
    have F29 : Fr [(16, 1), (1, 3), (1, 4), (1, 5), (1, 7), (1, 8)] [201] τ t24 := Fr_call Fr_rfl q27 (by decide)
    exact r_ret S hr hlk X23 ⟨q26, F29, (R_of q28 rfl)⟩ (nr_bool (R_of (lo := 0) (hi := 1) q28 rfl)) dX8_takeSign_16
def po_X8_takeNumber_16_0_99 (τ : Tau)  (a0 a1 : Int32)   (r : Int32) (u : Tau) : Prop := Inv u ∧ Fr [(16, 1), (16, 2), (1, 3), (1, 4), (1, 5), (1, 7), (1, 8)] [201] τ u ∧ R (0) (1) r ∧ (r.toInt = 1 → R (0) (99) (u 16 2))
set_option maxHeartbeats 4000000 in
set_option maxRecDepth 100000 in
theorem c_X8_takeNumber_16_0_99 (l : Launch) (G : Gx) (τ : Tau) (hI : Inv τ) (a0 : Int32) (a1 : Int32) (h_a0 : R (0) (0) a0) (h_a1 : R (99) (99) a1) : Ci l G yX8_takeNumber cX8_takeNumber 3 (some .boolean) 1 24 [.ref (G.2.2.2.1 16), .int a0, .int a1] τ (po_X8_takeNumber_16_0_99 τ  a0 a1  ) := by
  unfold Ci
  refine C_of (own := RX8) (by decide) rfl (Nat.le_of_ble_eq_true rfl) ?_
  intro p e s m below meth c ls S hr hlk X hl
  have hl : lv_has ls 3 [(0, .ref (G.2.2.2.1 16)), (1, .int a0), (2, .int a1)] := hl
  refine r_aload_n S dX8_takeNumber_0 rfl (lv_at hl 0 rfl) ?_
  refine r_get (K := 16) (v := .ref (G.2.2.2.1 1)) S X (Nat.le_of_ble_eq_true rfl) rfl lk8_9_6 (fun _ => ⟨_, rfl, rfl⟩) dX8_takeNumber_1 ?_
  refine r_getn (K := 1) S X (Nat.le_of_ble_eq_true rfl) rfl lk8_36_7 (fun _ => ⟨_, rfl, rfl⟩) dX8_takeNumber_4 (fun v1 z2 => ?_)
  have r3 : R (0) (4) v1 := rd hI rfl z2
  refine r_iconst S dX8_takeNumber_7 (by decide) (fun v4 z5 => ?_)
  have r6 := R_eq z5
  refine r_icmp_eq (tgt := 17) S dX8_takeNumber_8 (by decide) (fun c7 => ?_) (fun c7 => ?_)
  ·
    have r8 : R (3) (3) v1 := ⟨by omega, by omega⟩
    refine r_aload_n S dX8_takeNumber_17 rfl (lv_at hl 0 rfl) ?_
    refine r_get (K := 16) (v := .ref (G.2.2.2.1 1)) S X (Nat.le_of_ble_eq_true rfl) rfl lk8_9_6 (fun _ => ⟨_, rfl, rfl⟩) dX8_takeNumber_18 ?_
    refine r_getn (K := 1) S X (Nat.le_of_ble_eq_true rfl) rfl lk8_39_7 (fun _ => ⟨_, rfl, rfl⟩) dX8_takeNumber_21 (fun v9 z10 => ?_)
    have r12 := R_any v9
    refine r_iload_n S dX8_takeNumber_24 rfl (lv_at hl 1 rfl) ?_
    refine r_icmp_lt (tgt := 39) S dX8_takeNumber_25 (by decide) (fun c13 => ?_) (fun c13 => ?_)
    ·
      have r14 : R (-2147483648) (-1) v9 := ⟨by omega, by omega⟩
      refine r_aload_n S dX8_takeNumber_39 rfl (lv_at hl 0 rfl) ?_
      refine r_iconst S dX8_takeNumber_40 (by decide) (fun v15 z16 => ?_)
      have r17 := R_eq z16
      refine r_ki (q_U (As := [.int v15]) (rest := []) (K := 16) (ci := 6) S X (c_X8_fail_16 l G τ hI v15 (R_of (lo := -2147483648) (hi := 2147483647) r17 rfl)) ck8_29_6 (Nat.le_of_ble_eq_true rfl) rfl (fun _ => ⟨_, rfl⟩) ⟨_, _, rfl⟩ ⟨Nat.le_of_ble_eq_true rfl, Nat.le_of_ble_eq_true rfl⟩ rfl hl.1 rfl (Nat.le_of_ble_eq_true rfl) dX8_takeNumber_41 ⟨Nat.le_refl 0, Nat.le_refl 0⟩) X (fun v21 t20 H lc q18 X19 => ?_)
      unfold po_X8_fail_16 at q18
      obtain ⟨q22, q23, q24⟩ := q18
      have F25 : Fr [(16, 1), (16, 2), (1, 3), (1, 4), (1, 5), (1, 7), (1, 8)] [201] τ t20 := Fr_call Fr_rfl q23 (by decide)
      exact r_ret S hr hlk X19 ⟨q22, F25, (R_of q24 rfl), (fun h => by exfalso; omega)⟩ (nr_bool (R_of (lo := 0) (hi := 1) q24 rfl)) dX8_takeNumber_44
    ·
      have r26 : R (0) (2147483647) v9 := ⟨by omega, by omega⟩
      refine r_aload_n S dX8_takeNumber_28 rfl (lv_at hl 0 rfl) ?_
      refine r_get (K := 16) (v := .ref (G.2.2.2.1 1)) S X (Nat.le_of_ble_eq_true rfl) rfl lk8_9_6 (fun _ => ⟨_, rfl, rfl⟩) dX8_takeNumber_29 ?_
      refine r_geti (K := 1) S X (Nat.le_of_ble_eq_true rfl) rfl lk8_39_7 (fun _ => ⟨_, rfl, rfl⟩) z10 dX8_takeNumber_32 ?_
      refine r_iload_n S dX8_takeNumber_35 rfl (lv_at hl 2 rfl) ?_
      refine r_icmp_le (tgt := 45) S dX8_takeNumber_36 (by decide) (fun c27 => ?_) (fun c27 => ?_)
      ·
        have r28 : R (0) (99) v9 := ⟨by omega, by omega⟩
        refine r_aload_n S dX8_takeNumber_45 rfl (lv_at hl 0 rfl) ?_
        refine r_aload_n S dX8_takeNumber_46 rfl (lv_at hl 0 rfl) ?_
        refine r_get (K := 16) (v := .ref (G.2.2.2.1 1)) S X (Nat.le_of_ble_eq_true rfl) rfl lk8_9_6 (fun _ => ⟨_, rfl, rfl⟩) dX8_takeNumber_47 ?_
        refine r_geti (K := 1) S X (Nat.le_of_ble_eq_true rfl) rfl lk8_39_7 (fun _ => ⟨_, rfl, rfl⟩) z10 dX8_takeNumber_50 ?_
        refine r_put (K := 16) (ty := .int) S X (Nat.le_of_ble_eq_true rfl) rfl lk8_42_6 (fun _ => ⟨_, rfl, Nat.le_of_ble_eq_true rfl, rfl⟩) (fun _ _ _ h => by cases h; exact ⟨rfl, rfl⟩) rfl rfl dX8_takeNumber_53 (fun t29 H lc M30 X31 => ?_)
        have I32 := Inv_mu hI M30 (R_any v9)
        have F33 : Fr [(16, 1), (16, 2), (1, 3), (1, 4), (1, 5), (1, 7), (1, 8)] [201] τ t29 := Fr_mu Fr_rfl M30 (by decide)
        refine r_aload_n S dX8_takeNumber_56 rfl (lv_at hl 0 rfl) ?_
        refine r_get (K := 16) (v := .ref (G.2.2.2.1 1)) S X31 (Nat.le_of_ble_eq_true rfl) rfl lk8_9_6 (fun _ => ⟨_, rfl, rfl⟩) dX8_takeNumber_57 ?_
        refine r_kv (q_V (As := []) (rest := []) (K := 1) (ci := 7) S X31 (c_X7_step l G t29 I32 ) ck8_33 (Nat.le_of_ble_eq_true rfl) rfl (fun _ => ⟨_, rfl⟩) ⟨_, _, rfl⟩ ⟨Nat.le_of_ble_eq_true rfl, Nat.le_of_ble_eq_true rfl⟩ rfl hl.1 rfl (Nat.le_of_ble_eq_true rfl) dX8_takeNumber_60 ⟨Nat.le_refl 0, Nat.le_refl 0⟩) X31 (fun t36 H lc q34 X35 => ?_)
        unfold po_X7_step at q34
        obtain ⟨q37, q38⟩ := q34
        have F39 : Fr [(16, 1), (16, 2), (1, 3), (1, 4), (1, 5), (1, 7), (1, 8)] [201] τ t36 := Fr_call F33 q38 (by decide)
        refine r_iconst S dX8_takeNumber_63 (by decide) (fun v40 z41 => ?_)
        have r42 := R_eq z41
        exact r_ret S hr hlk X35 ⟨q37, F39, (R_of r42 rfl), (fun h => (by rw [((q38 16 2 (by decide)).trans M30.1)]; exact R_of r28 rfl))⟩ (nr_bool (R_of (lo := 0) (hi := 1) r42 rfl)) dX8_takeNumber_64
      ·
        have r43 : R (100) (2147483647) v9 := ⟨by omega, by omega⟩
        refine r_aload_n S dX8_takeNumber_39 rfl (lv_at hl 0 rfl) ?_
        refine r_iconst S dX8_takeNumber_40 (by decide) (fun v44 z45 => ?_)
        have r46 := R_eq z45
        refine r_ki (q_U (As := [.int v44]) (rest := []) (K := 16) (ci := 6) S X (c_X8_fail_16 l G τ hI v44 (R_of (lo := -2147483648) (hi := 2147483647) r46 rfl)) ck8_29_6 (Nat.le_of_ble_eq_true rfl) rfl (fun _ => ⟨_, rfl⟩) ⟨_, _, rfl⟩ ⟨Nat.le_of_ble_eq_true rfl, Nat.le_of_ble_eq_true rfl⟩ rfl hl.1 rfl (Nat.le_of_ble_eq_true rfl) dX8_takeNumber_41 ⟨Nat.le_refl 0, Nat.le_refl 0⟩) X (fun v50 t49 H lc q47 X48 => ?_)
        unfold po_X8_fail_16 at q47
        obtain ⟨q51, q52, q53⟩ := q47
        have F54 : Fr [(16, 1), (16, 2), (1, 3), (1, 4), (1, 5), (1, 7), (1, 8)] [201] τ t49 := Fr_call Fr_rfl q52 (by decide)
        exact r_ret S hr hlk X48 ⟨q51, F54, (R_of q53 rfl), (fun h => by exfalso; omega)⟩ (nr_bool (R_of (lo := 0) (hi := 1) q53 rfl)) dX8_takeNumber_44
  ·
    refine r_aload_n S dX8_takeNumber_11 rfl (lv_at hl 0 rfl) ?_
    refine r_iconst S dX8_takeNumber_12 (by decide) (fun v55 z56 => ?_)
    have r57 := R_eq z56
    refine r_ki (q_U (As := [.int v55]) (rest := []) (K := 16) (ci := 6) S X (c_X8_fail_16 l G τ hI v55 (R_of (lo := -2147483648) (hi := 2147483647) r57 rfl)) ck8_29_6 (Nat.le_of_ble_eq_true rfl) rfl (fun _ => ⟨_, rfl⟩) ⟨_, _, rfl⟩ ⟨Nat.le_of_ble_eq_true rfl, Nat.le_of_ble_eq_true rfl⟩ rfl hl.1 rfl (Nat.le_of_ble_eq_true rfl) dX8_takeNumber_13 ⟨Nat.le_refl 0, Nat.le_refl 0⟩) X (fun v61 t60 H lc q58 X59 => ?_)
    unfold po_X8_fail_16 at q58
    obtain ⟨q62, q63, q64⟩ := q58
    have F65 : Fr [(16, 1), (16, 2), (1, 3), (1, 4), (1, 5), (1, 7), (1, 8)] [201] τ t60 := Fr_call Fr_rfl q63 (by decide)
    exact r_ret S hr hlk X59 ⟨q62, F65, (R_of q64 rfl), (fun h => by exfalso; omega)⟩ (nr_bool (R_of (lo := 0) (hi := 1) q64 rfl)) dX8_takeNumber_16
def po_X8_takeYesOrNo_16 (τ : Tau)     (r : Int32) (u : Tau) : Prop := Inv u ∧ Fr [(16, 1), (16, 2), (1, 3), (1, 4), (1, 5), (1, 7), (1, 8)] [201] τ u ∧ R (0) (1) r ∧ (r.toInt = 1 → R (-1) (1) (u 16 2))
set_option maxHeartbeats 4000000 in
set_option maxRecDepth 100000 in
theorem c_X8_takeYesOrNo_16 (l : Launch) (G : Gx) (τ : Tau) (hI : Inv τ) : Ci l G yX8_takeYesOrNo cX8_takeYesOrNo 1 (some .boolean) 1 24 [.ref (G.2.2.2.1 16)] τ (po_X8_takeYesOrNo_16 τ    ) := by
  unfold Ci
  refine C_of (own := RX8) (by decide) rfl (Nat.le_of_ble_eq_true rfl) ?_
  intro p e s m below meth c ls S hr hlk X hl
  have hl : lv_has ls 1 [(0, .ref (G.2.2.2.1 16))] := hl
  refine r_aload_n S dX8_takeYesOrNo_0 rfl (lv_at hl 0 rfl) ?_
  refine r_get (K := 16) (v := .ref (G.2.2.2.1 1)) S X (Nat.le_of_ble_eq_true rfl) rfl lk8_9_6 (fun _ => ⟨_, rfl, rfl⟩) dX8_takeYesOrNo_1 ?_
  refine r_wst (i := 4) S X (by decide) kw16 dX8_takeYesOrNo_4 ?_
  refine r_ki (q_V (As := [.ref (G.2.2.1 4)]) (rest := []) (K := 1) (ci := 7) S X (c_X7_is l G τ hI 4 (by decide)) ck8_51 (Nat.le_of_ble_eq_true rfl) rfl (fun _ => ⟨_, rfl⟩) ⟨_, _, rfl⟩ ⟨Nat.le_of_ble_eq_true rfl, Nat.le_of_ble_eq_true rfl⟩ rfl hl.1 rfl (Nat.le_of_ble_eq_true rfl) dX8_takeYesOrNo_7 ⟨Nat.le_refl 0, Nat.le_refl 0⟩) X (fun v4 t3 H lc q1 X2 => ?_)
  unfold po_X7_is at q1
  obtain ⟨q5, q6⟩ := q1
  rw [q5] at X2
  refine r_if_ne (tgt := 32) S dX8_takeYesOrNo_10 (by decide) (fun c7 => ?_) (fun c7 => ?_)
  ·
    have r8 : R (1) (1) v4 := ⟨by omega, by omega⟩
    refine r_aload_n S dX8_takeYesOrNo_32 rfl (lv_at hl 0 rfl) ?_
    refine r_aload_n S dX8_takeYesOrNo_33 rfl (lv_at hl 0 rfl) ?_
    refine r_get (K := 16) (v := .ref (G.2.2.2.1 1)) S X2 (Nat.le_of_ble_eq_true rfl) rfl lk8_9_6 (fun _ => ⟨_, rfl, rfl⟩) dX8_takeYesOrNo_34 ?_
    refine r_wst (i := 4) S X2 (by decide) kw16 dX8_takeYesOrNo_37 ?_
    refine r_ki (q_V (As := [.ref (G.2.2.1 4)]) (rest := [.ref (G.2.2.2.1 16)]) (K := 1) (ci := 7) S X2 (c_X7_is l G τ hI 4 (by decide)) ck8_51 (Nat.le_of_ble_eq_true rfl) rfl (fun _ => ⟨_, rfl⟩) ⟨_, _, rfl⟩ ⟨Nat.le_of_ble_eq_true rfl, Nat.le_of_ble_eq_true rfl⟩ rfl hl.1 rfl (Nat.le_of_ble_eq_true rfl) dX8_takeYesOrNo_40 ⟨Nat.le_refl 0, Nat.le_refl 0⟩) X2 (fun v12 t11 H lc q9 X10 => ?_)
    unfold po_X7_is at q9
    obtain ⟨q13, q14⟩ := q9
    rw [q13] at X10
    refine r_if_eq (tgt := 50) S dX8_takeYesOrNo_43 (by decide) (fun c15 => ?_) (fun c15 => ?_)
    ·
      have r16 : R (0) (0) v12 := ⟨by omega, by omega⟩
      refine r_iconst S dX8_takeYesOrNo_50 (by decide) (fun v17 z18 => ?_)
      have r19 := R_eq z18
      refine r_put (K := 16) (ty := .int) S X10 (Nat.le_of_ble_eq_true rfl) rfl lk8_42_6 (fun _ => ⟨_, rfl, Nat.le_of_ble_eq_true rfl, rfl⟩) (fun _ _ _ h => by cases h; exact ⟨rfl, rfl⟩) rfl rfl dX8_takeYesOrNo_51 (fun t20 H lc M21 X22 => ?_)
      have I23 := Inv_mu hI M21 (R_any v17)
      have F24 : Fr [(16, 1), (16, 2), (1, 3), (1, 4), (1, 5), (1, 7), (1, 8)] [201] τ t20 := Fr_mu Fr_rfl M21 (by decide)
      refine r_aload_n S dX8_takeYesOrNo_54 rfl (lv_at hl 0 rfl) ?_
      refine r_get (K := 16) (v := .ref (G.2.2.2.1 1)) S X22 (Nat.le_of_ble_eq_true rfl) rfl lk8_9_6 (fun _ => ⟨_, rfl, rfl⟩) dX8_takeYesOrNo_55 ?_
      refine r_kv (q_V (As := []) (rest := []) (K := 1) (ci := 7) S X22 (c_X7_step l G t20 I23 ) ck8_33 (Nat.le_of_ble_eq_true rfl) rfl (fun _ => ⟨_, rfl⟩) ⟨_, _, rfl⟩ ⟨Nat.le_of_ble_eq_true rfl, Nat.le_of_ble_eq_true rfl⟩ rfl hl.1 rfl (Nat.le_of_ble_eq_true rfl) dX8_takeYesOrNo_58 ⟨Nat.le_refl 0, Nat.le_refl 0⟩) X22 (fun t27 H lc q25 X26 => ?_)
      unfold po_X7_step at q25
      obtain ⟨q28, q29⟩ := q25
      have F30 : Fr [(16, 1), (16, 2), (1, 3), (1, 4), (1, 5), (1, 7), (1, 8)] [201] τ t27 := Fr_call F24 q29 (by decide)
      refine r_iconst S dX8_takeYesOrNo_61 (by decide) (fun v31 z32 => ?_)
      have r33 := R_eq z32
      exact r_ret S hr hlk X26 ⟨q28, F30, (R_of r33 rfl), (fun h => (by rw [((q29 16 2 (by decide)).trans M21.1)]; exact R_of r19 rfl))⟩ (nr_bool (R_of (lo := 0) (hi := 1) r33 rfl)) dX8_takeYesOrNo_62
    ·
      have r34 : R (1) (1) v12 := ⟨by omega, by omega⟩
      refine r_iconst S dX8_takeYesOrNo_46 (by decide) (fun v35 z36 => ?_)
      have r37 := R_eq z36
      refine r_goto (tgt := 51) S dX8_takeYesOrNo_47 (by decide) ?_
      refine r_put (K := 16) (ty := .int) S X10 (Nat.le_of_ble_eq_true rfl) rfl lk8_42_6 (fun _ => ⟨_, rfl, Nat.le_of_ble_eq_true rfl, rfl⟩) (fun _ _ _ h => by cases h; exact ⟨rfl, rfl⟩) rfl rfl dX8_takeYesOrNo_51 (fun t38 H lc M39 X40 => ?_)
      have I41 := Inv_mu hI M39 (R_any v35)
      have F42 : Fr [(16, 1), (16, 2), (1, 3), (1, 4), (1, 5), (1, 7), (1, 8)] [201] τ t38 := Fr_mu Fr_rfl M39 (by decide)
      refine r_aload_n S dX8_takeYesOrNo_54 rfl (lv_at hl 0 rfl) ?_
      refine r_get (K := 16) (v := .ref (G.2.2.2.1 1)) S X40 (Nat.le_of_ble_eq_true rfl) rfl lk8_9_6 (fun _ => ⟨_, rfl, rfl⟩) dX8_takeYesOrNo_55 ?_
      refine r_kv (q_V (As := []) (rest := []) (K := 1) (ci := 7) S X40 (c_X7_step l G t38 I41 ) ck8_33 (Nat.le_of_ble_eq_true rfl) rfl (fun _ => ⟨_, rfl⟩) ⟨_, _, rfl⟩ ⟨Nat.le_of_ble_eq_true rfl, Nat.le_of_ble_eq_true rfl⟩ rfl hl.1 rfl (Nat.le_of_ble_eq_true rfl) dX8_takeYesOrNo_58 ⟨Nat.le_refl 0, Nat.le_refl 0⟩) X40 (fun t45 H lc q43 X44 => ?_)
      unfold po_X7_step at q43
      obtain ⟨q46, q47⟩ := q43
      have F48 : Fr [(16, 1), (16, 2), (1, 3), (1, 4), (1, 5), (1, 7), (1, 8)] [201] τ t45 := Fr_call F42 q47 (by decide)
      refine r_iconst S dX8_takeYesOrNo_61 (by decide) (fun v49 z50 => ?_)
      have r51 := R_eq z50
      exact r_ret S hr hlk X44 ⟨q46, F48, (R_of r51 rfl), (fun h => (by rw [((q47 16 2 (by decide)).trans M39.1)]; exact R_of r37 rfl))⟩ (nr_bool (R_of (lo := 0) (hi := 1) r51 rfl)) dX8_takeYesOrNo_62
  ·
    have r52 : R (0) (0) v4 := ⟨by omega, by omega⟩
    refine r_aload_n S dX8_takeYesOrNo_13 rfl (lv_at hl 0 rfl) ?_
    refine r_get (K := 16) (v := .ref (G.2.2.2.1 1)) S X2 (Nat.le_of_ble_eq_true rfl) rfl lk8_9_6 (fun _ => ⟨_, rfl, rfl⟩) dX8_takeYesOrNo_14 ?_
    refine r_wst (i := 5) S X2 (by decide) kw17 dX8_takeYesOrNo_17 ?_
    refine r_ki (q_V (As := [.ref (G.2.2.1 5)]) (rest := []) (K := 1) (ci := 7) S X2 (c_X7_is l G τ hI 5 (by decide)) ck8_51 (Nat.le_of_ble_eq_true rfl) rfl (fun _ => ⟨_, rfl⟩) ⟨_, _, rfl⟩ ⟨Nat.le_of_ble_eq_true rfl, Nat.le_of_ble_eq_true rfl⟩ rfl hl.1 rfl (Nat.le_of_ble_eq_true rfl) dX8_takeYesOrNo_20 ⟨Nat.le_refl 0, Nat.le_refl 0⟩) X2 (fun v56 t55 H lc q53 X54 => ?_)
    unfold po_X7_is at q53
    obtain ⟨q57, q58⟩ := q53
    rw [q57] at X54
    refine r_if_ne (tgt := 32) S dX8_takeYesOrNo_23 (by decide) (fun c59 => ?_) (fun c59 => ?_)
    ·
      have r60 : R (1) (1) v56 := ⟨by omega, by omega⟩
      refine r_aload_n S dX8_takeYesOrNo_32 rfl (lv_at hl 0 rfl) ?_
      refine r_aload_n S dX8_takeYesOrNo_33 rfl (lv_at hl 0 rfl) ?_
      refine r_get (K := 16) (v := .ref (G.2.2.2.1 1)) S X54 (Nat.le_of_ble_eq_true rfl) rfl lk8_9_6 (fun _ => ⟨_, rfl, rfl⟩) dX8_takeYesOrNo_34 ?_
      refine r_wst (i := 4) S X54 (by decide) kw16 dX8_takeYesOrNo_37 ?_
      refine r_ki (q_V (As := [.ref (G.2.2.1 4)]) (rest := [.ref (G.2.2.2.1 16)]) (K := 1) (ci := 7) S X54 (c_X7_is l G τ hI 4 (by decide)) ck8_51 (Nat.le_of_ble_eq_true rfl) rfl (fun _ => ⟨_, rfl⟩) ⟨_, _, rfl⟩ ⟨Nat.le_of_ble_eq_true rfl, Nat.le_of_ble_eq_true rfl⟩ rfl hl.1 rfl (Nat.le_of_ble_eq_true rfl) dX8_takeYesOrNo_40 ⟨Nat.le_refl 0, Nat.le_refl 0⟩) X54 (fun v64 t63 H lc q61 X62 => ?_)
      unfold po_X7_is at q61
      obtain ⟨q65, q66⟩ := q61
      rw [q65] at X62
      refine r_if_eq (tgt := 50) S dX8_takeYesOrNo_43 (by decide) (fun c67 => ?_) (fun c67 => ?_)
      ·
        have r68 : R (0) (0) v64 := ⟨by omega, by omega⟩
        refine r_iconst S dX8_takeYesOrNo_50 (by decide) (fun v69 z70 => ?_)
        have r71 := R_eq z70
        refine r_put (K := 16) (ty := .int) S X62 (Nat.le_of_ble_eq_true rfl) rfl lk8_42_6 (fun _ => ⟨_, rfl, Nat.le_of_ble_eq_true rfl, rfl⟩) (fun _ _ _ h => by cases h; exact ⟨rfl, rfl⟩) rfl rfl dX8_takeYesOrNo_51 (fun t72 H lc M73 X74 => ?_)
        have I75 := Inv_mu hI M73 (R_any v69)
        have F76 : Fr [(16, 1), (16, 2), (1, 3), (1, 4), (1, 5), (1, 7), (1, 8)] [201] τ t72 := Fr_mu Fr_rfl M73 (by decide)
        refine r_aload_n S dX8_takeYesOrNo_54 rfl (lv_at hl 0 rfl) ?_
        refine r_get (K := 16) (v := .ref (G.2.2.2.1 1)) S X74 (Nat.le_of_ble_eq_true rfl) rfl lk8_9_6 (fun _ => ⟨_, rfl, rfl⟩) dX8_takeYesOrNo_55 ?_
        refine r_kv (q_V (As := []) (rest := []) (K := 1) (ci := 7) S X74 (c_X7_step l G t72 I75 ) ck8_33 (Nat.le_of_ble_eq_true rfl) rfl (fun _ => ⟨_, rfl⟩) ⟨_, _, rfl⟩ ⟨Nat.le_of_ble_eq_true rfl, Nat.le_of_ble_eq_true rfl⟩ rfl hl.1 rfl (Nat.le_of_ble_eq_true rfl) dX8_takeYesOrNo_58 ⟨Nat.le_refl 0, Nat.le_refl 0⟩) X74 (fun t79 H lc q77 X78 => ?_)
        unfold po_X7_step at q77
        obtain ⟨q80, q81⟩ := q77
        have F82 : Fr [(16, 1), (16, 2), (1, 3), (1, 4), (1, 5), (1, 7), (1, 8)] [201] τ t79 := Fr_call F76 q81 (by decide)
        refine r_iconst S dX8_takeYesOrNo_61 (by decide) (fun v83 z84 => ?_)
        have r85 := R_eq z84
        exact r_ret S hr hlk X78 ⟨q80, F82, (R_of r85 rfl), (fun h => (by rw [((q81 16 2 (by decide)).trans M73.1)]; exact R_of r71 rfl))⟩ (nr_bool (R_of (lo := 0) (hi := 1) r85 rfl)) dX8_takeYesOrNo_62
      ·
        have r86 : R (1) (1) v64 := ⟨by omega, by omega⟩
        refine r_iconst S dX8_takeYesOrNo_46 (by decide) (fun v87 z88 => ?_)
        have r89 := R_eq z88
        refine r_goto (tgt := 51) S dX8_takeYesOrNo_47 (by decide) ?_
        refine r_put (K := 16) (ty := .int) S X62 (Nat.le_of_ble_eq_true rfl) rfl lk8_42_6 (fun _ => ⟨_, rfl, Nat.le_of_ble_eq_true rfl, rfl⟩) (fun _ _ _ h => by cases h; exact ⟨rfl, rfl⟩) rfl rfl dX8_takeYesOrNo_51 (fun t90 H lc M91 X92 => ?_)
        have I93 := Inv_mu hI M91 (R_any v87)
        have F94 : Fr [(16, 1), (16, 2), (1, 3), (1, 4), (1, 5), (1, 7), (1, 8)] [201] τ t90 := Fr_mu Fr_rfl M91 (by decide)
        refine r_aload_n S dX8_takeYesOrNo_54 rfl (lv_at hl 0 rfl) ?_
        refine r_get (K := 16) (v := .ref (G.2.2.2.1 1)) S X92 (Nat.le_of_ble_eq_true rfl) rfl lk8_9_6 (fun _ => ⟨_, rfl, rfl⟩) dX8_takeYesOrNo_55 ?_
        refine r_kv (q_V (As := []) (rest := []) (K := 1) (ci := 7) S X92 (c_X7_step l G t90 I93 ) ck8_33 (Nat.le_of_ble_eq_true rfl) rfl (fun _ => ⟨_, rfl⟩) ⟨_, _, rfl⟩ ⟨Nat.le_of_ble_eq_true rfl, Nat.le_of_ble_eq_true rfl⟩ rfl hl.1 rfl (Nat.le_of_ble_eq_true rfl) dX8_takeYesOrNo_58 ⟨Nat.le_refl 0, Nat.le_refl 0⟩) X92 (fun t97 H lc q95 X96 => ?_)
        unfold po_X7_step at q95
        obtain ⟨q98, q99⟩ := q95
        have F100 : Fr [(16, 1), (16, 2), (1, 3), (1, 4), (1, 5), (1, 7), (1, 8)] [201] τ t97 := Fr_call F94 q99 (by decide)
        refine r_iconst S dX8_takeYesOrNo_61 (by decide) (fun v101 z102 => ?_)
        have r103 := R_eq z102
        exact r_ret S hr hlk X96 ⟨q98, F100, (R_of r103 rfl), (fun h => (by rw [((q99 16 2 (by decide)).trans M91.1)]; exact R_of r89 rfl))⟩ (nr_bool (R_of (lo := 0) (hi := 1) r103 rfl)) dX8_takeYesOrNo_62
    ·
      have r104 : R (0) (0) v56 := ⟨by omega, by omega⟩
      refine r_aload_n S dX8_takeYesOrNo_26 rfl (lv_at hl 0 rfl) ?_
      refine r_iconst S dX8_takeYesOrNo_27 (by decide) (fun v105 z106 => ?_)
      have r107 := R_eq z106
      refine r_ki (q_U (As := [.int v105]) (rest := []) (K := 16) (ci := 6) S X54 (c_X8_fail_16 l G τ hI v105 (R_of (lo := -2147483648) (hi := 2147483647) r107 rfl)) ck8_29_6 (Nat.le_of_ble_eq_true rfl) rfl (fun _ => ⟨_, rfl⟩) ⟨_, _, rfl⟩ ⟨Nat.le_of_ble_eq_true rfl, Nat.le_of_ble_eq_true rfl⟩ rfl hl.1 rfl (Nat.le_of_ble_eq_true rfl) dX8_takeYesOrNo_28 ⟨Nat.le_refl 0, Nat.le_refl 0⟩) X54 (fun v111 t110 H lc q108 X109 => ?_)
      unfold po_X8_fail_16 at q108
      obtain ⟨q112, q113, q114⟩ := q108
      have F115 : Fr [(16, 1), (16, 2), (1, 3), (1, 4), (1, 5), (1, 7), (1, 8)] [201] τ t110 := Fr_call Fr_rfl q113 (by decide)
      exact r_ret S hr hlk X109 ⟨q112, F115, (R_of q114 rfl), (fun h => by exfalso; omega)⟩ (nr_bool (R_of (lo := 0) (hi := 1) q114 rfl)) dX8_takeYesOrNo_31
def po_X8_seeMan_16 (τ : Tau)     (r : Int32) (u : Tau) : Prop := Inv u ∧ Fr [(16, 1), (16, 2)] [] τ u ∧ R (0) (1) r ∧ (r.toInt = 1 → R (0) (9) (u 16 2))
set_option maxHeartbeats 4000000 in
set_option maxRecDepth 100000 in
theorem c_X8_seeMan_16 (l : Launch) (G : Gx) (τ : Tau) (hI : Inv τ) : Ci l G yX8_seeMan cX8_seeMan 2 (some .boolean) 1 23 [.ref (G.2.2.2.1 16), .ref (G.2.2.2.1 23)] τ (po_X8_seeMan_16 τ    ) := by
  unfold Ci
  refine C_of (own := RX8) (by decide) rfl (Nat.le_of_ble_eq_true rfl) ?_
  intro p e s m below meth c ls S hr hlk X hl
  have hl : lv_has ls 2 [(0, .ref (G.2.2.2.1 16)), (1, .ref (G.2.2.2.1 23))] := hl
  refine r_aload_n S dX8_seeMan_0 rfl (lv_at hl 0 rfl) ?_
  refine r_get (K := 16) (v := .ref (G.2.2.2.1 1)) S X (Nat.le_of_ble_eq_true rfl) rfl lk8_9_6 (fun _ => ⟨_, rfl, rfl⟩) dX8_seeMan_1 ?_
  refine r_getn (K := 1) S X (Nat.le_of_ble_eq_true rfl) rfl lk8_36_7 (fun _ => ⟨_, rfl, rfl⟩) dX8_seeMan_4 (fun v1 z2 => ?_)
  have r3 : R (0) (4) v1 := rd hI rfl z2
  refine r_iconst S dX8_seeMan_7 (by decide) (fun v4 z5 => ?_)
  have r6 := R_eq z5
  refine r_icmp_ne (tgt := 24) S dX8_seeMan_8 (by decide) (fun c7 => ?_) (fun c7 => ?_)
  ·
    refine r_aload_n S dX8_seeMan_24 rfl (lv_at hl 0 rfl) ?_
    refine r_iconst S dX8_seeMan_25 (by decide) (fun v8 z9 => ?_)
    have r10 := R_eq z9
    refine r_ki (q_U (As := [.int v8]) (rest := []) (K := 16) (ci := 6) S X (c_X8_fail_16 l G τ hI v8 (R_of (lo := -2147483648) (hi := 2147483647) r10 rfl)) ck8_29_6 (Nat.le_of_ble_eq_true rfl) rfl (fun _ => ⟨_, rfl⟩) ⟨_, _, rfl⟩ ⟨Nat.le_of_ble_eq_true rfl, Nat.le_of_ble_eq_true rfl⟩ rfl hl.1 rfl (Nat.le_of_ble_eq_true rfl) dX8_seeMan_26 ⟨Nat.le_refl 0, Nat.le_refl 0⟩) X (fun v14 t13 H lc q11 X12 => ?_)
    unfold po_X8_fail_16 at q11
    obtain ⟨q15, q16, q17⟩ := q11
    have F18 : Fr [(16, 1), (16, 2)] [] τ t13 := Fr_call Fr_rfl q16 (by decide)
    exact r_ret S hr hlk X12 ⟨q15, F18, (R_of q17 rfl), (fun h => by exfalso; omega)⟩ (nr_bool (R_of (lo := 0) (hi := 1) q17 rfl)) dX8_seeMan_29
  ·
    have r19 : R (2) (2) v1 := ⟨by omega, by omega⟩
    refine r_aload_n S dX8_seeMan_11 rfl (lv_at hl 0 rfl) ?_
    refine r_get (K := 16) (v := .ref (G.2.2.2.1 1)) S X (Nat.le_of_ble_eq_true rfl) rfl lk8_9_6 (fun _ => ⟨_, rfl, rfl⟩) dX8_seeMan_12 ?_
    refine r_getJ (K := 1) S X (Nat.le_of_ble_eq_true rfl) rfl lk8_58_7 (fun _ => ⟨_, rfl, rfl⟩) dX8_seeMan_15 (fun j20 z21 => ?_)
    refine r_ki (q_S (As := [.long j20]) (rest := []) S X (c_X9_isKept l G τ hI j20) ck8_62 ⟨Nat.le_of_ble_eq_true rfl, Nat.le_of_ble_eq_true rfl⟩ rfl hl.1 rfl (Nat.le_of_ble_eq_true rfl) dX8_seeMan_18 ⟨Nat.le_refl 0, Nat.le_refl 0⟩) X (fun v25 t24 H lc q22 X23 => ?_)
    unfold po_X9_isKept at q22
    obtain ⟨q26, q27⟩ := q22
    rw [q26] at X23
    refine r_if_eq (tgt := 30) S dX8_seeMan_21 (by decide) (fun c28 => ?_) (fun c28 => ?_)
    ·
      have r29 : R (0) (0) v25 := ⟨by omega, by omega⟩
      refine r_aload_n S dX8_seeMan_30 rfl (lv_at hl 0 rfl) ?_
      refine r_aload_n S dX8_seeMan_31 rfl (lv_at hl 1 rfl) ?_
      refine r_aload_n S dX8_seeMan_32 rfl (lv_at hl 0 rfl) ?_
      refine r_get (K := 16) (v := .ref (G.2.2.2.1 1)) S X23 (Nat.le_of_ble_eq_true rfl) rfl lk8_9_6 (fun _ => ⟨_, rfl, rfl⟩) dX8_seeMan_33 ?_
      refine r_getJ (K := 1) S X23 (Nat.le_of_ble_eq_true rfl) rfl lk8_58_7 (fun _ => ⟨_, rfl, rfl⟩) dX8_seeMan_36 (fun j30 z31 => ?_)
      refine r_ki (q_V (As := [.long j30]) (rest := [.ref (G.2.2.2.1 16)]) (K := 4) (ci := 2) S X23 (c_X2_manNamed l G τ hI 23 (Nat.le_of_ble_eq_true rfl) rfl j30) ck8_66 (Nat.le_of_ble_eq_true rfl) rfl (fun _ => ⟨_, rfl⟩) ⟨_, _, rfl⟩ ⟨Nat.le_of_ble_eq_true rfl, Nat.le_of_ble_eq_true rfl⟩ rfl hl.1 rfl (Nat.le_of_ble_eq_true rfl) dX8_seeMan_39 ⟨Nat.le_refl 0, Nat.le_refl 0⟩) X23 (fun v35 t34 H lc q32 X33 => ?_)
      unfold po_X2_manNamed at q32
      obtain ⟨q36, q37⟩ := q32
      rw [q36] at X33
      refine r_put (K := 16) (ty := .int) S X33 (Nat.le_of_ble_eq_true rfl) rfl lk8_42_6 (fun _ => ⟨_, rfl, Nat.le_of_ble_eq_true rfl, rfl⟩) (fun _ _ _ h => by cases h; exact ⟨rfl, rfl⟩) rfl rfl dX8_seeMan_42 (fun t38 H lc M39 X40 => ?_)
      have I41 := Inv_mu hI M39 (R_any v35)
      have F42 : Fr [(16, 1), (16, 2)] [] τ t38 := Fr_mu Fr_rfl M39 (by decide)
      refine r_aload_n S dX8_seeMan_45 rfl (lv_at hl 0 rfl) ?_
      refine r_geti (K := 16) S X40 (Nat.le_of_ble_eq_true rfl) rfl lk8_42_6 (fun _ => ⟨_, rfl, rfl⟩) M39.1 dX8_seeMan_46 ?_
      refine r_iconst S dX8_seeMan_49 (by decide) (fun v43 z44 => ?_)
      have r45 := R_eq z44
      refine r_icmp_ne (tgt := 61) S dX8_seeMan_50 (by decide) (fun c46 => ?_) (fun c46 => ?_)
      ·
        have r47 : R (0) (9) v35 := ⟨by omega, by omega⟩
        refine r_iconst S dX8_seeMan_61 (by decide) (fun v48 z49 => ?_)
        have r50 := R_eq z49
        refine r_goto (tgt := 66) S dX8_seeMan_62 (by decide) ?_
        exact r_ret S hr hlk X40 ⟨I41, F42, (R_of r50 rfl), (fun h => (by rw [M39.1]; exact R_of r47 rfl))⟩ (nr_bool (R_of (lo := 0) (hi := 1) r50 rfl)) dX8_seeMan_66
      ·
        have r51 : R (-1) (-1) v35 := ⟨by omega, by omega⟩
        refine r_aload_n S dX8_seeMan_53 rfl (lv_at hl 0 rfl) ?_
        refine r_iconst S dX8_seeMan_54 (by decide) (fun v52 z53 => ?_)
        have r54 := R_eq z53
        refine r_ki (q_U (As := [.int v52]) (rest := []) (K := 16) (ci := 6) S X40 (c_X8_fail_16 l G t38 I41 v52 (R_of (lo := -2147483648) (hi := 2147483647) r54 rfl)) ck8_29_6 (Nat.le_of_ble_eq_true rfl) rfl (fun _ => ⟨_, rfl⟩) ⟨_, _, rfl⟩ ⟨Nat.le_of_ble_eq_true rfl, Nat.le_of_ble_eq_true rfl⟩ rfl hl.1 rfl (Nat.le_of_ble_eq_true rfl) dX8_seeMan_55 ⟨Nat.le_refl 0, Nat.le_refl 0⟩) X40 (fun v58 t57 H lc q55 X56 => ?_)
        unfold po_X8_fail_16 at q55
        obtain ⟨q59, q60, q61⟩ := q55
        have F62 : Fr [(16, 1), (16, 2)] [] τ t57 := Fr_call F42 q60 (by decide)
        refine r_if_eq (tgt := 65) S dX8_seeMan_58 (by decide) (fun c63 => ?_) (fun c63 => ?_)
        ·
          refine r_iconst S dX8_seeMan_65 (by decide) (fun v64 z65 => ?_)
          have r66 := R_eq z65
          exact r_ret S hr hlk X56 ⟨q59, F62, (R_of r66 rfl), (fun h => by exfalso; omega)⟩ (nr_bool (R_of (lo := 0) (hi := 1) r66 rfl)) dX8_seeMan_66
        ·
          exfalso; omega
    ·
      have r67 : R (1) (1) v25 := ⟨by omega, by omega⟩
      refine r_aload_n S dX8_seeMan_24 rfl (lv_at hl 0 rfl) ?_
      refine r_iconst S dX8_seeMan_25 (by decide) (fun v68 z69 => ?_)
      have r70 := R_eq z69
      refine r_ki (q_U (As := [.int v68]) (rest := []) (K := 16) (ci := 6) S X23 (c_X8_fail_16 l G τ hI v68 (R_of (lo := -2147483648) (hi := 2147483647) r70 rfl)) ck8_29_6 (Nat.le_of_ble_eq_true rfl) rfl (fun _ => ⟨_, rfl⟩) ⟨_, _, rfl⟩ ⟨Nat.le_of_ble_eq_true rfl, Nat.le_of_ble_eq_true rfl⟩ rfl hl.1 rfl (Nat.le_of_ble_eq_true rfl) dX8_seeMan_26 ⟨Nat.le_refl 0, Nat.le_refl 0⟩) X23 (fun v74 t73 H lc q71 X72 => ?_)
      unfold po_X8_fail_16 at q71
      obtain ⟨q75, q76, q77⟩ := q71
      have F78 : Fr [(16, 1), (16, 2)] [] τ t73 := Fr_call Fr_rfl q76 (by decide)
      exact r_ret S hr hlk X72 ⟨q75, F78, (R_of q77 rfl), (fun h => by exfalso; omega)⟩ (nr_bool (R_of (lo := 0) (hi := 1) q77 rfl)) dX8_seeMan_29
def po_X8_seeAsk_16 (τ : Tau)     (r : Int32) (u : Tau) : Prop := Inv u ∧ Fr [(16, 1), (16, 2)] [] τ u ∧ R (0) (1) r ∧ (r.toInt = 1 → R (0) (8) (u 16 2))
set_option maxHeartbeats 4000000 in
set_option maxRecDepth 100000 in
theorem c_X8_seeAsk_16 (l : Launch) (G : Gx) (τ : Tau) (hI : Inv τ) : Ci l G yX8_seeAsk cX8_seeAsk 2 (some .boolean) 1 23 [.ref (G.2.2.2.1 16), .ref (G.2.2.2.1 23)] τ (po_X8_seeAsk_16 τ    ) := by
  unfold Ci
  refine C_of (own := RX8) (by decide) rfl (Nat.le_of_ble_eq_true rfl) ?_
  intro p e s m below meth c ls S hr hlk X hl
  have hl : lv_has ls 2 [(0, .ref (G.2.2.2.1 16)), (1, .ref (G.2.2.2.1 23))] := hl
  refine r_aload_n S dX8_seeAsk_0 rfl (lv_at hl 0 rfl) ?_
  refine r_get (K := 16) (v := .ref (G.2.2.2.1 1)) S X (Nat.le_of_ble_eq_true rfl) rfl lk8_9_6 (fun _ => ⟨_, rfl, rfl⟩) dX8_seeAsk_1 ?_
  refine r_getn (K := 1) S X (Nat.le_of_ble_eq_true rfl) rfl lk8_36_7 (fun _ => ⟨_, rfl, rfl⟩) dX8_seeAsk_4 (fun v1 z2 => ?_)
  have r3 : R (0) (4) v1 := rd hI rfl z2
  refine r_iconst S dX8_seeAsk_7 (by decide) (fun v4 z5 => ?_)
  have r6 := R_eq z5
  refine r_icmp_ne (tgt := 24) S dX8_seeAsk_8 (by decide) (fun c7 => ?_) (fun c7 => ?_)
  ·
    refine r_aload_n S dX8_seeAsk_24 rfl (lv_at hl 0 rfl) ?_
    refine r_iconst S dX8_seeAsk_25 (by decide) (fun v8 z9 => ?_)
    have r10 := R_eq z9
    refine r_ki (q_U (As := [.int v8]) (rest := []) (K := 16) (ci := 6) S X (c_X8_fail_16 l G τ hI v8 (R_of (lo := -2147483648) (hi := 2147483647) r10 rfl)) ck8_29_6 (Nat.le_of_ble_eq_true rfl) rfl (fun _ => ⟨_, rfl⟩) ⟨_, _, rfl⟩ ⟨Nat.le_of_ble_eq_true rfl, Nat.le_of_ble_eq_true rfl⟩ rfl hl.1 rfl (Nat.le_of_ble_eq_true rfl) dX8_seeAsk_26 ⟨Nat.le_refl 0, Nat.le_refl 0⟩) X (fun v14 t13 H lc q11 X12 => ?_)
    unfold po_X8_fail_16 at q11
    obtain ⟨q15, q16, q17⟩ := q11
    have F18 : Fr [(16, 1), (16, 2)] [] τ t13 := Fr_call Fr_rfl q16 (by decide)
    exact r_ret S hr hlk X12 ⟨q15, F18, (R_of q17 rfl), (fun h => by exfalso; omega)⟩ (nr_bool (R_of (lo := 0) (hi := 1) q17 rfl)) dX8_seeAsk_29
  ·
    have r19 : R (2) (2) v1 := ⟨by omega, by omega⟩
    refine r_aload_n S dX8_seeAsk_11 rfl (lv_at hl 0 rfl) ?_
    refine r_get (K := 16) (v := .ref (G.2.2.2.1 1)) S X (Nat.le_of_ble_eq_true rfl) rfl lk8_9_6 (fun _ => ⟨_, rfl, rfl⟩) dX8_seeAsk_12 ?_
    refine r_getJ (K := 1) S X (Nat.le_of_ble_eq_true rfl) rfl lk8_58_7 (fun _ => ⟨_, rfl, rfl⟩) dX8_seeAsk_15 (fun j20 z21 => ?_)
    refine r_ki (q_S (As := [.long j20]) (rest := []) S X (c_X9_isKept l G τ hI j20) ck8_62 ⟨Nat.le_of_ble_eq_true rfl, Nat.le_of_ble_eq_true rfl⟩ rfl hl.1 rfl (Nat.le_of_ble_eq_true rfl) dX8_seeAsk_18 ⟨Nat.le_refl 0, Nat.le_refl 0⟩) X (fun v25 t24 H lc q22 X23 => ?_)
    unfold po_X9_isKept at q22
    obtain ⟨q26, q27⟩ := q22
    rw [q26] at X23
    refine r_if_eq (tgt := 30) S dX8_seeAsk_21 (by decide) (fun c28 => ?_) (fun c28 => ?_)
    ·
      have r29 : R (0) (0) v25 := ⟨by omega, by omega⟩
      refine r_aload_n S dX8_seeAsk_30 rfl (lv_at hl 0 rfl) ?_
      refine r_aload_n S dX8_seeAsk_31 rfl (lv_at hl 1 rfl) ?_
      refine r_aload_n S dX8_seeAsk_32 rfl (lv_at hl 0 rfl) ?_
      refine r_get (K := 16) (v := .ref (G.2.2.2.1 1)) S X23 (Nat.le_of_ble_eq_true rfl) rfl lk8_9_6 (fun _ => ⟨_, rfl, rfl⟩) dX8_seeAsk_33 ?_
      refine r_getJ (K := 1) S X23 (Nat.le_of_ble_eq_true rfl) rfl lk8_58_7 (fun _ => ⟨_, rfl, rfl⟩) dX8_seeAsk_36 (fun j30 z31 => ?_)
      refine r_ki (q_V (As := [.long j30]) (rest := [.ref (G.2.2.2.1 16)]) (K := 4) (ci := 2) S X23 (c_X2_askNamed l G τ hI 23 (Nat.le_of_ble_eq_true rfl) rfl j30) ck8_72 (Nat.le_of_ble_eq_true rfl) rfl (fun _ => ⟨_, rfl⟩) ⟨_, _, rfl⟩ ⟨Nat.le_of_ble_eq_true rfl, Nat.le_of_ble_eq_true rfl⟩ rfl hl.1 rfl (Nat.le_of_ble_eq_true rfl) dX8_seeAsk_39 ⟨Nat.le_refl 0, Nat.le_refl 0⟩) X23 (fun v35 t34 H lc q32 X33 => ?_)
      unfold po_X2_askNamed at q32
      obtain ⟨q36, q37⟩ := q32
      rw [q36] at X33
      refine r_put (K := 16) (ty := .int) S X33 (Nat.le_of_ble_eq_true rfl) rfl lk8_42_6 (fun _ => ⟨_, rfl, Nat.le_of_ble_eq_true rfl, rfl⟩) (fun _ _ _ h => by cases h; exact ⟨rfl, rfl⟩) rfl rfl dX8_seeAsk_42 (fun t38 H lc M39 X40 => ?_)
      have I41 := Inv_mu hI M39 (R_any v35)
      have F42 : Fr [(16, 1), (16, 2)] [] τ t38 := Fr_mu Fr_rfl M39 (by decide)
      refine r_aload_n S dX8_seeAsk_45 rfl (lv_at hl 0 rfl) ?_
      refine r_geti (K := 16) S X40 (Nat.le_of_ble_eq_true rfl) rfl lk8_42_6 (fun _ => ⟨_, rfl, rfl⟩) M39.1 dX8_seeAsk_46 ?_
      refine r_iconst S dX8_seeAsk_49 (by decide) (fun v43 z44 => ?_)
      have r45 := R_eq z44
      refine r_icmp_ne (tgt := 61) S dX8_seeAsk_50 (by decide) (fun c46 => ?_) (fun c46 => ?_)
      ·
        have r47 : R (0) (8) v35 := ⟨by omega, by omega⟩
        refine r_iconst S dX8_seeAsk_61 (by decide) (fun v48 z49 => ?_)
        have r50 := R_eq z49
        refine r_goto (tgt := 66) S dX8_seeAsk_62 (by decide) ?_
        exact r_ret S hr hlk X40 ⟨I41, F42, (R_of r50 rfl), (fun h => (by rw [M39.1]; exact R_of r47 rfl))⟩ (nr_bool (R_of (lo := 0) (hi := 1) r50 rfl)) dX8_seeAsk_66
      ·
        have r51 : R (-1) (-1) v35 := ⟨by omega, by omega⟩
        refine r_aload_n S dX8_seeAsk_53 rfl (lv_at hl 0 rfl) ?_
        refine r_iconst S dX8_seeAsk_54 (by decide) (fun v52 z53 => ?_)
        have r54 := R_eq z53
        refine r_ki (q_U (As := [.int v52]) (rest := []) (K := 16) (ci := 6) S X40 (c_X8_fail_16 l G t38 I41 v52 (R_of (lo := -2147483648) (hi := 2147483647) r54 rfl)) ck8_29_6 (Nat.le_of_ble_eq_true rfl) rfl (fun _ => ⟨_, rfl⟩) ⟨_, _, rfl⟩ ⟨Nat.le_of_ble_eq_true rfl, Nat.le_of_ble_eq_true rfl⟩ rfl hl.1 rfl (Nat.le_of_ble_eq_true rfl) dX8_seeAsk_55 ⟨Nat.le_refl 0, Nat.le_refl 0⟩) X40 (fun v58 t57 H lc q55 X56 => ?_)
        unfold po_X8_fail_16 at q55
        obtain ⟨q59, q60, q61⟩ := q55
        have F62 : Fr [(16, 1), (16, 2)] [] τ t57 := Fr_call F42 q60 (by decide)
        refine r_if_eq (tgt := 65) S dX8_seeAsk_58 (by decide) (fun c63 => ?_) (fun c63 => ?_)
        ·
          refine r_iconst S dX8_seeAsk_65 (by decide) (fun v64 z65 => ?_)
          have r66 := R_eq z65
          exact r_ret S hr hlk X56 ⟨q59, F62, (R_of r66 rfl), (fun h => by exfalso; omega)⟩ (nr_bool (R_of (lo := 0) (hi := 1) r66 rfl)) dX8_seeAsk_66
        ·
          exfalso; omega
    ·
      have r67 : R (1) (1) v25 := ⟨by omega, by omega⟩
      refine r_aload_n S dX8_seeAsk_24 rfl (lv_at hl 0 rfl) ?_
      refine r_iconst S dX8_seeAsk_25 (by decide) (fun v68 z69 => ?_)
      have r70 := R_eq z69
      refine r_ki (q_U (As := [.int v68]) (rest := []) (K := 16) (ci := 6) S X23 (c_X8_fail_16 l G τ hI v68 (R_of (lo := -2147483648) (hi := 2147483647) r70 rfl)) ck8_29_6 (Nat.le_of_ble_eq_true rfl) rfl (fun _ => ⟨_, rfl⟩) ⟨_, _, rfl⟩ ⟨Nat.le_of_ble_eq_true rfl, Nat.le_of_ble_eq_true rfl⟩ rfl hl.1 rfl (Nat.le_of_ble_eq_true rfl) dX8_seeAsk_26 ⟨Nat.le_refl 0, Nat.le_refl 0⟩) X23 (fun v74 t73 H lc q71 X72 => ?_)
      unfold po_X8_fail_16 at q71
      obtain ⟨q75, q76, q77⟩ := q71
      have F78 : Fr [(16, 1), (16, 2)] [] τ t73 := Fr_call Fr_rfl q76 (by decide)
      exact r_ret S hr hlk X72 ⟨q75, F78, (R_of q77 rfl), (fun h => by exfalso; omega)⟩ (nr_bool (R_of (lo := 0) (hi := 1) q77 rfl)) dX8_seeAsk_29
