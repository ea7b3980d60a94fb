def po_X7_is_q (τ : Tau)   (a0 : Nat) (bb : Nat → Int) (nb lm : Nat) (t : Tk) (r : Int32) (u : Tau) : Prop := u = τ ∧ R (0) (1) r ∧ (r.toInt = 1 ↔ isW bb a0 t)
set_option maxHeartbeats 4000000 in
set_option maxRecDepth 100000 in
theorem c_X7_is_q (l : Launch) (G : Gx) (τ : Tau) (hI : Inv τ) (a0 : Nat) (h_a0 : a0 < 24) (bb : Nat → Int) (nb lm : Nat) (t : Tk) (hT : RT bb nb lm τ t) : Ci l G yX7_is cX7_is 2 (some .boolean) 0 0 [.ref (G.2.2.2.1 1), .ref (G.2.2.1 a0)] τ (po_X7_is_q τ   a0 bb nb lm t) := by
  unfold Ci
  refine C_of (own := RX7) (by decide) rfl (Nat.le_of_ble_eq_true rfl) ?_
  intro p e s m below meth c ls S hr hlk X hl
  have hl : lv_has ls 2 [(0, .ref (G.2.2.2.1 1)), (1, .ref (G.2.2.1 a0))] := hl
  refine r_aload_n S dX7_is_0 rfl (lv_at hl 0 rfl) ?_
  refine r_getn (K := 1) S X (Nat.le_of_ble_eq_true rfl) rfl lk7_31_7 (fun _ => ⟨_, rfl, rfl⟩) dX7_is_1 (fun v1 z2 => ?_)
  have r3 : R (0) (4) v1 := rd hI rfl z2
  refine r_iconst S dX7_is_4 (by decide) (fun v4 z5 => ?_)
  have r6 := R_eq z5
  refine r_icmp_ne (tgt := 24) S dX7_is_5 (by decide) (fun c7 => ?_) (fun c7 => ?_)
  ·
    refine r_iconst S dX7_is_24 (by decide) (fun v8 z9 => ?_)
    have r10 := R_eq z9
    exact r_ret S hr hlk X ⟨rfl, (R_of r10 rfl), ⟨fun h => by exfalso; omega, fun h => absurd ((RT_k hT).2.1.mpr h.1) (by rw [z2]; omega)⟩⟩ (nr_bool (R_of (lo := 0) (hi := 1) r10 rfl)) dX7_is_25
  ·
    have r11 : R (2) (2) v1 := ⟨by omega, by omega⟩
    refine r_aload_n S dX7_is_8 rfl (lv_at hl 0 rfl) ?_
    refine r_getJ (K := 1) S X (Nat.le_of_ble_eq_true rfl) rfl lk7_34_7 (fun _ => ⟨_, rfl, rfl⟩) dX7_is_9 (fun j12 z13 => ?_)
    refine r_aload_n S dX7_is_12 rfl (lv_at hl 1 rfl) ?_
    refine r_wsp S X h_a0 kw7 dX7_is_13 (fun j14 z15 => ?_)
    refine r_lcmp S dX7_is_16 (fun v16 r17 e18 => ?_)
    refine r_if_ne (tgt := 24) S dX7_is_17 (by decide) (fun c19 => ?_) (fun c19 => ?_)
    ·
      refine r_iconst S dX7_is_24 (by decide) (fun v20 z21 => ?_)
      have r22 := R_eq z21
      exact r_ret S hr hlk X ⟨rfl, (R_of r22 rfl), ⟨fun h => by exfalso; omega, fun h => absurd (e18.mpr ((kw_eq h_a0 z15 (by rw [← z13]; exact (RT_low hT ((RT_k hT).2.1.mp (by rw [z2]; omega))).2) (RT_low hT ((RT_k hT).2.1.mp (by rw [z2]; omega))).1).mpr h.2.symm).symm) (by omega)⟩⟩ (nr_bool (R_of (lo := 0) (hi := 1) r22 rfl)) dX7_is_25
    ·
      have r23 : R (0) (0) v16 := ⟨by omega, by omega⟩
      refine r_iconst S dX7_is_20 (by decide) (fun v24 z25 => ?_)
      have r26 := R_eq z25
      refine r_goto (tgt := 25) S dX7_is_21 (by decide) ?_
      exact r_ret S hr hlk X ⟨rfl, (R_of r26 rfl), ⟨fun _ => ⟨((RT_k hT).2.1.mp (by rw [z2]; omega)), (((kw_eq h_a0 z15 (by rw [← z13]; exact (RT_low hT ((RT_k hT).2.1.mp (by rw [z2]; omega))).2) (RT_low hT ((RT_k hT).2.1.mp (by rw [z2]; omega))).1).mp (e18.mp (by omega)).symm)).symm⟩, fun _ => by omega⟩⟩ (nr_bool (R_of (lo := 0) (hi := 1) r26 rfl)) dX7_is_25
def po_X7_isSigned_q (τ : Tau)  (a0 : Int32)  (bb : Nat → Int) (nb lm : Nat) (t : Tk) (r : Int32) (u : Tau) : Prop := u = τ ∧ R (0) (1) r ∧ (r.toInt = 1 ↔ t.1 = 3 ∧ bb t.2.1 = a0.toInt)
set_option maxHeartbeats 4000000 in
set_option maxRecDepth 100000 in
theorem c_X7_isSigned_q (l : Launch) (G : Gx) (τ : Tau) (hI : Inv τ) (a0 : Int32) (h_a0 : R (0) (65535) a0) (bb : Nat → Int) (nb lm : Nat) (t : Tk) (hT : RT bb nb lm τ t) : Ci l G yX7_isSigned cX7_isSigned 2 (some .boolean) 0 0 [.ref (G.2.2.2.1 1), .int a0] τ (po_X7_isSigned_q τ  a0  bb nb lm t) := by
  unfold Ci
  refine C_of (own := RX7) (by decide) rfl (Nat.le_of_ble_eq_true rfl) ?_
  intro p e s m below meth c ls S hr hlk X hl
  have hl : lv_has ls 2 [(0, .ref (G.2.2.2.1 1)), (1, .int a0)] := hl
  refine r_aload_n S dX7_isSigned_0 rfl (lv_at hl 0 rfl) ?_
  refine r_getn (K := 1) S X (Nat.le_of_ble_eq_true rfl) rfl lk7_31_7 (fun _ => ⟨_, rfl, rfl⟩) dX7_isSigned_1 (fun v1 z2 => ?_)
  have r3 : R (0) (4) v1 := rd hI rfl z2
  refine r_iconst S dX7_isSigned_4 (by decide) (fun v4 z5 => ?_)
  have r6 := R_eq z5
  refine r_icmp_ne (tgt := 20) S dX7_isSigned_5 (by decide) (fun c7 => ?_) (fun c7 => ?_)
  ·
    have r8 : R (0) (3) v1 := ⟨by omega, by omega⟩
    refine r_iconst S dX7_isSigned_20 (by decide) (fun v9 z10 => ?_)
    have r11 := R_eq z10
    exact r_ret S hr hlk X ⟨rfl, (R_of r11 rfl), ⟨fun h => by exfalso; omega, fun h => absurd ((RT_k hT).2.2.2.mpr h.1) (by rw [z2]; omega)⟩⟩ (nr_bool (R_of (lo := 0) (hi := 1) r11 rfl)) dX7_isSigned_21
  ·
    have r12 : R (4) (4) v1 := ⟨by omega, by omega⟩
    refine r_aload_n S dX7_isSigned_8 rfl (lv_at hl 0 rfl) ?_
    refine r_getn (K := 1) S X (Nat.le_of_ble_eq_true rfl) rfl lk7_43_7 (fun _ => ⟨_, rfl, rfl⟩) dX7_isSigned_9 (fun v13 z14 => ?_)
    have r16 := R_any v13
    refine r_iload_n S dX7_isSigned_12 rfl (lv_at hl 1 rfl) ?_
    refine r_icmp_ne (tgt := 20) S dX7_isSigned_13 (by decide) (fun c17 => ?_) (fun c17 => ?_)
    ·
      refine r_iconst S dX7_isSigned_20 (by decide) (fun v18 z19 => ?_)
      have r20 := R_eq z19
      exact r_ret S hr hlk X ⟨rfl, (R_of r20 rfl), ⟨fun h => by exfalso; omega, fun h => absurd h.2 (by rw [← (RT_sgn hT ((RT_k hT).2.2.2.mp (by rw [z2]; omega))), z14]; omega)⟩⟩ (nr_bool (R_of (lo := 0) (hi := 1) r20 rfl)) dX7_isSigned_21
    ·
      have r21 : R (0) (65535) v13 := ⟨by omega, by omega⟩
      refine r_iconst S dX7_isSigned_16 (by decide) (fun v22 z23 => ?_)
      have r24 := R_eq z23
      refine r_goto (tgt := 21) S dX7_isSigned_17 (by decide) ?_
      exact r_ret S hr hlk X ⟨rfl, (R_of r24 rfl), ⟨fun _ => ⟨((RT_k hT).2.2.2.mp (by rw [z2]; omega)), by rw [← (RT_sgn hT ((RT_k hT).2.2.2.mp (by rw [z2]; omega))), z14]; omega⟩, fun _ => by omega⟩⟩ (nr_bool (R_of (lo := 0) (hi := 1) r24 rfl)) dX7_isSigned_21
def po_X9_isKept_q (τ : Tau)   (a0 : Int64) (wd0 : List Int) (r : Int32) (u : Tau) : Prop := u = τ ∧ R (0) (1) r ∧ (r.toInt = 1 ↔ wd0 ∈ kwl)
set_option maxHeartbeats 4000000 in
set_option maxRecDepth 100000 in
theorem c_X9_isKept_q (l : Launch) (G : Gx) (τ : Tau) (hI : Inv τ) (a0 : Int64) (wd0 : List Int) (hy : a0.toInt = e27 wd0) (hw : lowL wd0) : Ci l G yX9_isKept cX9_isKept 3 (some .boolean) 0 0 [.long a0] τ (po_X9_isKept_q τ   a0 wd0) := by
  unfold Ci
  refine C_of (own := RX9) (by decide) rfl (Nat.le_of_ble_eq_true rfl) ?_
  intro p e s m below meth c ls S hr hlk X hl
  have hl : lv_has ls 3 [(0, .long a0)] := hl
  refine r_iconst S dX9_isKept_0 (by decide) (fun v1 z2 => ?_)
  have r3 := R_eq z2
  refine r_istore_n (lv' := [(2, .int v1), (0, .long a0)]) S dX9_isKept_1 rfl hl (by decide) rfl (fun ls hl => ?_)
  have L229 : ∀ (n : Nat) (H : Heap) (lc : List Loc) (ls : Array Slot) (i226 : Int32), Xd G s H lc τ → R (0) (24) i226 → (∀ k, k < (i226).toInt.toNat → kwl.getD k [] ≠ wd0) → lv_has ls 3 [(0, .long a0), (2, .int i226)] → (24 - i226.toInt).toNat < n → W p l e (Rm 0 0) s m ([.long a0] : List Value).toArray below meth c H lc 0 0 (MQ below (va_Qi (po_X9_isKept_q τ   a0 wd0) (Bs G) G.2.2.2.2) ([.long a0] : List Value).toArray s 0 0 G.2.2.2.2) (F0 m 2 ls []) := by
    intro n
    induction n with
    | zero => intros; omega
    | succ n ih231 =>
      intro H lc ls i226 X228 r227 x230 hl hm
      refine r_iload_n S dX9_isKept_2 rfl (lv_at hl 1 rfl) ?_
      obtain ⟨tA, hZA, hTA⟩ := S.2.2.2.1.2.2
      refine va_gets S.1.1 S.1.2.1 hZA X228.2 S.1.2.2.2.1 (S.1.2.2.2.2 _ kw14) (fun _ h => h) dX9_isKept_3 ?_
      refine va_tlen S.1.1 S.1.2.1 hTA X228.2 rfl dX9_isKept_6 ?_
      refine lv_topi (fun v232 z233 => ?_)
      have r234 : R 24 24 v232 := by rw [z233]; decide
      refine r_icmp_ge (tgt := 31) S dX9_isKept_7 (by decide) (fun c235 => ?_) (fun c235 => ?_)
      ·
        have r236 : R (24) (24) i226 := ⟨by omega, by omega⟩
        refine r_iconst S dX9_isKept_31 (by decide) (fun v237 z238 => ?_)
        have r239 := R_eq z238
        exact r_ret S hr hlk X228 ⟨rfl, (R_of r239 rfl), ⟨fun h => by exfalso; omega, fun h => absurd h (kw_not (fun j hj => x230 j (by omega)))⟩⟩ (nr_bool (R_of (lo := 0) (hi := 1) r239 rfl)) dX9_isKept_32
      ·
        have r240 : R (0) (23) i226 := ⟨by omega, by omega⟩
        obtain ⟨tA, hZA, hTA⟩ := S.2.2.2.1.2.2
        refine va_gets S.1.1 S.1.2.1 hZA X228.2 S.1.2.2.2.1 (S.1.2.2.2.2 _ kw14) (fun _ h => h) dX9_isKept_10 ?_
        refine r_iload_n S dX9_isKept_13 rfl (lv_at hl 1 rfl) ?_
        refine vb_tq S.1.1 S.1.2.1 hTA X228.2 (vp_in_iff.mpr (ix_of r240 rfl)) rfl dX9_isKept_14 ?_
        obtain ⟨w241, h242⟩ : ∃ n, n = i226.toNatClampNeg := ⟨_, rfl⟩
        rw [← h242]
        have h_w241 : w241 < 24 := by have hh : i226.toNatClampNeg = i226.toInt.toNat := rfl; omega
        refine r_wsp S X228 h_w241 kw15 dX9_isKept_15 (fun j243 z244 => ?_)
        refine lv_lload_n S.1.1 S.1.2.1 dX9_isKept_18 rfl (lv_at hl 0 rfl) ?_
        refine r_lcmp S dX9_isKept_19 (fun v245 r246 e247 => ?_)
        refine r_if_ne (tgt := 25) S dX9_isKept_20 (by decide) (fun c248 => ?_) (fun c248 => ?_)
        ·
          refine r_iinc (k := 1) S dX9_isKept_25 hl rfl (by decide) (by decide) (fun v249 d250 ls z251 z252 hl => ?_)
          obtain ⟨e253, r254⟩ := i_add (lo := 1) (hi := 24) z251 r240 (R_eq z252) rfl
          have hl : lv_has ls 3 [(2, .int v249), (0, .long a0)] := hl
          refine r_goto (tgt := 2) S dX9_isKept_28 (by decide) ?_
          exact ih231 _ _ _ v249 X228 (R_of r254 rfl) (up_ne x230 (fun h => absurd (e247.mpr ((kw_eq h_w241 z244 hy hw).mpr (by rw [h242]; exact h))) (by omega)) (by omega) (by omega)) (lv_sub hl [1, 0] rfl) (by omega)
        ·
          have r255 : R (0) (0) v245 := ⟨by omega, by omega⟩
          refine r_iconst S dX9_isKept_23 (by decide) (fun v256 z257 => ?_)
          have r258 := R_eq z257
          exact r_ret S hr hlk X228 ⟨rfl, (R_of r258 rfl), ⟨fun _ => kw_mem h_w241 ((kw_eq h_w241 z244 hy hw).mp (e247.mp (by omega))), fun _ => by omega⟩⟩ (nr_bool (R_of (lo := 0) (hi := 1) r258 rfl)) dX9_isKept_24
  exact L229 _ _ _ _ v1 X (R_of r3 rfl) (fun k h => by exfalso; omega) (lv_sub hl [1, 0] rfl) (Nat.lt_succ_self _)
def po_X2_askNamed_q (τ : Tau)    (ns : List (List Int)) (wd0 : List Int) (r : Int32) (u : Tau) : Prop := u = τ ∧ R (-1) (8) r ∧ r.toInt = fnd ns wd0
set_option maxHeartbeats 4000000 in
set_option maxRecDepth 100000 in
theorem c_X2_askNamed_q (l : Launch) (G : Gx) (τ : Tau) (hI : Inv τ) (a0 : Int64) (ns : List (List Int)) (wd0 : List Int) (hN : NM τ 4 2 9 ns) (hy : a0.toInt = e27 wd0) (hw : lowL wd0) : Ci l G yX2_askNamed cX2_askNamed 4 (some .int) 0 0 [.ref (G.2.2.2.1 4), .long a0] τ (po_X2_askNamed_q τ    ns wd0) := by
  unfold Ci
  refine C_of (own := RX2) (by decide) rfl (Nat.le_of_ble_eq_true rfl) ?_
  intro p e s m below meth c ls S hr hlk X hl
  have hl : lv_has ls 4 [(0, .ref (G.2.2.2.1 4)), (1, .long a0)] := hl
  refine r_iconst S dX2_askNamed_0 (by decide) (fun v1 z2 => ?_)
  have r3 := R_eq z2
  refine r_istore_n (lv' := [(3, .int v1), (0, .ref (G.2.2.2.1 4)), (1, .long a0)]) S dX2_askNamed_1 rfl hl (by decide) rfl (fun ls hl => ?_)
  have L151 : ∀ (n : Nat) (H : Heap) (lc : List Loc) (ls : Array Slot) (i148 : Int32), Xd G s H lc τ → R (0) (9) i148 → (∀ k, k < (i148).toInt.toNat → ns.getD k [] ≠ wd0) → lv_has ls 4 [(0, .ref (G.2.2.2.1 4)), (1, .long a0), (3, .int i148)] → (9 - i148.toInt).toNat < n → W p l e (Rm 0 0) s m ([.ref (G.2.2.2.1 4), .long a0] : List Value).toArray below meth c H lc 0 0 (MQ below (va_Qi (po_X2_askNamed_q τ    ns wd0) (Bs G) G.2.2.2.2) ([.ref (G.2.2.2.1 4), .long a0] : List Value).toArray s 0 0 G.2.2.2.2) (F0 m 2 ls []) := by
    intro n
    induction n with
    | zero => intros; omega
    | succ n ih153 =>
      intro H lc ls i148 X150 r149 x152 hl hm
      refine r_iload_n S dX2_askNamed_2 rfl (lv_at hl 2 rfl) ?_
      refine r_aload_n S dX2_askNamed_3 rfl (lv_at hl 0 rfl) ?_
      refine r_getn (K := 4) S X150 (Nat.le_of_ble_eq_true rfl) rfl lk2_41_2 (fun _ => ⟨_, rfl, rfl⟩) dX2_askNamed_4 (fun v154 z155 => ?_)
      have r156 : R (0) (9) v154 := rd hI rfl z155
      have e157 := congrArg Int32.toInt z155
      have e158 := hN.1
      refine r_icmp_ge (tgt := 29) S dX2_askNamed_7 (by decide) (fun c159 => ?_) (fun c159 => ?_)
      ·
        refine r_iconst S dX2_askNamed_29 (by decide) (fun v160 z161 => ?_)
        have r162 := R_eq z161
        exact r_ret S hr hlk X150 ⟨rfl, (R_of r162 rfl), (by rw [fnd_no (fun j hj => x152 j (by omega))]; omega)⟩ rfl dX2_askNamed_30
      ·
        have r163 : R (0) (8) i148 := ⟨by omega, by omega⟩
        have r164 : R (1) (9) v154 := ⟨by omega, by omega⟩
        refine r_aload_n S dX2_askNamed_10 rfl (lv_at hl 0 rfl) ?_
        refine r_get (K := 4) (v := .ref (G.2.2.2.1 9)) S X150 (Nat.le_of_ble_eq_true rfl) rfl lk2_24_2 (fun _ => ⟨_, rfl, rfl⟩) dX2_askNamed_11 ?_
        refine r_iload_n S dX2_askNamed_14 rfl (lv_at hl 2 rfl) ?_
        refine r_lald (n := 9) (K := 9) S X150 (Nat.le_of_ble_eq_true rfl) rfl (fun _ => rfl) (ix_of r163 rfl) dX2_askNamed_15 (fun j165 z166 => ?_)
        refine lv_lload_n S.1.1 S.1.2.1 dX2_askNamed_16 rfl (lv_at hl 1 rfl) ?_
        refine r_lcmp S dX2_askNamed_17 (fun v167 r168 e169 => ?_)
        refine r_if_ne (tgt := 23) S dX2_askNamed_18 (by decide) (fun c170 => ?_) (fun c170 => ?_)
        ·
          refine r_iinc (k := 2) S dX2_askNamed_23 hl rfl (by decide) (by decide) (fun v171 d172 ls z173 z174 hl => ?_)
          obtain ⟨e175, r176⟩ := i_add (lo := 1) (hi := 9) z173 r163 (R_eq z174) rfl
          have hl : lv_has ls 4 [(3, .int v171), (0, .ref (G.2.2.2.1 4)), (1, .long a0)] := hl
          refine r_goto (tgt := 2) S dX2_askNamed_26 (by decide) ?_
          exact ih153 _ _ _ v171 X150 (R_of r176 rfl) (up_ne (i := i148) x152 (fun h => absurd (e169.mpr ((NM_at (i := i148.toInt.toNat) hN (by omega) z166 hy hw).mpr h)) (by omega)) (by omega) (by omega)) (lv_sub hl [1, 2, 0] rfl) (by omega)
        ·
          have r177 : R (0) (0) v167 := ⟨by omega, by omega⟩
          refine r_iload_n S dX2_askNamed_21 rfl (lv_at hl 2 rfl) ?_
          exact r_ret S hr hlk X150 ⟨rfl, (R_of r163 rfl), (by rw [fnd_at (i := i148.toInt.toNat) (by omega) ((NM_at (i := i148.toInt.toNat) hN (by omega) z166 hy hw).mp (e169.mp (by omega))) x152]; omega)⟩ rfl dX2_askNamed_22
  exact L151 _ _ _ _ v1 X (R_of r3 rfl) (fun k h => by exfalso; omega) (lv_sub hl [1, 2, 0] rfl) (Nat.lt_succ_self _)
def po_X2_manNamed_q (τ : Tau)    (ns : List (List Int)) (wd0 : List Int) (r : Int32) (u : Tau) : Prop := u = τ ∧ R (-1) (9) r ∧ r.toInt = fnd ns wd0
set_option maxHeartbeats 4000000 in
set_option maxRecDepth 100000 in
theorem c_X2_manNamed_q (l : Launch) (G : Gx) (τ : Tau) (hI : Inv τ) (a0 : Int64) (ns : List (List Int)) (wd0 : List Int) (hN : NM τ 4 3 10 ns) (hy : a0.toInt = e27 wd0) (hw : lowL wd0) : Ci l G yX2_manNamed cX2_manNamed 4 (some .int) 0 0 [.ref (G.2.2.2.1 4), .long a0] τ (po_X2_manNamed_q τ    ns wd0) := by
  unfold Ci
  refine C_of (own := RX2) (by decide) rfl (Nat.le_of_ble_eq_true rfl) ?_
  intro p e s m below meth c ls S hr hlk X hl
  have hl : lv_has ls 4 [(0, .ref (G.2.2.2.1 4)), (1, .long a0)] := hl
  refine r_iconst S dX2_manNamed_0 (by decide) (fun v1 z2 => ?_)
  have r3 := R_eq z2
  refine r_istore_n (lv' := [(3, .int v1), (0, .ref (G.2.2.2.1 4)), (1, .long a0)]) S dX2_manNamed_1 rfl hl (by decide) rfl (fun ls hl => ?_)
  have L175 : ∀ (n : Nat) (H : Heap) (lc : List Loc) (ls : Array Slot) (i172 : Int32), Xd G s H lc τ → R (0) (10) i172 → (∀ k, k < (i172).toInt.toNat → ns.getD k [] ≠ wd0) → lv_has ls 4 [(0, .ref (G.2.2.2.1 4)), (1, .long a0), (3, .int i172)] → (10 - i172.toInt).toNat < n → W p l e (Rm 0 0) s m ([.ref (G.2.2.2.1 4), .long a0] : List Value).toArray below meth c H lc 0 0 (MQ below (va_Qi (po_X2_manNamed_q τ    ns wd0) (Bs G) G.2.2.2.2) ([.ref (G.2.2.2.1 4), .long a0] : List Value).toArray s 0 0 G.2.2.2.2) (F0 m 2 ls []) := by
    intro n
    induction n with
    | zero => intros; omega
    | succ n ih177 =>
      intro H lc ls i172 X174 r173 x176 hl hm
      refine r_iload_n S dX2_manNamed_2 rfl (lv_at hl 2 rfl) ?_
      refine r_aload_n S dX2_manNamed_3 rfl (lv_at hl 0 rfl) ?_
      refine r_getn (K := 4) S X174 (Nat.le_of_ble_eq_true rfl) rfl lk2_44_2 (fun _ => ⟨_, rfl, rfl⟩) dX2_manNamed_4 (fun v178 z179 => ?_)
      have r180 : R (0) (10) v178 := rd hI rfl z179
      have e181 := congrArg Int32.toInt z179
      have e182 := hN.1
      refine r_icmp_ge (tgt := 29) S dX2_manNamed_7 (by decide) (fun c183 => ?_) (fun c183 => ?_)
      ·
        refine r_iconst S dX2_manNamed_29 (by decide) (fun v184 z185 => ?_)
        have r186 := R_eq z185
        exact r_ret S hr hlk X174 ⟨rfl, (R_of r186 rfl), (by rw [fnd_no (fun j hj => x176 j (by omega))]; omega)⟩ rfl dX2_manNamed_30
      ·
        have r187 : R (0) (9) i172 := ⟨by omega, by omega⟩
        have r188 : R (1) (10) v178 := ⟨by omega, by omega⟩
        refine r_aload_n S dX2_manNamed_10 rfl (lv_at hl 0 rfl) ?_
        refine r_get (K := 4) (v := .ref (G.2.2.2.1 10)) S X174 (Nat.le_of_ble_eq_true rfl) rfl lk2_28_2 (fun _ => ⟨_, rfl, rfl⟩) dX2_manNamed_11 ?_
        refine r_iload_n S dX2_manNamed_14 rfl (lv_at hl 2 rfl) ?_
        refine r_lald (n := 10) (K := 10) S X174 (Nat.le_of_ble_eq_true rfl) rfl (fun _ => rfl) (ix_of r187 rfl) dX2_manNamed_15 (fun j189 z190 => ?_)
        refine lv_lload_n S.1.1 S.1.2.1 dX2_manNamed_16 rfl (lv_at hl 1 rfl) ?_
        refine r_lcmp S dX2_manNamed_17 (fun v191 r192 e193 => ?_)
        refine r_if_ne (tgt := 23) S dX2_manNamed_18 (by decide) (fun c194 => ?_) (fun c194 => ?_)
        ·
          refine r_iinc (k := 2) S dX2_manNamed_23 hl rfl (by decide) (by decide) (fun v195 d196 ls z197 z198 hl => ?_)
          obtain ⟨e199, r200⟩ := i_add (lo := 1) (hi := 10) z197 r187 (R_eq z198) rfl
          have hl : lv_has ls 4 [(3, .int v195), (0, .ref (G.2.2.2.1 4)), (1, .long a0)] := hl
          refine r_goto (tgt := 2) S dX2_manNamed_26 (by decide) ?_
          exact ih177 _ _ _ v195 X174 (R_of r200 rfl) (up_ne (i := i172) x176 (fun h => absurd (e193.mpr ((NM_at (i := i172.toInt.toNat) hN (by omega) z190 hy hw).mpr h)) (by omega)) (by omega) (by omega)) (lv_sub hl [1, 2, 0] rfl) (by omega)
        ·
          have r201 : R (0) (0) v191 := ⟨by omega, by omega⟩
          refine r_iload_n S dX2_manNamed_21 rfl (lv_at hl 2 rfl) ?_
          exact r_ret S hr hlk X174 ⟨rfl, (R_of r187 rfl), (by rw [fnd_at (i := i172.toInt.toNat) (by omega) ((NM_at (i := i172.toInt.toNat) hN (by omega) z190 hy hw).mp (e193.mp (by omega))) x176]; omega)⟩ rfl dX2_manNamed_22
  exact L175 _ _ _ _ v1 X (R_of r3 rfl) (fun k h => by exfalso; omega) (lv_sub hl [1, 2, 0] rfl) (Nat.lt_succ_self _)
def po_X8_fail_q (τ : Tau)  (a0 : Int32)   (r : Int32) (u : Tau) : Prop := Inv u ∧ Fr [(3, 1)] [] τ u ∧ R (0) (0) r ∧ u 3 1 = a0
set_option maxHeartbeats 4000000 in
set_option maxRecDepth 100000 in
theorem c_X8_fail_q (l : Launch) (G : Gx) (τ : Tau) (hI : Inv τ) (a0 : Int32) (h_a0 : R (-2147483648) (2147483647) a0) : Ci l G yX8_fail cX8_fail 2 (some .boolean) 0 0 [.ref (G.2.2.2.1 3), .int a0] τ (po_X8_fail_q τ  a0  ) := by
  unfold Ci
  refine C_of (own := RX8) (by decide) rfl (Nat.le_of_ble_eq_true rfl) ?_
  intro p e s m below meth c ls S hr hlk X hl
  have hl : lv_has ls 2 [(0, .ref (G.2.2.2.1 3)), (1, .int a0)] := hl
  refine r_aload_n S dX8_fail_0 rfl (lv_at hl 0 rfl) ?_
  refine r_iload_n S dX8_fail_1 rfl (lv_at hl 1 rfl) ?_
  refine r_put (K := 3) (ty := .int) S X (Nat.le_of_ble_eq_true rfl) rfl lk8_15_0 (fun _ => ⟨_, rfl, Nat.le_of_ble_eq_true rfl, rfl⟩) (fun _ _ _ h => by cases h; exact ⟨rfl, rfl⟩) rfl rfl dX8_fail_2 (fun t1 H lc M2 X3 => ?_)
  have I4 := Inv_mu hI M2 (R_any a0)
  have F5 : Fr [(3, 1)] [] τ t1 := Fr_mu Fr_rfl M2 (by decide)
  refine r_iconst S dX8_fail_5 (by decide) (fun v6 z7 => ?_)
  have r8 := R_eq z7
  exact r_ret S hr hlk X3 ⟨I4, F5, r8, M2.1⟩ (nr_bool (R_of (lo := 0) (hi := 1) r8 rfl)) dX8_fail_6
