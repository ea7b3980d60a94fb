def po_X2_askNamed_qw (τ : Tau)    (ns : List (List Int)) (wd0 : List Int) (r : Int32) (u : Tau) : Prop := u = τ ∧ R (-1) (8) r ∧ r.toInt = fnd ns wd0
set_option maxHeartbeats 4000000 in
set_option maxRecDepth 100000 in
theorem c_X2_askNamed_qw (l : Launch) (G : Gx) (τ : Tau) (hI : Inv τ) (a0 : Int64) (ns : List (List Int)) (wd0 : List Int) (hN : NM τ 23 2 28 ns) (hy : a0.toInt = e27 wd0) (hw : lowL wd0) : Ci l G yX2_askNamed cX2_askNamed 4 (some .int) 0 0 [.ref (G.2.2.2.1 23), .long a0] τ (po_X2_askNamed_qw τ    ns wd0) := by
  unfold Ci
  refine C_of (own := RX2) (by decide) rfl (Nat.le_of_ble_eq_true rfl) ?_
  intro p e s m below meth c ls S hr hlk X hl
  have hl : lv_has ls 4 [(0, .ref (G.2.2.2.1 23)), (1, .long a0)] := hl
  refine r_iconst S dX2_askNamed_0 (by decide) (fun v1 z2 => ?_)
  have r3 := R_eq z2
  refine r_istore_n (lv' := [(3, .int v1), (0, .ref (G.2.2.2.1 23)), (1, .long a0)]) S dX2_askNamed_1 rfl hl (by decide) rfl (fun ls hl => ?_)
  have L151 : ∀ (n : Nat) (H : Heap) (lc : List Loc) (ls : Array Slot) (i148 : Int32), Xd G s H lc τ → R (0) (9) i148 → (∀ k, k < (i148).toInt.toNat → ns.getD k [] ≠ wd0) → lv_has ls 4 [(0, .ref (G.2.2.2.1 23)), (1, .long a0), (3, .int i148)] → (9 - i148.toInt).toNat < n → W p l e (Rm 0 0) s m ([.ref (G.2.2.2.1 23), .long a0] : List Value).toArray below meth c H lc 0 0 (MQ below (va_Qi (po_X2_askNamed_qw τ    ns wd0) (Bs G) G.2.2.2.2) ([.ref (G.2.2.2.1 23), .long a0] : List Value).toArray s 0 0 G.2.2.2.2) (F0 m 2 ls []) := by
    intro n
    induction n with
    | zero => intros; omega
    | succ n ih153 =>
      intro H lc ls i148 X150 r149 x152 hl hm
      refine r_iload_n S dX2_askNamed_2 rfl (lv_at hl 2 rfl) ?_
      refine r_aload_n S dX2_askNamed_3 rfl (lv_at hl 0 rfl) ?_
      refine r_getn (K := 4) S X150 (Nat.le_of_ble_eq_true rfl) rfl lk2_41_2 (fun _ => ⟨_, rfl, rfl⟩) dX2_askNamed_4 (fun v154 z155 => ?_)
      have r156 : R (0) (9) v154 := rd hI rfl z155
      have e157 := congrArg Int32.toInt z155
      have e158 := hN.1
      refine r_icmp_ge (tgt := 29) S dX2_askNamed_7 (by decide) (fun c159 => ?_) (fun c159 => ?_)
      ·
        refine r_iconst S dX2_askNamed_29 (by decide) (fun v160 z161 => ?_)
        have r162 := R_eq z161
        exact r_ret S hr hlk X150 ⟨rfl, (R_of r162 rfl), (by rw [fnd_no (fun j hj => x152 j (by omega))]; omega)⟩ rfl dX2_askNamed_30
      ·
        have r163 : R (0) (8) i148 := ⟨by omega, by omega⟩
        have r164 : R (1) (9) v154 := ⟨by omega, by omega⟩
        refine r_aload_n S dX2_askNamed_10 rfl (lv_at hl 0 rfl) ?_
        refine r_get (K := 4) (v := .ref (G.2.2.2.1 28)) S X150 (Nat.le_of_ble_eq_true rfl) rfl lk2_24_2 (fun _ => ⟨_, rfl, rfl⟩) dX2_askNamed_11 ?_
        refine r_iload_n S dX2_askNamed_14 rfl (lv_at hl 2 rfl) ?_
        refine r_lald (n := 9) (K := 9) S X150 (Nat.le_of_ble_eq_true rfl) rfl (fun _ => rfl) (ix_of r163 rfl) dX2_askNamed_15 (fun j165 z166 => ?_)
        refine lv_lload_n S.1.1 S.1.2.1 dX2_askNamed_16 rfl (lv_at hl 1 rfl) ?_
        refine r_lcmp S dX2_askNamed_17 (fun v167 r168 e169 => ?_)
        refine r_if_ne (tgt := 23) S dX2_askNamed_18 (by decide) (fun c170 => ?_) (fun c170 => ?_)
        ·
          refine r_iinc (k := 2) S dX2_askNamed_23 hl rfl (by decide) (by decide) (fun v171 d172 ls z173 z174 hl => ?_)
          obtain ⟨e175, r176⟩ := i_add (lo := 1) (hi := 9) z173 r163 (R_eq z174) rfl
          have hl : lv_has ls 4 [(3, .int v171), (0, .ref (G.2.2.2.1 23)), (1, .long a0)] := hl
          refine r_goto (tgt := 2) S dX2_askNamed_26 (by decide) ?_
          exact ih153 _ _ _ v171 X150 (R_of r176 rfl) (up_ne (i := i148) x152 (fun h => absurd (e169.mpr ((NM_at (i := i148.toInt.toNat) hN (by omega) z166 hy hw).mpr h)) (by omega)) (by omega) (by omega)) (lv_sub hl [1, 2, 0] rfl) (by omega)
        ·
          have r177 : R (0) (0) v167 := ⟨by omega, by omega⟩
          refine r_iload_n S dX2_askNamed_21 rfl (lv_at hl 2 rfl) ?_
          exact r_ret S hr hlk X150 ⟨rfl, (R_of r163 rfl), (by rw [fnd_at (i := i148.toInt.toNat) (by omega) ((NM_at (i := i148.toInt.toNat) hN (by omega) z166 hy hw).mp (e169.mp (by omega))) x152]; omega)⟩ rfl dX2_askNamed_22
  exact L151 _ _ _ _ v1 X (R_of r3 rfl) (fun k h => by exfalso; omega) (lv_sub hl [1, 2, 0] rfl) (Nat.lt_succ_self _)
def po_X2_manNamed_qw (τ : Tau)    (ns : List (List Int)) (wd0 : List Int) (r : Int32) (u : Tau) : Prop := u = τ ∧ R (-1) (9) r ∧ r.toInt = fnd ns wd0
set_option maxHeartbeats 4000000 in
set_option maxRecDepth 100000 in
theorem c_X2_manNamed_qw (l : Launch) (G : Gx) (τ : Tau) (hI : Inv τ) (a0 : Int64) (ns : List (List Int)) (wd0 : List Int) (hN : NM τ 23 3 29 ns) (hy : a0.toInt = e27 wd0) (hw : lowL wd0) : Ci l G yX2_manNamed cX2_manNamed 4 (some .int) 0 0 [.ref (G.2.2.2.1 23), .long a0] τ (po_X2_manNamed_qw τ    ns wd0) := by
  unfold Ci
  refine C_of (own := RX2) (by decide) rfl (Nat.le_of_ble_eq_true rfl) ?_
  intro p e s m below meth c ls S hr hlk X hl
  have hl : lv_has ls 4 [(0, .ref (G.2.2.2.1 23)), (1, .long a0)] := hl
  refine r_iconst S dX2_manNamed_0 (by decide) (fun v1 z2 => ?_)
  have r3 := R_eq z2
  refine r_istore_n (lv' := [(3, .int v1), (0, .ref (G.2.2.2.1 23)), (1, .long a0)]) S dX2_manNamed_1 rfl hl (by decide) rfl (fun ls hl => ?_)
  have L175 : ∀ (n : Nat) (H : Heap) (lc : List Loc) (ls : Array Slot) (i172 : Int32), Xd G s H lc τ → R (0) (10) i172 → (∀ k, k < (i172).toInt.toNat → ns.getD k [] ≠ wd0) → lv_has ls 4 [(0, .ref (G.2.2.2.1 23)), (1, .long a0), (3, .int i172)] → (10 - i172.toInt).toNat < n → W p l e (Rm 0 0) s m ([.ref (G.2.2.2.1 23), .long a0] : List Value).toArray below meth c H lc 0 0 (MQ below (va_Qi (po_X2_manNamed_qw τ    ns wd0) (Bs G) G.2.2.2.2) ([.ref (G.2.2.2.1 23), .long a0] : List Value).toArray s 0 0 G.2.2.2.2) (F0 m 2 ls []) := by
    intro n
    induction n with
    | zero => intros; omega
    | succ n ih177 =>
      intro H lc ls i172 X174 r173 x176 hl hm
      refine r_iload_n S dX2_manNamed_2 rfl (lv_at hl 2 rfl) ?_
      refine r_aload_n S dX2_manNamed_3 rfl (lv_at hl 0 rfl) ?_
      refine r_getn (K := 4) S X174 (Nat.le_of_ble_eq_true rfl) rfl lk2_44_2 (fun _ => ⟨_, rfl, rfl⟩) dX2_manNamed_4 (fun v178 z179 => ?_)
      have r180 : R (0) (10) v178 := rd hI rfl z179
      have e181 := congrArg Int32.toInt z179
      have e182 := hN.1
      refine r_icmp_ge (tgt := 29) S dX2_manNamed_7 (by decide) (fun c183 => ?_) (fun c183 => ?_)
      ·
        refine r_iconst S dX2_manNamed_29 (by decide) (fun v184 z185 => ?_)
        have r186 := R_eq z185
        exact r_ret S hr hlk X174 ⟨rfl, (R_of r186 rfl), (by rw [fnd_no (fun j hj => x176 j (by omega))]; omega)⟩ rfl dX2_manNamed_30
      ·
        have r187 : R (0) (9) i172 := ⟨by omega, by omega⟩
        have r188 : R (1) (10) v178 := ⟨by omega, by omega⟩
        refine r_aload_n S dX2_manNamed_10 rfl (lv_at hl 0 rfl) ?_
        refine r_get (K := 4) (v := .ref (G.2.2.2.1 29)) S X174 (Nat.le_of_ble_eq_true rfl) rfl lk2_28_2 (fun _ => ⟨_, rfl, rfl⟩) dX2_manNamed_11 ?_
        refine r_iload_n S dX2_manNamed_14 rfl (lv_at hl 2 rfl) ?_
        refine r_lald (n := 10) (K := 10) S X174 (Nat.le_of_ble_eq_true rfl) rfl (fun _ => rfl) (ix_of r187 rfl) dX2_manNamed_15 (fun j189 z190 => ?_)
        refine lv_lload_n S.1.1 S.1.2.1 dX2_manNamed_16 rfl (lv_at hl 1 rfl) ?_
        refine r_lcmp S dX2_manNamed_17 (fun v191 r192 e193 => ?_)
        refine r_if_ne (tgt := 23) S dX2_manNamed_18 (by decide) (fun c194 => ?_) (fun c194 => ?_)
        ·
          refine r_iinc (k := 2) S dX2_manNamed_23 hl rfl (by decide) (by decide) (fun v195 d196 ls z197 z198 hl => ?_)
          obtain ⟨e199, r200⟩ := i_add (lo := 1) (hi := 10) z197 r187 (R_eq z198) rfl
          have hl : lv_has ls 4 [(3, .int v195), (0, .ref (G.2.2.2.1 23)), (1, .long a0)] := hl
          refine r_goto (tgt := 2) S dX2_manNamed_26 (by decide) ?_
          exact ih177 _ _ _ v195 X174 (R_of r200 rfl) (up_ne (i := i172) x176 (fun h => absurd (e193.mpr ((NM_at (i := i172.toInt.toNat) hN (by omega) z190 hy hw).mpr h)) (by omega)) (by omega) (by omega)) (lv_sub hl [1, 2, 0] rfl) (by omega)
        ·
          have r201 : R (0) (0) v191 := ⟨by omega, by omega⟩
          refine r_iload_n S dX2_manNamed_21 rfl (lv_at hl 2 rfl) ?_
          exact r_ret S hr hlk X174 ⟨rfl, (R_of r187 rfl), (by rw [fnd_at (i := i172.toInt.toNat) (by omega) ((NM_at (i := i172.toInt.toNat) hN (by omega) z190 hy hw).mp (e193.mp (by omega))) x176]; omega)⟩ rfl dX2_manNamed_22
  exact L175 _ _ _ _ v1 X (R_of r3 rfl) (fun k h => by exfalso; omega) (lv_sub hl [1, 2, 0] rfl) (Nat.lt_succ_self _)
def po_X8_fail_t16 (τ : Tau)  (a0 : Int32)   (r : Int32) (u : Tau) : Prop := Inv u ∧ Fr [(16, 1)] [] τ u ∧ R (0) (0) r ∧ u 16 1 = a0
set_option maxHeartbeats 4000000 in
set_option maxRecDepth 100000 in
theorem c_X8_fail_t16 (l : Launch) (G : Gx) (τ : Tau) (hI : Inv τ) (a0 : Int32) (h_a0 : R (-2147483648) (2147483647) a0) : Ci l G yX8_fail cX8_fail 2 (some .boolean) 0 0 [.ref (G.2.2.2.1 16), .int a0] τ (po_X8_fail_t16 τ  a0  ) := by
  unfold Ci
  refine C_of (own := RX8) (by decide) rfl (Nat.le_of_ble_eq_true rfl) ?_
  intro p e s m below meth c ls S hr hlk X hl
  have hl : lv_has ls 2 [(0, .ref (G.2.2.2.1 16)), (1, .int a0)] := hl
  refine r_aload_n S dX8_fail_0 rfl (lv_at hl 0 rfl) ?_
  refine r_iload_n S dX8_fail_1 rfl (lv_at hl 1 rfl) ?_
  refine r_put (K := 16) (ty := .int) S X (Nat.le_of_ble_eq_true rfl) rfl lk8_15_6 (fun _ => ⟨_, rfl, Nat.le_of_ble_eq_true rfl, rfl⟩) (fun _ _ _ h => by cases h; exact ⟨rfl, rfl⟩) rfl rfl dX8_fail_2 (fun t1 H lc M2 X3 => ?_)
  have I4 := Inv_mu hI M2 (R_any a0)
  have F5 : Fr [(16, 1)] [] τ t1 := Fr_mu Fr_rfl M2 (by decide)
  refine r_iconst S dX8_fail_5 (by decide) (fun v6 z7 => ?_)
  have r8 := R_eq z7
  exact r_ret S hr hlk X3 ⟨I4, F5, r8, M2.1⟩ (nr_bool (R_of (lo := 0) (hi := 1) r8 rfl)) dX8_fail_6
def po_X8_takeSign_t16 (τ : Tau)  (a0 : Int32)  (bb : Nat → Int) (nb : Nat) (an mn : List (List Int)) (t : Tk) (r : Int32) (u : Tau) : Prop := Inv u ∧ Fr [(16, 1), (1, 3), (1, 4), (1, 5), (1, 7), (1, 8)] [201] τ u ∧ R (0) (1) r ∧ (r.toInt = 1 → R (0) (0) (u 16 1)) ∧ QY 16 (tSgn bb nb 200 41 t) r u (fun g => RG bb nb 200 an mn u g)
set_option maxHeartbeats 4000000 in
set_option maxRecDepth 100000 in
theorem c_X8_takeSign_t16 (l : Launch) (G : Gx) (τ : Tau) (hI : Inv τ) (a0 : Int32) (h_a0 : R (41) (41) a0) (hf_0 : R (0) (0) (τ 16 1)) (bb : Nat → Int) (nb : Nat) (an mn : List (List Int)) (t : Tk) (hR : RG bb nb 200 an mn τ t) : Ci l G yX8_takeSign cX8_takeSign 2 (some .boolean) 1 24 [.ref (G.2.2.2.1 16), .int a0] τ (po_X8_takeSign_t16 τ  a0  bb nb an mn t) := by
  unfold Ci
  refine C_of (own := RX8) (by decide) rfl (Nat.le_of_ble_eq_true rfl) ?_
  intro p e s m below meth c ls S hr hlk X hl
  have hl : lv_has ls 2 [(0, .ref (G.2.2.2.1 16)), (1, .int a0)] := hl
  obtain ⟨v1, z2⟩ : ∃ x, τ 16 1 = x := ⟨_, rfl⟩
  rw [z2] at hf_0
  refine r_aload_n S dX8_takeSign_0 rfl (lv_at hl 0 rfl) ?_
  refine r_get (K := 16) (v := .ref (G.2.2.2.1 1)) S X (Nat.le_of_ble_eq_true rfl) rfl lk8_9_6 (fun _ => ⟨_, rfl, rfl⟩) dX8_takeSign_1 ?_
  refine r_iload_n S dX8_takeSign_4 rfl (lv_at hl 1 rfl) ?_
  refine r_ki (q_V (As := [.int a0]) (rest := []) (K := 1) (ci := 7) S X (c_X7_isSigned_q l G τ hI a0 (R_of (lo := 0) (hi := 65535) h_a0 rfl) bb nb 200 t hR.1) ck8_25 (Nat.le_of_ble_eq_true rfl) rfl (fun _ => ⟨_, rfl⟩) ⟨_, _, rfl⟩ ⟨Nat.le_of_ble_eq_true rfl, Nat.le_of_ble_eq_true rfl⟩ rfl hl.1 rfl (Nat.le_of_ble_eq_true rfl) dX8_takeSign_5 ⟨Nat.le_refl 0, Nat.le_refl 0⟩) X (fun v6 t5 H lc q3 X4 => ?_)
  unfold po_X7_isSigned_q at q3
  obtain ⟨q7, q8, q9⟩ := q3
  rw [q7] at X4
  refine r_if_ne (tgt := 17) S dX8_takeSign_8 (by decide) (fun c10 => ?_) (fun c10 => ?_)
  ·
    have r11 : R (1) (1) v6 := ⟨by omega, by omega⟩
    have p12 := (q9).mp (by omega)
    refine r_aload_n S dX8_takeSign_17 rfl (lv_at hl 0 rfl) ?_
    refine r_get (K := 16) (v := .ref (G.2.2.2.1 1)) S X4 (Nat.le_of_ble_eq_true rfl) rfl lk8_9_6 (fun _ => ⟨_, rfl, rfl⟩) dX8_takeSign_18 ?_
    refine r_kv (q_V (As := []) (rest := []) (K := 1) (ci := 7) S X4 (c_X7_step_q l G τ hI bb nb 200 t.2.2 (RT_st hR.1 (Or.inr (Or.inr p12.1))).1 (RT_st hR.1 (Or.inr (Or.inr p12.1))).2.1 (RT_st hR.1 (Or.inr (Or.inr p12.1))).2.2) ck8_33 (Nat.le_of_ble_eq_true rfl) rfl (fun _ => ⟨_, rfl⟩) ⟨_, _, rfl⟩ ⟨Nat.le_of_ble_eq_true rfl, Nat.le_of_ble_eq_true rfl⟩ rfl hl.1 rfl (Nat.le_of_ble_eq_true rfl) dX8_takeSign_21 ⟨Nat.le_refl 0, Nat.le_refl 0⟩) X4 (fun t15 H lc q13 X14 => ?_)
    unfold po_X7_step_q at q13
    obtain ⟨q16, q17, q18⟩ := q13
    have F19 : Fr [(16, 1), (1, 3), (1, 4), (1, 5), (1, 7), (1, 8)] [201] τ t15 := Fr_call Fr_rfl q17 (by decide)
    have hR20 : RG bb nb 200 an mn t15 (nx bb nb 200 t) := ⟨q18, NM2_fr hR.2 ((q17 23 2 (by decide)).trans rfl) ((q17 23 3 (by decide)).trans rfl) (fun j => ((q17 228 j (by simp [fz])).trans rfl)) (fun j => ((q17 229 j (by simp [fz])).trans rfl))⟩
    refine r_iconst S dX8_takeSign_24 (by decide) (fun v21 z22 => ?_)
    have r23 := R_eq z22
    exact r_ret S hr hlk X14 ⟨q16, F19, (R_of r23 rfl), (fun h => (by rw [((q17 16 1 (by decide)).trans z2)]; exact R_of hf_0 rfl)), (QY_r (tSgn_g ⟨p12.1, by have q := p12.2; omega⟩) (by omega) hR20)⟩ (nr_bool (R_of (lo := 0) (hi := 1) r23 rfl)) dX8_takeSign_25
  ·
    have r24 : R (0) (0) v6 := ⟨by omega, by omega⟩
    have p25 := (iff_n q9) (by omega)
    refine r_aload_n S dX8_takeSign_11 rfl (lv_at hl 0 rfl) ?_
    refine r_iconst S dX8_takeSign_12 (by decide) (fun v26 z27 => ?_)
    have r28 := R_eq z27
    refine r_ki (q_U (As := [.int v26]) (rest := []) (K := 16) (ci := 6) S X4 (c_X8_fail_t16 l G τ hI v26 (R_of (lo := -2147483648) (hi := 2147483647) r28 rfl)) ck8_29_6 (Nat.le_of_ble_eq_true rfl) rfl (fun _ => ⟨_, rfl⟩) ⟨_, _, rfl⟩ ⟨Nat.le_of_ble_eq_true rfl, Nat.le_of_ble_eq_true rfl⟩ rfl hl.1 rfl (Nat.le_of_ble_eq_true rfl) dX8_takeSign_13 ⟨Nat.le_refl 0, Nat.le_refl 0⟩) X4 (fun v32 t31 H lc q29 X30 => ?_)
    unfold po_X8_fail_t16 at q29
    obtain ⟨q33, q34, q35, q36⟩ := q29
    have F37 : Fr [(16, 1), (1, 3), (1, 4), (1, 5), (1, 7), (1, 8)] [201] τ t31 := Fr_call Fr_rfl q34 (by decide)
    exact r_ret S hr hlk X30 ⟨q33, F37, (R_of q35 rfl), (fun h => by exfalso; omega), (QY_b (tSgn_b (fun h => p25 ⟨h.1, by have q := h.2; omega⟩)) (by omega) (by rw [q36]; omega) (RG_at (RG_fr hR (fun j => ((q34 1 j (by simp [fz])).trans rfl)) (fun j => ((q34 2 j (by simp [fz])).trans rfl)) (fun j => ((q34 201 j (by simp [fz])).trans rfl)) ((q34 23 2 (by decide)).trans rfl) ((q34 23 3 (by decide)).trans rfl) (fun j => ((q34 228 j (by simp [fz])).trans rfl)) (fun j => ((q34 229 j (by simp [fz])).trans rfl)))))⟩ (nr_bool (R_of (lo := 0) (hi := 1) q35 rfl)) dX8_takeSign_16
def po_X8_takeNumber_t16 (τ : Tau)  (a0 a1 : Int32)  (bb : Nat → Int) (nb : Nat) (an mn : List (List Int)) (t : Tk) (r : Int32) (u : Tau) : Prop := Inv u ∧ Fr [(16, 1), (16, 2), (1, 3), (1, 4), (1, 5), (1, 7), (1, 8)] [201] τ u ∧ R (0) (1) r ∧ (r.toInt = 1 → R (0) (99) (u 16 2) ∧ R (0) (0) (u 16 1)) ∧ QY 16 (tNum bb nb 200 0 99 t) r u (fun g => (u 16 2).toInt = g.1 ∧ RG bb nb 200 an mn u g.2)
set_option maxHeartbeats 4000000 in
set_option maxRecDepth 100000 in
theorem c_X8_takeNumber_t16 (l : Launch) (G : Gx) (τ : Tau) (hI : Inv τ) (a0 : Int32) (a1 : Int32) (h_a0 : R (0) (0) a0) (h_a1 : R (99) (99) a1) (hf_0 : R (0) (0) (τ 16 1)) (bb : Nat → Int) (nb : Nat) (an mn : List (List Int)) (t : Tk) (hR : RG bb nb 200 an mn τ t) : Ci l G yX8_takeNumber cX8_takeNumber 3 (some .boolean) 1 24 [.ref (G.2.2.2.1 16), .int a0, .int a1] τ (po_X8_takeNumber_t16 τ  a0 a1  bb nb an mn t) := by
  unfold Ci
  refine C_of (own := RX8) (by decide) rfl (Nat.le_of_ble_eq_true rfl) ?_
  intro p e s m below meth c ls S hr hlk X hl
  have hl : lv_has ls 3 [(0, .ref (G.2.2.2.1 16)), (1, .int a0), (2, .int a1)] := hl
  obtain ⟨v1, z2⟩ : ∃ x, τ 16 1 = x := ⟨_, rfl⟩
  rw [z2] at hf_0
  refine r_aload_n S dX8_takeNumber_0 rfl (lv_at hl 0 rfl) ?_
  refine r_get (K := 16) (v := .ref (G.2.2.2.1 1)) S X (Nat.le_of_ble_eq_true rfl) rfl lk8_9_6 (fun _ => ⟨_, rfl, rfl⟩) dX8_takeNumber_1 ?_
  refine r_getn (K := 1) S X (Nat.le_of_ble_eq_true rfl) rfl lk8_36_7 (fun _ => ⟨_, rfl, rfl⟩) dX8_takeNumber_4 (fun v3 z4 => ?_)
  have r5 : R (0) (4) v3 := rd hI rfl z4
  refine r_iconst S dX8_takeNumber_7 (by decide) (fun v6 z7 => ?_)
  have r8 := R_eq z7
  refine r_icmp_eq (tgt := 17) S dX8_takeNumber_8 (by decide) (fun c9 => ?_) (fun c9 => ?_)
  ·
    have r10 : R (3) (3) v3 := ⟨by omega, by omega⟩
    refine r_aload_n S dX8_takeNumber_17 rfl (lv_at hl 0 rfl) ?_
    refine r_get (K := 16) (v := .ref (G.2.2.2.1 1)) S X (Nat.le_of_ble_eq_true rfl) rfl lk8_9_6 (fun _ => ⟨_, rfl, rfl⟩) dX8_takeNumber_18 ?_
    refine r_getn (K := 1) S X (Nat.le_of_ble_eq_true rfl) rfl lk8_39_7 (fun _ => ⟨_, rfl, rfl⟩) dX8_takeNumber_21 (fun v11 z12 => ?_)
    have r14 := R_any v11
    refine r_iload_n S dX8_takeNumber_24 rfl (lv_at hl 1 rfl) ?_
    refine r_icmp_lt (tgt := 39) S dX8_takeNumber_25 (by decide) (fun c15 => ?_) (fun c15 => ?_)
    ·
      have r16 : R (-2147483648) (-1) v11 := ⟨by omega, by omega⟩
      refine r_aload_n S dX8_takeNumber_39 rfl (lv_at hl 0 rfl) ?_
      refine r_iconst S dX8_takeNumber_40 (by decide) (fun v17 z18 => ?_)
      have r19 := R_eq z18
      refine r_ki (q_U (As := [.int v17]) (rest := []) (K := 16) (ci := 6) S X (c_X8_fail_t16 l G τ hI v17 (R_of (lo := -2147483648) (hi := 2147483647) r19 rfl)) ck8_29_6 (Nat.le_of_ble_eq_true rfl) rfl (fun _ => ⟨_, rfl⟩) ⟨_, _, rfl⟩ ⟨Nat.le_of_ble_eq_true rfl, Nat.le_of_ble_eq_true rfl⟩ rfl hl.1 rfl (Nat.le_of_ble_eq_true rfl) dX8_takeNumber_41 ⟨Nat.le_refl 0, Nat.le_refl 0⟩) X (fun v23 t22 H lc q20 X21 => ?_)
      unfold po_X8_fail_t16 at q20
      obtain ⟨q24, q25, q26, q27⟩ := q20
      have F28 : Fr [(16, 1), (16, 2), (1, 3), (1, 4), (1, 5), (1, 7), (1, 8)] [201] τ t22 := Fr_call Fr_rfl q25 (by decide)
      exact r_ret S hr hlk X21 ⟨q24, F28, (R_of q26 rfl), (fun h => by exfalso; omega), (QY_b (tNum_b2 ((RT_k hR.1).2.2.1.mp (by rw [z4]; omega)) (by rw [← RT_nm hR.1 ((RT_k hR.1).2.2.1.mp (by rw [z4]; omega)), z12]; omega)) (by omega) (by rw [q27]; omega) (RG_at (RG_fr hR (fun j => ((q25 1 j (by simp [fz])).trans rfl)) (fun j => ((q25 2 j (by simp [fz])).trans rfl)) (fun j => ((q25 201 j (by simp [fz])).trans rfl)) ((q25 23 2 (by decide)).trans rfl) ((q25 23 3 (by decide)).trans rfl) (fun j => ((q25 228 j (by simp [fz])).trans rfl)) (fun j => ((q25 229 j (by simp [fz])).trans rfl)))))⟩ (nr_bool (R_of (lo := 0) (hi := 1) q26 rfl)) dX8_takeNumber_44
    ·
      have r29 : R (0) (2147483647) v11 := ⟨by omega, by omega⟩
      refine r_aload_n S dX8_takeNumber_28 rfl (lv_at hl 0 rfl) ?_
      refine r_get (K := 16) (v := .ref (G.2.2.2.1 1)) S X (Nat.le_of_ble_eq_true rfl) rfl lk8_9_6 (fun _ => ⟨_, rfl, rfl⟩) dX8_takeNumber_29 ?_
      refine r_geti (K := 1) S X (Nat.le_of_ble_eq_true rfl) rfl lk8_39_7 (fun _ => ⟨_, rfl, rfl⟩) z12 dX8_takeNumber_32 ?_
      refine r_iload_n S dX8_takeNumber_35 rfl (lv_at hl 2 rfl) ?_
      refine r_icmp_le (tgt := 45) S dX8_takeNumber_36 (by decide) (fun c30 => ?_) (fun c30 => ?_)
      ·
        have r31 : R (0) (99) v11 := ⟨by omega, by omega⟩
        refine r_aload_n S dX8_takeNumber_45 rfl (lv_at hl 0 rfl) ?_
        refine r_aload_n S dX8_takeNumber_46 rfl (lv_at hl 0 rfl) ?_
        refine r_get (K := 16) (v := .ref (G.2.2.2.1 1)) S X (Nat.le_of_ble_eq_true rfl) rfl lk8_9_6 (fun _ => ⟨_, rfl, rfl⟩) dX8_takeNumber_47 ?_
        refine r_geti (K := 1) S X (Nat.le_of_ble_eq_true rfl) rfl lk8_39_7 (fun _ => ⟨_, rfl, rfl⟩) z12 dX8_takeNumber_50 ?_
        refine r_put (K := 16) (ty := .int) S X (Nat.le_of_ble_eq_true rfl) rfl lk8_42_6 (fun _ => ⟨_, rfl, Nat.le_of_ble_eq_true rfl, rfl⟩) (fun _ _ _ h => by cases h; exact ⟨rfl, rfl⟩) rfl rfl dX8_takeNumber_53 (fun t32 H lc M33 X34 => ?_)
        have I35 := Inv_mu hI M33 (R_any v11)
        have F36 : Fr [(16, 1), (16, 2), (1, 3), (1, 4), (1, 5), (1, 7), (1, 8)] [201] τ t32 := Fr_mu Fr_rfl M33 (by decide)
        refine r_aload_n S dX8_takeNumber_56 rfl (lv_at hl 0 rfl) ?_
        refine r_get (K := 16) (v := .ref (G.2.2.2.1 1)) S X34 (Nat.le_of_ble_eq_true rfl) rfl lk8_9_6 (fun _ => ⟨_, rfl, rfl⟩) dX8_takeNumber_57 ?_
        refine r_kv (q_V (As := []) (rest := []) (K := 1) (ci := 7) S X34 (c_X7_step_q l G t32 I35 bb nb 200 t.2.2 (RT_st (RG_fr hR (fun j => ((M33.2 1 j (Or.inl (by decide))).trans rfl)) (fun j => ((M33.2 2 j (Or.inl (by decide))).trans rfl)) (fun j => ((M33.2 201 j (Or.inl (by decide))).trans rfl)) ((M33.2 23 2 (Or.inl (by decide))).trans rfl) ((M33.2 23 3 (Or.inl (by decide))).trans rfl) (fun j => ((M33.2 228 j (Or.inl (by decide))).trans rfl)) (fun j => ((M33.2 229 j (Or.inl (by decide))).trans rfl))).1 (Or.inr (Or.inl ((RT_k hR.1).2.2.1.mp (by rw [z4]; omega))))).1 (RT_st (RG_fr hR (fun j => ((M33.2 1 j (Or.inl (by decide))).trans rfl)) (fun j => ((M33.2 2 j (Or.inl (by decide))).trans rfl)) (fun j => ((M33.2 201 j (Or.inl (by decide))).trans rfl)) ((M33.2 23 2 (Or.inl (by decide))).trans rfl) ((M33.2 23 3 (Or.inl (by decide))).trans rfl) (fun j => ((M33.2 228 j (Or.inl (by decide))).trans rfl)) (fun j => ((M33.2 229 j (Or.inl (by decide))).trans rfl))).1 (Or.inr (Or.inl ((RT_k hR.1).2.2.1.mp (by rw [z4]; omega))))).2.1 (RT_st (RG_fr hR (fun j => ((M33.2 1 j (Or.inl (by decide))).trans rfl)) (fun j => ((M33.2 2 j (Or.inl (by decide))).trans rfl)) (fun j => ((M33.2 201 j (Or.inl (by decide))).trans rfl)) ((M33.2 23 2 (Or.inl (by decide))).trans rfl) ((M33.2 23 3 (Or.inl (by decide))).trans rfl) (fun j => ((M33.2 228 j (Or.inl (by decide))).trans rfl)) (fun j => ((M33.2 229 j (Or.inl (by decide))).trans rfl))).1 (Or.inr (Or.inl ((RT_k hR.1).2.2.1.mp (by rw [z4]; omega))))).2.2) ck8_33 (Nat.le_of_ble_eq_true rfl) rfl (fun _ => ⟨_, rfl⟩) ⟨_, _, rfl⟩ ⟨Nat.le_of_ble_eq_true rfl, Nat.le_of_ble_eq_true rfl⟩ rfl hl.1 rfl (Nat.le_of_ble_eq_true rfl) dX8_takeNumber_60 ⟨Nat.le_refl 0, Nat.le_refl 0⟩) X34 (fun t39 H lc q37 X38 => ?_)
        unfold po_X7_step_q at q37
        obtain ⟨q40, q41, q42⟩ := q37
        have F43 : Fr [(16, 1), (16, 2), (1, 3), (1, 4), (1, 5), (1, 7), (1, 8)] [201] τ t39 := Fr_call F36 q41 (by decide)
        have hR44 : RG bb nb 200 an mn t39 (nx bb nb 200 t) := ⟨q42, NM2_fr hR.2 ((q41 23 2 (by decide)).trans ((M33.2 23 2 (Or.inl (by decide))).trans rfl)) ((q41 23 3 (by decide)).trans ((M33.2 23 3 (Or.inl (by decide))).trans rfl)) (fun j => ((q41 228 j (by simp [fz])).trans ((M33.2 228 j (Or.inl (by decide))).trans rfl))) (fun j => ((q41 229 j (by simp [fz])).trans ((M33.2 229 j (Or.inl (by decide))).trans rfl)))⟩
        refine r_iconst S dX8_takeNumber_63 (by decide) (fun v45 z46 => ?_)
        have r47 := R_eq z46
        exact r_ret S hr hlk X38 ⟨q40, F43, (R_of r47 rfl), (fun h => ⟨(by rw [((q41 16 2 (by decide)).trans M33.1)]; exact R_of r31 rfl), (by rw [((q41 16 1 (by decide)).trans ((M33.2 16 1 (Or.inr (by decide))).trans z2))]; exact R_of hf_0 rfl)⟩), (QY_r (tNum_g ((RT_k hR.1).2.2.1.mp (by rw [z4]; omega)) (by rw [← RT_nm hR.1 ((RT_k hR.1).2.2.1.mp (by rw [z4]; omega)), z12]; omega)) (by omega) ⟨show (t39 16 2).toInt = nbr bb t by rw [((q41 16 2 (by decide)).trans M33.1), ← RT_nm hR.1 ((RT_k hR.1).2.2.1.mp (by rw [z4]; omega)), z12], hR44⟩)⟩ (nr_bool (R_of (lo := 0) (hi := 1) r47 rfl)) dX8_takeNumber_64
      ·
        have r48 : R (100) (2147483647) v11 := ⟨by omega, by omega⟩
        refine r_aload_n S dX8_takeNumber_39 rfl (lv_at hl 0 rfl) ?_
        refine r_iconst S dX8_takeNumber_40 (by decide) (fun v49 z50 => ?_)
        have r51 := R_eq z50
        refine r_ki (q_U (As := [.int v49]) (rest := []) (K := 16) (ci := 6) S X (c_X8_fail_t16 l G τ hI v49 (R_of (lo := -2147483648) (hi := 2147483647) r51 rfl)) ck8_29_6 (Nat.le_of_ble_eq_true rfl) rfl (fun _ => ⟨_, rfl⟩) ⟨_, _, rfl⟩ ⟨Nat.le_of_ble_eq_true rfl, Nat.le_of_ble_eq_true rfl⟩ rfl hl.1 rfl (Nat.le_of_ble_eq_true rfl) dX8_takeNumber_41 ⟨Nat.le_refl 0, Nat.le_refl 0⟩) X (fun v55 t54 H lc q52 X53 => ?_)
        unfold po_X8_fail_t16 at q52
        obtain ⟨q56, q57, q58, q59⟩ := q52
        have F60 : Fr [(16, 1), (16, 2), (1, 3), (1, 4), (1, 5), (1, 7), (1, 8)] [201] τ t54 := Fr_call Fr_rfl q57 (by decide)
        exact r_ret S hr hlk X53 ⟨q56, F60, (R_of q58 rfl), (fun h => by exfalso; omega), (QY_b (tNum_b2 ((RT_k hR.1).2.2.1.mp (by rw [z4]; omega)) (by rw [← RT_nm hR.1 ((RT_k hR.1).2.2.1.mp (by rw [z4]; omega)), z12]; omega)) (by omega) (by rw [q59]; omega) (RG_at (RG_fr hR (fun j => ((q57 1 j (by simp [fz])).trans rfl)) (fun j => ((q57 2 j (by simp [fz])).trans rfl)) (fun j => ((q57 201 j (by simp [fz])).trans rfl)) ((q57 23 2 (by decide)).trans rfl) ((q57 23 3 (by decide)).trans rfl) (fun j => ((q57 228 j (by simp [fz])).trans rfl)) (fun j => ((q57 229 j (by simp [fz])).trans rfl)))))⟩ (nr_bool (R_of (lo := 0) (hi := 1) q58 rfl)) dX8_takeNumber_44
  ·
    refine r_aload_n S dX8_takeNumber_11 rfl (lv_at hl 0 rfl) ?_
    refine r_iconst S dX8_takeNumber_12 (by decide) (fun v61 z62 => ?_)
    have r63 := R_eq z62
    refine r_ki (q_U (As := [.int v61]) (rest := []) (K := 16) (ci := 6) S X (c_X8_fail_t16 l G τ hI v61 (R_of (lo := -2147483648) (hi := 2147483647) r63 rfl)) ck8_29_6 (Nat.le_of_ble_eq_true rfl) rfl (fun _ => ⟨_, rfl⟩) ⟨_, _, rfl⟩ ⟨Nat.le_of_ble_eq_true rfl, Nat.le_of_ble_eq_true rfl⟩ rfl hl.1 rfl (Nat.le_of_ble_eq_true rfl) dX8_takeNumber_13 ⟨Nat.le_refl 0, Nat.le_refl 0⟩) X (fun v67 t66 H lc q64 X65 => ?_)
    unfold po_X8_fail_t16 at q64
    obtain ⟨q68, q69, q70, q71⟩ := q64
    have F72 : Fr [(16, 1), (16, 2), (1, 3), (1, 4), (1, 5), (1, 7), (1, 8)] [201] τ t66 := Fr_call Fr_rfl q69 (by decide)
    exact r_ret S hr hlk X65 ⟨q68, F72, (R_of q70 rfl), (fun h => by exfalso; omega), (QY_b (tNum_b1 (fun h => absurd ((RT_k hR.1).2.2.1.mpr h) (by rw [z4]; omega))) (by omega) (by rw [q71]; omega) (RG_at (RG_fr hR (fun j => ((q69 1 j (by simp [fz])).trans rfl)) (fun j => ((q69 2 j (by simp [fz])).trans rfl)) (fun j => ((q69 201 j (by simp [fz])).trans rfl)) ((q69 23 2 (by decide)).trans rfl) ((q69 23 3 (by decide)).trans rfl) (fun j => ((q69 228 j (by simp [fz])).trans rfl)) (fun j => ((q69 229 j (by simp [fz])).trans rfl)))))⟩ (nr_bool (R_of (lo := 0) (hi := 1) q70 rfl)) dX8_takeNumber_16
def po_X8_seeMan_t16 (τ : Tau)    (bb : Nat → Int) (nb : Nat) (an mn : List (List Int)) (t : Tk) (r : Int32) (u : Tau) : Prop := Inv u ∧ Fr [(16, 1), (16, 2)] [] τ u ∧ R (0) (1) r ∧ (r.toInt = 1 → R (0) (9) (u 16 2) ∧ R (0) (0) (u 16 1)) ∧ QY 16 (sLook bb mn t) r u (fun i => (u 16 2).toInt = i ∧ RG bb nb 200 an mn u t)
set_option maxHeartbeats 4000000 in
set_option maxRecDepth 100000 in
theorem c_X8_seeMan_t16 (l : Launch) (G : Gx) (τ : Tau) (hI : Inv τ) (hf_0 : R (0) (0) (τ 16 1)) (bb : Nat → Int) (nb : Nat) (an mn : List (List Int)) (t : Tk) (hR : RG bb nb 200 an mn τ t) : Ci l G yX8_seeMan cX8_seeMan 2 (some .boolean) 1 23 [.ref (G.2.2.2.1 16), .ref (G.2.2.2.1 23)] τ (po_X8_seeMan_t16 τ    bb nb an mn t) := by
  unfold Ci
  refine C_of (own := RX8) (by decide) rfl (Nat.le_of_ble_eq_true rfl) ?_
  intro p e s m below meth c ls S hr hlk X hl
  have hl : lv_has ls 2 [(0, .ref (G.2.2.2.1 16)), (1, .ref (G.2.2.2.1 23))] := hl
  obtain ⟨v1, z2⟩ : ∃ x, τ 16 1 = x := ⟨_, rfl⟩
  rw [z2] at hf_0
  refine r_aload_n S dX8_seeMan_0 rfl (lv_at hl 0 rfl) ?_
  refine r_get (K := 16) (v := .ref (G.2.2.2.1 1)) S X (Nat.le_of_ble_eq_true rfl) rfl lk8_9_6 (fun _ => ⟨_, rfl, rfl⟩) dX8_seeMan_1 ?_
  refine r_getn (K := 1) S X (Nat.le_of_ble_eq_true rfl) rfl lk8_36_7 (fun _ => ⟨_, rfl, rfl⟩) dX8_seeMan_4 (fun v3 z4 => ?_)
  have r5 : R (0) (4) v3 := rd hI rfl z4
  refine r_iconst S dX8_seeMan_7 (by decide) (fun v6 z7 => ?_)
  have r8 := R_eq z7
  refine r_icmp_ne (tgt := 24) S dX8_seeMan_8 (by decide) (fun c9 => ?_) (fun c9 => ?_)
  ·
    refine r_aload_n S dX8_seeMan_24 rfl (lv_at hl 0 rfl) ?_
    refine r_iconst S dX8_seeMan_25 (by decide) (fun v10 z11 => ?_)
    have r12 := R_eq z11
    refine r_ki (q_U (As := [.int v10]) (rest := []) (K := 16) (ci := 6) S X (c_X8_fail_t16 l G τ hI v10 (R_of (lo := -2147483648) (hi := 2147483647) r12 rfl)) ck8_29_6 (Nat.le_of_ble_eq_true rfl) rfl (fun _ => ⟨_, rfl⟩) ⟨_, _, rfl⟩ ⟨Nat.le_of_ble_eq_true rfl, Nat.le_of_ble_eq_true rfl⟩ rfl hl.1 rfl (Nat.le_of_ble_eq_true rfl) dX8_seeMan_26 ⟨Nat.le_refl 0, Nat.le_refl 0⟩) X (fun v16 t15 H lc q13 X14 => ?_)
    unfold po_X8_fail_t16 at q13
    obtain ⟨q17, q18, q19, q20⟩ := q13
    have F21 : Fr [(16, 1), (16, 2)] [] τ t15 := Fr_call Fr_rfl q18 (by decide)
    exact r_ret S hr hlk X14 ⟨q17, F21, (R_of q19 rfl), (fun h => by exfalso; omega), (QY_b (sLook_b1 (fun h => absurd ((RT_k hR.1).2.1.mpr h.1) (by rw [z4]; omega))) (by omega) (by rw [q20]; omega) (RG_at (RG_fr hR (fun j => ((q18 1 j (by simp [fz])).trans rfl)) (fun j => ((q18 2 j (by simp [fz])).trans rfl)) (fun j => ((q18 201 j (by simp [fz])).trans rfl)) ((q18 23 2 (by decide)).trans rfl) ((q18 23 3 (by decide)).trans rfl) (fun j => ((q18 228 j (by simp [fz])).trans rfl)) (fun j => ((q18 229 j (by simp [fz])).trans rfl)))))⟩ (nr_bool (R_of (lo := 0) (hi := 1) q19 rfl)) dX8_seeMan_29
  ·
    have r22 : R (2) (2) v3 := ⟨by omega, by omega⟩
    refine r_aload_n S dX8_seeMan_11 rfl (lv_at hl 0 rfl) ?_
    refine r_get (K := 16) (v := .ref (G.2.2.2.1 1)) S X (Nat.le_of_ble_eq_true rfl) rfl lk8_9_6 (fun _ => ⟨_, rfl, rfl⟩) dX8_seeMan_12 ?_
    refine r_getJ (K := 1) S X (Nat.le_of_ble_eq_true rfl) rfl lk8_58_7 (fun _ => ⟨_, rfl, rfl⟩) dX8_seeMan_15 (fun j23 z24 => ?_)
    refine r_ki (q_S (As := [.long j23]) (rest := []) S X (c_X9_isKept_q l G τ hI j23 (wrd bb t) (by rw [← z24]; exact (RT_low hR.1 ((RT_k hR.1).2.1.mp (by rw [z4]; omega))).2) (RT_low hR.1 ((RT_k hR.1).2.1.mp (by rw [z4]; omega))).1) ck8_62 ⟨Nat.le_of_ble_eq_true rfl, Nat.le_of_ble_eq_true rfl⟩ rfl hl.1 rfl (Nat.le_of_ble_eq_true rfl) dX8_seeMan_18 ⟨Nat.le_refl 0, Nat.le_refl 0⟩) X (fun v28 t27 H lc q25 X26 => ?_)
    unfold po_X9_isKept_q at q25
    obtain ⟨q29, q30, q31⟩ := q25
    rw [q29] at X26
    refine r_if_eq (tgt := 30) S dX8_seeMan_21 (by decide) (fun c32 => ?_) (fun c32 => ?_)
    ·
      have r33 : R (0) (0) v28 := ⟨by omega, by omega⟩
      have p34 := (iff_n q31) (by omega)
      refine r_aload_n S dX8_seeMan_30 rfl (lv_at hl 0 rfl) ?_
      refine r_aload_n S dX8_seeMan_31 rfl (lv_at hl 1 rfl) ?_
      refine r_aload_n S dX8_seeMan_32 rfl (lv_at hl 0 rfl) ?_
      refine r_get (K := 16) (v := .ref (G.2.2.2.1 1)) S X26 (Nat.le_of_ble_eq_true rfl) rfl lk8_9_6 (fun _ => ⟨_, rfl, rfl⟩) dX8_seeMan_33 ?_
      refine r_getJ (K := 1) S X26 (Nat.le_of_ble_eq_true rfl) rfl lk8_58_7 (fun _ => ⟨_, rfl, rfl⟩) dX8_seeMan_36 (fun j35 z36 => ?_)
      refine r_ki (q_V (As := [.long j35]) (rest := [.ref (G.2.2.2.1 16)]) (K := 4) (ci := 2) S X26 (c_X2_manNamed_qw l G τ hI j35 mn (wrd bb t) hR.2.2 (by rw [← z36]; exact (RT_low hR.1 ((RT_k hR.1).2.1.mp (by rw [z4]; omega))).2) (RT_low hR.1 ((RT_k hR.1).2.1.mp (by rw [z4]; omega))).1) ck8_66 (Nat.le_of_ble_eq_true rfl) rfl (fun _ => ⟨_, rfl⟩) ⟨_, _, rfl⟩ ⟨Nat.le_of_ble_eq_true rfl, Nat.le_of_ble_eq_true rfl⟩ rfl hl.1 rfl (Nat.le_of_ble_eq_true rfl) dX8_seeMan_39 ⟨Nat.le_refl 0, Nat.le_refl 0⟩) X26 (fun v40 t39 H lc q37 X38 => ?_)
      unfold po_X2_manNamed_qw at q37
      obtain ⟨q41, q42, q43⟩ := q37
      rw [q41] at X38
      refine r_put (K := 16) (ty := .int) S X38 (Nat.le_of_ble_eq_true rfl) rfl lk8_42_6 (fun _ => ⟨_, rfl, Nat.le_of_ble_eq_true rfl, rfl⟩) (fun _ _ _ h => by cases h; exact ⟨rfl, rfl⟩) rfl rfl dX8_seeMan_42 (fun t44 H lc M45 X46 => ?_)
      have I47 := Inv_mu hI M45 (R_any v40)
      have F48 : Fr [(16, 1), (16, 2)] [] τ t44 := Fr_mu Fr_rfl M45 (by decide)
      refine r_aload_n S dX8_seeMan_45 rfl (lv_at hl 0 rfl) ?_
      refine r_geti (K := 16) S X46 (Nat.le_of_ble_eq_true rfl) rfl lk8_42_6 (fun _ => ⟨_, rfl, rfl⟩) M45.1 dX8_seeMan_46 ?_
      refine r_iconst S dX8_seeMan_49 (by decide) (fun v49 z50 => ?_)
      have r51 := R_eq z50
      refine r_icmp_ne (tgt := 61) S dX8_seeMan_50 (by decide) (fun c52 => ?_) (fun c52 => ?_)
      ·
        have r53 : R (0) (9) v40 := ⟨by omega, by omega⟩
        refine r_iconst S dX8_seeMan_61 (by decide) (fun v54 z55 => ?_)
        have r56 := R_eq z55
        refine r_goto (tgt := 66) S dX8_seeMan_62 (by decide) ?_
        exact r_ret S hr hlk X46 ⟨I47, F48, (R_of r56 rfl), (fun h => ⟨(by rw [M45.1]; exact R_of r53 rfl), (by rw [((M45.2 16 1 (Or.inr (by decide))).trans z2)]; exact R_of hf_0 rfl)⟩), (QY_r (sLook_g ⟨((RT_k hR.1).2.1.mp (by rw [z4]; omega)), p34⟩ (by rw [← q43]; omega)) (by omega) ⟨show (t44 16 2).toInt = (((fnd mn (wrd bb t)).toNat : Nat) : Int) by rw [M45.1, ← q43]; omega, (RG_fr hR (fun j => ((M45.2 1 j (Or.inl (by decide))).trans rfl)) (fun j => ((M45.2 2 j (Or.inl (by decide))).trans rfl)) (fun j => ((M45.2 201 j (Or.inl (by decide))).trans rfl)) ((M45.2 23 2 (Or.inl (by decide))).trans rfl) ((M45.2 23 3 (Or.inl (by decide))).trans rfl) (fun j => ((M45.2 228 j (Or.inl (by decide))).trans rfl)) (fun j => ((M45.2 229 j (Or.inl (by decide))).trans rfl)))⟩)⟩ (nr_bool (R_of (lo := 0) (hi := 1) r56 rfl)) dX8_seeMan_66
      ·
        have r57 : R (-1) (-1) v40 := ⟨by omega, by omega⟩
        refine r_aload_n S dX8_seeMan_53 rfl (lv_at hl 0 rfl) ?_
        refine r_iconst S dX8_seeMan_54 (by decide) (fun v58 z59 => ?_)
        have r60 := R_eq z59
        refine r_ki (q_U (As := [.int v58]) (rest := []) (K := 16) (ci := 6) S X46 (c_X8_fail_t16 l G t44 I47 v58 (R_of (lo := -2147483648) (hi := 2147483647) r60 rfl)) ck8_29_6 (Nat.le_of_ble_eq_true rfl) rfl (fun _ => ⟨_, rfl⟩) ⟨_, _, rfl⟩ ⟨Nat.le_of_ble_eq_true rfl, Nat.le_of_ble_eq_true rfl⟩ rfl hl.1 rfl (Nat.le_of_ble_eq_true rfl) dX8_seeMan_55 ⟨Nat.le_refl 0, Nat.le_refl 0⟩) X46 (fun v64 t63 H lc q61 X62 => ?_)
        unfold po_X8_fail_t16 at q61
        obtain ⟨q65, q66, q67, q68⟩ := q61
        have F69 : Fr [(16, 1), (16, 2)] [] τ t63 := Fr_call F48 q66 (by decide)
        refine r_if_eq (tgt := 65) S dX8_seeMan_58 (by decide) (fun c70 => ?_) (fun c70 => ?_)
        ·
          refine r_iconst S dX8_seeMan_65 (by decide) (fun v71 z72 => ?_)
          have r73 := R_eq z72
          exact r_ret S hr hlk X62 ⟨q65, F69, (R_of r73 rfl), (fun h => by exfalso; omega), (QY_b (sLook_b3 ⟨((RT_k hR.1).2.1.mp (by rw [z4]; omega)), p34⟩ (by rw [← q43]; omega)) (by omega) (by rw [q68]; omega) (RG_at (RG_fr hR (fun j => ((q66 1 j (by simp [fz])).trans ((M45.2 1 j (Or.inl (by decide))).trans rfl))) (fun j => ((q66 2 j (by simp [fz])).trans ((M45.2 2 j (Or.inl (by decide))).trans rfl))) (fun j => ((q66 201 j (by simp [fz])).trans ((M45.2 201 j (Or.inl (by decide))).trans rfl))) ((q66 23 2 (by decide)).trans ((M45.2 23 2 (Or.inl (by decide))).trans rfl)) ((q66 23 3 (by decide)).trans ((M45.2 23 3 (Or.inl (by decide))).trans rfl)) (fun j => ((q66 228 j (by simp [fz])).trans ((M45.2 228 j (Or.inl (by decide))).trans rfl))) (fun j => ((q66 229 j (by simp [fz])).trans ((M45.2 229 j (Or.inl (by decide))).trans rfl))))))⟩ (nr_bool (R_of (lo := 0) (hi := 1) r73 rfl)) dX8_seeMan_66
        ·
          exfalso; omega
    ·
      have r74 : R (1) (1) v28 := ⟨by omega, by omega⟩
      have p75 := (q31).mp (by omega)
      refine r_aload_n S dX8_seeMan_24 rfl (lv_at hl 0 rfl) ?_
      refine r_iconst S dX8_seeMan_25 (by decide) (fun v76 z77 => ?_)
      have r78 := R_eq z77
      refine r_ki (q_U (As := [.int v76]) (rest := []) (K := 16) (ci := 6) S X26 (c_X8_fail_t16 l G τ hI v76 (R_of (lo := -2147483648) (hi := 2147483647) r78 rfl)) ck8_29_6 (Nat.le_of_ble_eq_true rfl) rfl (fun _ => ⟨_, rfl⟩) ⟨_, _, rfl⟩ ⟨Nat.le_of_ble_eq_true rfl, Nat.le_of_ble_eq_true rfl⟩ rfl hl.1 rfl (Nat.le_of_ble_eq_true rfl) dX8_seeMan_26 ⟨Nat.le_refl 0, Nat.le_refl 0⟩) X26 (fun v82 t81 H lc q79 X80 => ?_)
      unfold po_X8_fail_t16 at q79
      obtain ⟨q83, q84, q85, q86⟩ := q79
      have F87 : Fr [(16, 1), (16, 2)] [] τ t81 := Fr_call Fr_rfl q84 (by decide)
      exact r_ret S hr hlk X80 ⟨q83, F87, (R_of q85 rfl), (fun h => by exfalso; omega), (QY_b (sLook_b1 (fun h => h.2 p75)) (by omega) (by rw [q86]; omega) (RG_at (RG_fr hR (fun j => ((q84 1 j (by simp [fz])).trans rfl)) (fun j => ((q84 2 j (by simp [fz])).trans rfl)) (fun j => ((q84 201 j (by simp [fz])).trans rfl)) ((q84 23 2 (by decide)).trans rfl) ((q84 23 3 (by decide)).trans rfl) (fun j => ((q84 228 j (by simp [fz])).trans rfl)) (fun j => ((q84 229 j (by simp [fz])).trans rfl)))))⟩ (nr_bool (R_of (lo := 0) (hi := 1) q85 rfl)) dX8_seeMan_29
def po_X8_seeAsk_t16 (τ : Tau)    (bb : Nat → Int) (nb : Nat) (an mn : List (List Int)) (t : Tk) (r : Int32) (u : Tau) : Prop := Inv u ∧ Fr [(16, 1), (16, 2)] [] τ u ∧ R (0) (1) r ∧ (r.toInt = 1 → R (0) (8) (u 16 2) ∧ R (0) (0) (u 16 1)) ∧ QY 16 (sLook bb an t) r u (fun i => (u 16 2).toInt = i ∧ RG bb nb 200 an mn u t)
set_option maxHeartbeats 4000000 in
set_option maxRecDepth 100000 in
theorem c_X8_seeAsk_t16 (l : Launch) (G : Gx) (τ : Tau) (hI : Inv τ) (hf_0 : R (0) (0) (τ 16 1)) (bb : Nat → Int) (nb : Nat) (an mn : List (List Int)) (t : Tk) (hR : RG bb nb 200 an mn τ t) : Ci l G yX8_seeAsk cX8_seeAsk 2 (some .boolean) 1 23 [.ref (G.2.2.2.1 16), .ref (G.2.2.2.1 23)] τ (po_X8_seeAsk_t16 τ    bb nb an mn t) := by
  unfold Ci
  refine C_of (own := RX8) (by decide) rfl (Nat.le_of_ble_eq_true rfl) ?_
  intro p e s m below meth c ls S hr hlk X hl
  have hl : lv_has ls 2 [(0, .ref (G.2.2.2.1 16)), (1, .ref (G.2.2.2.1 23))] := hl
  obtain ⟨v1, z2⟩ : ∃ x, τ 16 1 = x := ⟨_, rfl⟩
  rw [z2] at hf_0
  refine r_aload_n S dX8_seeAsk_0 rfl (lv_at hl 0 rfl) ?_
  refine r_get (K := 16) (v := .ref (G.2.2.2.1 1)) S X (Nat.le_of_ble_eq_true rfl) rfl lk8_9_6 (fun _ => ⟨_, rfl, rfl⟩) dX8_seeAsk_1 ?_
  refine r_getn (K := 1) S X (Nat.le_of_ble_eq_true rfl) rfl lk8_36_7 (fun _ => ⟨_, rfl, rfl⟩) dX8_seeAsk_4 (fun v3 z4 => ?_)
  have r5 : R (0) (4) v3 := rd hI rfl z4
  refine r_iconst S dX8_seeAsk_7 (by decide) (fun v6 z7 => ?_)
  have r8 := R_eq z7
  refine r_icmp_ne (tgt := 24) S dX8_seeAsk_8 (by decide) (fun c9 => ?_) (fun c9 => ?_)
  ·
    refine r_aload_n S dX8_seeAsk_24 rfl (lv_at hl 0 rfl) ?_
    refine r_iconst S dX8_seeAsk_25 (by decide) (fun v10 z11 => ?_)
    have r12 := R_eq z11
    refine r_ki (q_U (As := [.int v10]) (rest := []) (K := 16) (ci := 6) S X (c_X8_fail_t16 l G τ hI v10 (R_of (lo := -2147483648) (hi := 2147483647) r12 rfl)) ck8_29_6 (Nat.le_of_ble_eq_true rfl) rfl (fun _ => ⟨_, rfl⟩) ⟨_, _, rfl⟩ ⟨Nat.le_of_ble_eq_true rfl, Nat.le_of_ble_eq_true rfl⟩ rfl hl.1 rfl (Nat.le_of_ble_eq_true rfl) dX8_seeAsk_26 ⟨Nat.le_refl 0, Nat.le_refl 0⟩) X (fun v16 t15 H lc q13 X14 => ?_)
    unfold po_X8_fail_t16 at q13
    obtain ⟨q17, q18, q19, q20⟩ := q13
    have F21 : Fr [(16, 1), (16, 2)] [] τ t15 := Fr_call Fr_rfl q18 (by decide)
    exact r_ret S hr hlk X14 ⟨q17, F21, (R_of q19 rfl), (fun h => by exfalso; omega), (QY_b (sLook_b1 (fun h => absurd ((RT_k hR.1).2.1.mpr h.1) (by rw [z4]; omega))) (by omega) (by rw [q20]; omega) (RG_at (RG_fr hR (fun j => ((q18 1 j (by simp [fz])).trans rfl)) (fun j => ((q18 2 j (by simp [fz])).trans rfl)) (fun j => ((q18 201 j (by simp [fz])).trans rfl)) ((q18 23 2 (by decide)).trans rfl) ((q18 23 3 (by decide)).trans rfl) (fun j => ((q18 228 j (by simp [fz])).trans rfl)) (fun j => ((q18 229 j (by simp [fz])).trans rfl)))))⟩ (nr_bool (R_of (lo := 0) (hi := 1) q19 rfl)) dX8_seeAsk_29
  ·
    have r22 : R (2) (2) v3 := ⟨by omega, by omega⟩
    refine r_aload_n S dX8_seeAsk_11 rfl (lv_at hl 0 rfl) ?_
    refine r_get (K := 16) (v := .ref (G.2.2.2.1 1)) S X (Nat.le_of_ble_eq_true rfl) rfl lk8_9_6 (fun _ => ⟨_, rfl, rfl⟩) dX8_seeAsk_12 ?_
    refine r_getJ (K := 1) S X (Nat.le_of_ble_eq_true rfl) rfl lk8_58_7 (fun _ => ⟨_, rfl, rfl⟩) dX8_seeAsk_15 (fun j23 z24 => ?_)
    refine r_ki (q_S (As := [.long j23]) (rest := []) S X (c_X9_isKept_q l G τ hI j23 (wrd bb t) (by rw [← z24]; exact (RT_low hR.1 ((RT_k hR.1).2.1.mp (by rw [z4]; omega))).2) (RT_low hR.1 ((RT_k hR.1).2.1.mp (by rw [z4]; omega))).1) ck8_62 ⟨Nat.le_of_ble_eq_true rfl, Nat.le_of_ble_eq_true rfl⟩ rfl hl.1 rfl (Nat.le_of_ble_eq_true rfl) dX8_seeAsk_18 ⟨Nat.le_refl 0, Nat.le_refl 0⟩) X (fun v28 t27 H lc q25 X26 => ?_)
    unfold po_X9_isKept_q at q25
    obtain ⟨q29, q30, q31⟩ := q25
    rw [q29] at X26
    refine r_if_eq (tgt := 30) S dX8_seeAsk_21 (by decide) (fun c32 => ?_) (fun c32 => ?_)
    ·
      have r33 : R (0) (0) v28 := ⟨by omega, by omega⟩
      have p34 := (iff_n q31) (by omega)
      refine r_aload_n S dX8_seeAsk_30 rfl (lv_at hl 0 rfl) ?_
      refine r_aload_n S dX8_seeAsk_31 rfl (lv_at hl 1 rfl) ?_
      refine r_aload_n S dX8_seeAsk_32 rfl (lv_at hl 0 rfl) ?_
      refine r_get (K := 16) (v := .ref (G.2.2.2.1 1)) S X26 (Nat.le_of_ble_eq_true rfl) rfl lk8_9_6 (fun _ => ⟨_, rfl, rfl⟩) dX8_seeAsk_33 ?_
      refine r_getJ (K := 1) S X26 (Nat.le_of_ble_eq_true rfl) rfl lk8_58_7 (fun _ => ⟨_, rfl, rfl⟩) dX8_seeAsk_36 (fun j35 z36 => ?_)
      refine r_ki (q_V (As := [.long j35]) (rest := [.ref (G.2.2.2.1 16)]) (K := 4) (ci := 2) S X26 (c_X2_askNamed_qw l G τ hI j35 an (wrd bb t) hR.2.1 (by rw [← z36]; exact (RT_low hR.1 ((RT_k hR.1).2.1.mp (by rw [z4]; omega))).2) (RT_low hR.1 ((RT_k hR.1).2.1.mp (by rw [z4]; omega))).1) ck8_72 (Nat.le_of_ble_eq_true rfl) rfl (fun _ => ⟨_, rfl⟩) ⟨_, _, rfl⟩ ⟨Nat.le_of_ble_eq_true rfl, Nat.le_of_ble_eq_true rfl⟩ rfl hl.1 rfl (Nat.le_of_ble_eq_true rfl) dX8_seeAsk_39 ⟨Nat.le_refl 0, Nat.le_refl 0⟩) X26 (fun v40 t39 H lc q37 X38 => ?_)
      unfold po_X2_askNamed_qw at q37
      obtain ⟨q41, q42, q43⟩ := q37
      rw [q41] at X38
      refine r_put (K := 16) (ty := .int) S X38 (Nat.le_of_ble_eq_true rfl) rfl lk8_42_6 (fun _ => ⟨_, rfl, Nat.le_of_ble_eq_true rfl, rfl⟩) (fun _ _ _ h => by cases h; exact ⟨rfl, rfl⟩) rfl rfl dX8_seeAsk_42 (fun t44 H lc M45 X46 => ?_)
      have I47 := Inv_mu hI M45 (R_any v40)
      have F48 : Fr [(16, 1), (16, 2)] [] τ t44 := Fr_mu Fr_rfl M45 (by decide)
      refine r_aload_n S dX8_seeAsk_45 rfl (lv_at hl 0 rfl) ?_
      refine r_geti (K := 16) S X46 (Nat.le_of_ble_eq_true rfl) rfl lk8_42_6 (fun _ => ⟨_, rfl, rfl⟩) M45.1 dX8_seeAsk_46 ?_
      refine r_iconst S dX8_seeAsk_49 (by decide) (fun v49 z50 => ?_)
      have r51 := R_eq z50
      refine r_icmp_ne (tgt := 61) S dX8_seeAsk_50 (by decide) (fun c52 => ?_) (fun c52 => ?_)
      ·
        have r53 : R (0) (8) v40 := ⟨by omega, by omega⟩
        refine r_iconst S dX8_seeAsk_61 (by decide) (fun v54 z55 => ?_)
        have r56 := R_eq z55
        refine r_goto (tgt := 66) S dX8_seeAsk_62 (by decide) ?_
        exact r_ret S hr hlk X46 ⟨I47, F48, (R_of r56 rfl), (fun h => ⟨(by rw [M45.1]; exact R_of r53 rfl), (by rw [((M45.2 16 1 (Or.inr (by decide))).trans z2)]; exact R_of hf_0 rfl)⟩), (QY_r (sLook_g ⟨((RT_k hR.1).2.1.mp (by rw [z4]; omega)), p34⟩ (by rw [← q43]; omega)) (by omega) ⟨show (t44 16 2).toInt = (((fnd an (wrd bb t)).toNat : Nat) : Int) by rw [M45.1, ← q43]; omega, (RG_fr hR (fun j => ((M45.2 1 j (Or.inl (by decide))).trans rfl)) (fun j => ((M45.2 2 j (Or.inl (by decide))).trans rfl)) (fun j => ((M45.2 201 j (Or.inl (by decide))).trans rfl)) ((M45.2 23 2 (Or.inl (by decide))).trans rfl) ((M45.2 23 3 (Or.inl (by decide))).trans rfl) (fun j => ((M45.2 228 j (Or.inl (by decide))).trans rfl)) (fun j => ((M45.2 229 j (Or.inl (by decide))).trans rfl)))⟩)⟩ (nr_bool (R_of (lo := 0) (hi := 1) r56 rfl)) dX8_seeAsk_66
      ·
        have r57 : R (-1) (-1) v40 := ⟨by omega, by omega⟩
        refine r_aload_n S dX8_seeAsk_53 rfl (lv_at hl 0 rfl) ?_
        refine r_iconst S dX8_seeAsk_54 (by decide) (fun v58 z59 => ?_)
        have r60 := R_eq z59
        refine r_ki (q_U (As := [.int v58]) (rest := []) (K := 16) (ci := 6) S X46 (c_X8_fail_t16 l G t44 I47 v58 (R_of (lo := -2147483648) (hi := 2147483647) r60 rfl)) ck8_29_6 (Nat.le_of_ble_eq_true rfl) rfl (fun _ => ⟨_, rfl⟩) ⟨_, _, rfl⟩ ⟨Nat.le_of_ble_eq_true rfl, Nat.le_of_ble_eq_true rfl⟩ rfl hl.1 rfl (Nat.le_of_ble_eq_true rfl) dX8_seeAsk_55 ⟨Nat.le_refl 0, Nat.le_refl 0⟩) X46 (fun v64 t63 H lc q61 X62 => ?_)
        unfold po_X8_fail_t16 at q61
        obtain ⟨q65, q66, q67, q68⟩ := q61
        have F69 : Fr [(16, 1), (16, 2)] [] τ t63 := Fr_call F48 q66 (by decide)
        refine r_if_eq (tgt := 65) S dX8_seeAsk_58 (by decide) (fun c70 => ?_) (fun c70 => ?_)
        ·
          refine r_iconst S dX8_seeAsk_65 (by decide) (fun v71 z72 => ?_)
          have r73 := R_eq z72
          exact r_ret S hr hlk X62 ⟨q65, F69, (R_of r73 rfl), (fun h => by exfalso; omega), (QY_b (sLook_b3 ⟨((RT_k hR.1).2.1.mp (by rw [z4]; omega)), p34⟩ (by rw [← q43]; omega)) (by omega) (by rw [q68]; omega) (RG_at (RG_fr hR (fun j => ((q66 1 j (by simp [fz])).trans ((M45.2 1 j (Or.inl (by decide))).trans rfl))) (fun j => ((q66 2 j (by simp [fz])).trans ((M45.2 2 j (Or.inl (by decide))).trans rfl))) (fun j => ((q66 201 j (by simp [fz])).trans ((M45.2 201 j (Or.inl (by decide))).trans rfl))) ((q66 23 2 (by decide)).trans ((M45.2 23 2 (Or.inl (by decide))).trans rfl)) ((q66 23 3 (by decide)).trans ((M45.2 23 3 (Or.inl (by decide))).trans rfl)) (fun j => ((q66 228 j (by simp [fz])).trans ((M45.2 228 j (Or.inl (by decide))).trans rfl))) (fun j => ((q66 229 j (by simp [fz])).trans ((M45.2 229 j (Or.inl (by decide))).trans rfl))))))⟩ (nr_bool (R_of (lo := 0) (hi := 1) r73 rfl)) dX8_seeAsk_66
        ·
          exfalso; omega
    ·
      have r74 : R (1) (1) v28 := ⟨by omega, by omega⟩
      have p75 := (q31).mp (by omega)
      refine r_aload_n S dX8_seeAsk_24 rfl (lv_at hl 0 rfl) ?_
      refine r_iconst S dX8_seeAsk_25 (by decide) (fun v76 z77 => ?_)
      have r78 := R_eq z77
      refine r_ki (q_U (As := [.int v76]) (rest := []) (K := 16) (ci := 6) S X26 (c_X8_fail_t16 l G τ hI v76 (R_of (lo := -2147483648) (hi := 2147483647) r78 rfl)) ck8_29_6 (Nat.le_of_ble_eq_true rfl) rfl (fun _ => ⟨_, rfl⟩) ⟨_, _, rfl⟩ ⟨Nat.le_of_ble_eq_true rfl, Nat.le_of_ble_eq_true rfl⟩ rfl hl.1 rfl (Nat.le_of_ble_eq_true rfl) dX8_seeAsk_26 ⟨Nat.le_refl 0, Nat.le_refl 0⟩) X26 (fun v82 t81 H lc q79 X80 => ?_)
      unfold po_X8_fail_t16 at q79
      obtain ⟨q83, q84, q85, q86⟩ := q79
      have F87 : Fr [(16, 1), (16, 2)] [] τ t81 := Fr_call Fr_rfl q84 (by decide)
      exact r_ret S hr hlk X80 ⟨q83, F87, (R_of q85 rfl), (fun h => by exfalso; omega), (QY_b (sLook_b1 (fun h => h.2 p75)) (by omega) (by rw [q86]; omega) (RG_at (RG_fr hR (fun j => ((q84 1 j (by simp [fz])).trans rfl)) (fun j => ((q84 2 j (by simp [fz])).trans rfl)) (fun j => ((q84 201 j (by simp [fz])).trans rfl)) ((q84 23 2 (by decide)).trans rfl) ((q84 23 3 (by decide)).trans rfl) (fun j => ((q84 228 j (by simp [fz])).trans rfl)) (fun j => ((q84 229 j (by simp [fz])).trans rfl)))))⟩ (nr_bool (R_of (lo := 0) (hi := 1) q85 rfl)) dX8_seeAsk_29
def po_X7_open_t16 (τ : Tau)  (a0 : Int32)  (bb : Nat → Int) (nb : Nat) (u : Tau) : Prop := Inv u ∧ Fr [(1, 2), (1, 3), (1, 4), (1, 5), (1, 7), (1, 8)] [201] τ u ∧ RT bb nb 200 u (lex bb nb 200 0)
set_option maxHeartbeats 4000000 in
set_option maxRecDepth 100000 in
theorem c_X7_open_t16 (l : Launch) (G : Gx) (τ : Tau) (hI : Inv τ) (a0 : Int32) (h_a0 : R (200) (200) a0) (bb : Nat → Int) (nb : Nat) (hB0 : RB0 bb nb τ) : Cv l G yX7_open cX7_open 2 1 24 [.ref (G.2.2.2.1 1), .int a0] τ (po_X7_open_t16 τ  a0  bb nb) := by
  unfold Cv
  refine C_of (own := RX7) (by decide) rfl (Nat.le_of_ble_eq_true rfl) ?_
  intro p e s m below meth c ls S hr hlk X hl
  have hl : lv_has ls 2 [(0, .ref (G.2.2.2.1 1)), (1, .int a0)] := hl
  refine r_aload_n S dX7_open_0 rfl (lv_at hl 0 rfl) ?_
  refine r_iload_n S dX7_open_1 rfl (lv_at hl 1 rfl) ?_
  refine r_put (K := 1) (ty := .int) S X (Nat.le_of_ble_eq_true rfl) rfl lk7_19_7 (fun _ => ⟨_, rfl, Nat.le_of_ble_eq_true rfl, rfl⟩) (fun _ _ _ h => by cases h; exact ⟨rfl, rfl⟩) rfl rfl dX7_open_2 (fun t1 H lc M2 X3 => ?_)
  have I4 := Inv_mu hI M2 (show Rg (kd 1) 2 a0 from (R_of (lo := 0) (hi := 900) h_a0 rfl))
  have F5 : Fr [(1, 2), (1, 3), (1, 4), (1, 5), (1, 7), (1, 8)] [201] τ t1 := Fr_mu Fr_rfl M2 (by decide)
  refine r_aload_n S dX7_open_5 rfl (lv_at hl 0 rfl) ?_
  refine r_iconst S dX7_open_6 (by decide) (fun v6 z7 => ?_)
  have r8 := R_eq z7
  refine r_put (K := 1) (ty := .int) S X3 (Nat.le_of_ble_eq_true rfl) rfl lk7_22_7 (fun _ => ⟨_, rfl, Nat.le_of_ble_eq_true rfl, rfl⟩) (fun _ _ _ h => by cases h; exact ⟨rfl, rfl⟩) rfl rfl dX7_open_7 (fun t9 H lc M10 X11 => ?_)
  have I12 := Inv_mu I4 M10 (show Rg (kd 1) 4 v6 from (R_of (lo := 0) (hi := 940) r8 rfl))
  have F13 : Fr [(1, 2), (1, 3), (1, 4), (1, 5), (1, 7), (1, 8)] [201] τ t9 := Fr_mu F5 M10 (by decide)
  refine r_aload_n S dX7_open_10 rfl (lv_at hl 0 rfl) ?_
  refine r_kv (q_V (As := []) (rest := []) (K := 1) (ci := 7) S X11 (c_X7_step_q l G t9 I12 bb nb 200 0 (RB_of (RB0_eq hB0 (F13 1 1 (by simp [fz])) (fun j => F13 2 j (by simp [fz]))) ((M10.2 1 2 (Or.inr (by decide))).trans M2.1) (by omega)) (by rw [M10.1]; omega) (Nat.zero_le _)) ck7_25 (Nat.le_of_ble_eq_true rfl) rfl (fun _ => ⟨_, rfl⟩) ⟨_, _, rfl⟩ ⟨Nat.le_of_ble_eq_true rfl, Nat.le_of_ble_eq_true rfl⟩ rfl hl.1 rfl (Nat.le_of_ble_eq_true rfl) dX7_open_11 ⟨Nat.le_refl 0, Nat.le_refl 0⟩) X11 (fun t16 H lc q14 X15 => ?_)
  unfold po_X7_step_q at q14
  obtain ⟨q17, q18, q19⟩ := q14
  have F20 : Fr [(1, 2), (1, 3), (1, 4), (1, 5), (1, 7), (1, 8)] [201] τ t16 := Fr_call F13 q18 (by decide)
  exact r_vret S hr hlk X15 ⟨q17, F20, q19⟩ dX7_open_14
def po_X8_open_t16 (τ : Tau)  (a0 : Int32)  (bb : Nat → Int) (nb : Nat) (u : Tau) : Prop := Inv u ∧ Fr [(16, 1), (1, 2), (1, 3), (1, 4), (1, 5), (1, 7), (1, 8)] [201] τ u ∧ R (0) (0) (u 16 1) ∧ RT bb nb 200 u (lex bb nb 200 0)
set_option maxHeartbeats 4000000 in
set_option maxRecDepth 100000 in
theorem c_X8_open_t16 (l : Launch) (G : Gx) (τ : Tau) (hI : Inv τ) (a0 : Int32) (h_a0 : R (200) (200) a0) (bb : Nat → Int) (nb : Nat) (hB0 : RB0 bb nb τ) : Cv l G yX8_open cX8_open 2 2 45 [.ref (G.2.2.2.1 16), .int a0] τ (po_X8_open_t16 τ  a0  bb nb) := by
  unfold Cv
  refine C_of (own := RX8) (by decide) rfl (Nat.le_of_ble_eq_true rfl) ?_
  intro p e s m below meth c ls S hr hlk X hl
  have hl : lv_has ls 2 [(0, .ref (G.2.2.2.1 16)), (1, .int a0)] := hl
  refine r_aload_n S dX8_open_0 rfl (lv_at hl 0 rfl) ?_
  refine r_iconst S dX8_open_1 (by decide) (fun v1 z2 => ?_)
  have r3 := R_eq z2
  refine r_put (K := 16) (ty := .int) S X (Nat.le_of_ble_eq_true rfl) rfl lk8_15_6 (fun _ => ⟨_, rfl, Nat.le_of_ble_eq_true rfl, rfl⟩) (fun _ _ _ h => by cases h; exact ⟨rfl, rfl⟩) rfl rfl dX8_open_2 (fun t4 H lc M5 X6 => ?_)
  have I7 := Inv_mu hI M5 (R_any v1)
  have F8 : Fr [(16, 1), (1, 2), (1, 3), (1, 4), (1, 5), (1, 7), (1, 8)] [201] τ t4 := Fr_mu Fr_rfl M5 (by decide)
  refine r_aload_n S dX8_open_5 rfl (lv_at hl 0 rfl) ?_
  refine r_get (K := 16) (v := .ref (G.2.2.2.1 1)) S X6 (Nat.le_of_ble_eq_true rfl) rfl lk8_9_6 (fun _ => ⟨_, rfl, rfl⟩) dX8_open_6 ?_
  refine r_iload_n S dX8_open_9 rfl (lv_at hl 1 rfl) ?_
  refine r_kv (q_V (As := [.int a0]) (rest := []) (K := 1) (ci := 7) S X6 (c_X7_open_t16 l G t4 I7 a0 h_a0 bb nb (RB0_eq hB0 (F8 1 1 (by simp [fz])) (fun j => F8 2 j (by simp [fz])))) ck8_19 (Nat.le_of_ble_eq_true rfl) rfl (fun _ => ⟨_, rfl⟩) ⟨_, _, rfl⟩ ⟨Nat.le_of_ble_eq_true rfl, Nat.le_of_ble_eq_true rfl⟩ rfl hl.1 rfl (Nat.le_of_ble_eq_true rfl) dX8_open_10 ⟨Nat.le_refl 0, Nat.le_refl 0⟩) X6 (fun t11 H lc q9 X10 => ?_)
  unfold po_X7_open_t16 at q9
  obtain ⟨q12, q13, q14⟩ := q9
  have F15 : Fr [(16, 1), (1, 2), (1, 3), (1, 4), (1, 5), (1, 7), (1, 8)] [201] τ t11 := Fr_call F8 q13 (by decide)
  exact r_vret S hr hlk X10 ⟨q12, F15, (by rw [((q13 16 1 (by decide)).trans M5.1)]; exact R_of r3 rfl), (RT_fr q14 (fun j => rfl) (fun j => rfl) (fun j => rfl))⟩ dX8_open_13
