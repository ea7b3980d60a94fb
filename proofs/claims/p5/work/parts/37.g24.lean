def po_X11_man (τ : Tau)  (a0 a1 : Int32)   (r : Int32) (u : Tau) : Prop := u = τ
set_option maxHeartbeats 4000000 in
set_option maxRecDepth 100000 in
theorem c_X11_man (l : Launch) (hst : l.stackTraces = false) (G : Gx) (τ : Tau) (hI : Inv τ) (a0 : Int32) (a1 : Int32) (h_a0 : R (-2147483648) (2147483647) a0) (h_a1 : R (-2147483648) (2147483647) a1) : Cx l G yX11_man cX11_man 3 (some .int) 6 100 [.ref (G.2.2.2.1 0), .int a0, .int a1] τ (po_X11_man τ  a0 a1  ) := by
  unfold Cx
  refine Cx_of (own := RX11) (by decide) rfl (Nat.le_of_ble_eq_true rfl) ?_
  intro p e s m below meth c ls S hr hlk hZ hT0 X hl
  have hl : lv_has ls 3 [(0, .ref (G.2.2.2.1 0)), (1, .int a0), (2, .int a1)] := hl
  refine r_aload_n S dX11_man_0 rfl (lv_at hl 0 rfl) ?_
  refine r_get (K := 0) (v := .ref (G.2.2.2.1 22)) S X (Nat.le_of_ble_eq_true rfl) rfl lk11_42_9 (fun _ => ⟨_, rfl, rfl⟩) dX11_man_1 ?_
  refine r_iload_n S dX11_man_4 rfl (lv_at hl 1 rfl) ?_
  refine r_ki (q_V (As := [.int a0]) (rest := []) (K := 22) (ci := 8) S X (c_X10_hasMan l G τ hI a0 h_a0) ck11_122 (Nat.le_of_ble_eq_true rfl) rfl (fun _ => ⟨_, rfl⟩) ⟨_, _, rfl⟩ ⟨Nat.le_of_ble_eq_true rfl, Nat.le_of_ble_eq_true rfl⟩ rfl hl.1 rfl (Nat.le_of_ble_eq_true rfl) dX11_man_5 ⟨Nat.zero_le _, Nat.zero_le _⟩) X (fun v4 t3 H lc q1 X2 => ?_)
  unfold po_X10_hasMan at q1
  obtain ⟨q5, q6, q7⟩ := q1
  rw [q5] at X2
  rw [q5] at q7
  refine r_if_ne (tgt := 19) S dX11_man_8 (by decide) (fun c8 => ?_) (fun c8 => ?_)
  ·
    have r9 : R (1) (1) v4 := ⟨by omega, by omega⟩
    obtain ⟨p10, p11⟩ := q7 (by omega)
    have r12 : R (0) (9) a0 := ⟨by omega, by omega⟩
    obtain ⟨v13, z14⟩ : ∃ x, τ 23 3 = x := ⟨_, rfl⟩
    rw [z14] at p11
    refine r_iload_n S dX11_man_19 rfl (lv_at hl 2 rfl) ?_
    rcases (show (a1.toInt < 0 ∨ 7 < a1.toInt) ∨ a1.toInt = 0 ∨ a1.toInt = 1 ∨ a1.toInt = 2 ∨ a1.toInt = 3 ∨ a1.toInt = 4 ∨ a1.toInt = 5 ∨ a1.toInt = 6 ∨ a1.toInt = 7 by omega) with c15 | c15 | c15 | c15 | c15 | c15 | c15 | c15 | c15
    ·
      refine lv_tableOut (tgt := 178) S.1.1 S.1.2.1 dX11_man_20 c15 (by decide) ?_
      exact r_throw S hst hZ X2 hlk hT0 kw83 kw84 hl.1 dX11_man_178 dX11_man_181 dX11_man_182 dX11_man_185 (Nat.le_of_ble_eq_true rfl) (Nat.le_of_ble_eq_true rfl) (Nat.le_refl _) (Nat.le_refl _)
    ·
      refine lv_tableIn (tgt := 68) S.1.1 S.1.2.1 dX11_man_20 (by omega) (by omega) (by rw [c15]; rfl) (by decide) ?_
      have r16 : R (0) (0) a1 := ⟨by omega, by omega⟩
      refine r_aload_n S dX11_man_68 rfl (lv_at hl 0 rfl) ?_
      refine r_get (K := 0) (v := .ref (G.2.2.2.1 22)) S X2 (Nat.le_of_ble_eq_true rfl) rfl lk11_42_9 (fun _ => ⟨_, rfl, rfl⟩) dX11_man_69 ?_
      refine r_get (K := 22) (v := .ref (G.2.2.2.1 30)) S X2 (Nat.le_of_ble_eq_true rfl) rfl lk11_129_8 (fun _ => ⟨_, rfl, rfl⟩) dX11_man_72 ?_
      refine r_getn (K := 23) S X2 (Nat.le_of_ble_eq_true rfl) rfl lk11_132_3 (fun _ => ⟨_, rfl, rfl⟩) dX11_man_75 (fun v17 z18 => ?_)
      have r19 : R (0) (1023) v17 := rd hI rfl z18
      refine r_iload_n S dX11_man_78 rfl (lv_at hl 1 rfl) ?_
      refine r_ki (q_S (As := [.int v17, .int a0]) (rest := []) S X2 (c_X11_bit l G τ hI v17 a0 (R_of (lo := -2147483648) (hi := 2147483647) r19 rfl) (R_of (lo := -2147483648) (hi := 2147483647) r12 rfl)) ck11_135 ⟨Nat.le_of_ble_eq_true rfl, Nat.le_of_ble_eq_true rfl⟩ rfl hl.1 rfl (Nat.le_of_ble_eq_true rfl) dX11_man_79 ⟨Nat.zero_le _, Nat.zero_le _⟩) X2 (fun v23 t22 H lc q20 X21 => ?_)
      unfold po_X11_bit at q20
      obtain ⟨q24, q25⟩ := q20
      rw [q24] at X21
      exact r_xret S hr hlk X21 rfl rfl dX11_man_82
    ·
      refine lv_tableIn (tgt := 83) S.1.1 S.1.2.1 dX11_man_20 (by omega) (by omega) (by rw [c15]; rfl) (by decide) ?_
      have r26 : R (1) (1) a1 := ⟨by omega, by omega⟩
      refine r_aload_n S dX11_man_83 rfl (lv_at hl 0 rfl) ?_
      refine r_get (K := 0) (v := .ref (G.2.2.2.1 22)) S X2 (Nat.le_of_ble_eq_true rfl) rfl lk11_42_9 (fun _ => ⟨_, rfl, rfl⟩) dX11_man_84 ?_
      refine r_get (K := 22) (v := .ref (G.2.2.2.1 23)) S X2 (Nat.le_of_ble_eq_true rfl) rfl lk11_139_8 (fun _ => ⟨_, rfl, rfl⟩) dX11_man_87 ?_
      refine r_get (K := 4) (v := .ref (G.2.2.2.1 24)) S X2 (Nat.le_of_ble_eq_true rfl) rfl lk11_140_2 (fun _ => ⟨_, rfl, rfl⟩) dX11_man_90 ?_
      refine r_iload_n S dX11_man_93 rfl (lv_at hl 1 rfl) ?_
      refine r_aldn (n := 10) (K := 5) S X2 (Nat.le_of_ble_eq_true rfl) rfl (fun _ => rfl) (ix_of r12 rfl) dX11_man_94 (fun v27 z28 => ?_)
      have r29 : R (0) (20) v27 := rd hI rfl z28
      exact r_xret S hr hlk X2 rfl rfl dX11_man_95
    ·
      refine lv_tableIn (tgt := 96) S.1.1 S.1.2.1 dX11_man_20 (by omega) (by omega) (by rw [c15]; rfl) (by decide) ?_
      have r30 : R (2) (2) a1 := ⟨by omega, by omega⟩
      refine r_aload_n S dX11_man_96 rfl (lv_at hl 0 rfl) ?_
      refine r_get (K := 0) (v := .ref (G.2.2.2.1 22)) S X2 (Nat.le_of_ble_eq_true rfl) rfl lk11_42_9 (fun _ => ⟨_, rfl, rfl⟩) dX11_man_97 ?_
      refine r_get (K := 22) (v := .ref (G.2.2.2.1 30)) S X2 (Nat.le_of_ble_eq_true rfl) rfl lk11_129_8 (fun _ => ⟨_, rfl, rfl⟩) dX11_man_100 ?_
      refine r_getn (K := 23) S X2 (Nat.le_of_ble_eq_true rfl) rfl lk11_145_3 (fun _ => ⟨_, rfl, rfl⟩) dX11_man_103 (fun v31 z32 => ?_)
      have r33 : R (0) (1023) v31 := rd hI rfl z32
      refine r_iload_n S dX11_man_106 rfl (lv_at hl 1 rfl) ?_
      refine r_ki (q_S (As := [.int v31, .int a0]) (rest := []) S X2 (c_X11_bit l G τ hI v31 a0 (R_of (lo := -2147483648) (hi := 2147483647) r33 rfl) (R_of (lo := -2147483648) (hi := 2147483647) r12 rfl)) ck11_135 ⟨Nat.le_of_ble_eq_true rfl, Nat.le_of_ble_eq_true rfl⟩ rfl hl.1 rfl (Nat.le_of_ble_eq_true rfl) dX11_man_107 ⟨Nat.zero_le _, Nat.zero_le _⟩) X2 (fun v37 t36 H lc q34 X35 => ?_)
      unfold po_X11_bit at q34
      obtain ⟨q38, q39⟩ := q34
      rw [q38] at X35
      exact r_xret S hr hlk X35 rfl rfl dX11_man_110
    ·
      refine lv_tableIn (tgt := 111) S.1.1 S.1.2.1 dX11_man_20 (by omega) (by omega) (by rw [c15]; rfl) (by decide) ?_
      have r40 : R (3) (3) a1 := ⟨by omega, by omega⟩
      refine r_aload_n S dX11_man_111 rfl (lv_at hl 0 rfl) ?_
      refine r_get (K := 0) (v := .ref (G.2.2.2.1 22)) S X2 (Nat.le_of_ble_eq_true rfl) rfl lk11_42_9 (fun _ => ⟨_, rfl, rfl⟩) dX11_man_112 ?_
      refine r_get (K := 22) (v := .ref (G.2.2.2.1 30)) S X2 (Nat.le_of_ble_eq_true rfl) rfl lk11_129_8 (fun _ => ⟨_, rfl, rfl⟩) dX11_man_115 ?_
      refine r_getn (K := 23) S X2 (Nat.le_of_ble_eq_true rfl) rfl lk11_148_3 (fun _ => ⟨_, rfl, rfl⟩) dX11_man_118 (fun v41 z42 => ?_)
      have r43 : R (0) (1023) v41 := rd hI rfl z42
      refine r_iload_n S dX11_man_121 rfl (lv_at hl 1 rfl) ?_
      refine r_ki (q_S (As := [.int v41, .int a0]) (rest := []) S X2 (c_X11_bit l G τ hI v41 a0 (R_of (lo := -2147483648) (hi := 2147483647) r43 rfl) (R_of (lo := -2147483648) (hi := 2147483647) r12 rfl)) ck11_135 ⟨Nat.le_of_ble_eq_true rfl, Nat.le_of_ble_eq_true rfl⟩ rfl hl.1 rfl (Nat.le_of_ble_eq_true rfl) dX11_man_122 ⟨Nat.zero_le _, Nat.zero_le _⟩) X2 (fun v47 t46 H lc q44 X45 => ?_)
      unfold po_X11_bit at q44
      obtain ⟨q48, q49⟩ := q44
      rw [q48] at X45
      exact r_xret S hr hlk X45 rfl rfl dX11_man_125
    ·
      refine lv_tableIn (tgt := 126) S.1.1 S.1.2.1 dX11_man_20 (by omega) (by omega) (by rw [c15]; rfl) (by decide) ?_
      have r50 : R (4) (4) a1 := ⟨by omega, by omega⟩
      refine r_aload_n S dX11_man_126 rfl (lv_at hl 0 rfl) ?_
      refine r_get (K := 0) (v := .ref (G.2.2.2.1 22)) S X2 (Nat.le_of_ble_eq_true rfl) rfl lk11_42_9 (fun _ => ⟨_, rfl, rfl⟩) dX11_man_127 ?_
      refine r_get (K := 22) (v := .ref (G.2.2.2.1 23)) S X2 (Nat.le_of_ble_eq_true rfl) rfl lk11_139_8 (fun _ => ⟨_, rfl, rfl⟩) dX11_man_130 ?_
      refine r_get (K := 4) (v := .ref (G.2.2.2.1 25)) S X2 (Nat.le_of_ble_eq_true rfl) rfl lk11_151_2 (fun _ => ⟨_, rfl, rfl⟩) dX11_man_133 ?_
      refine r_iload_n S dX11_man_136 rfl (lv_at hl 1 rfl) ?_
      refine r_aldn (n := 10) (K := 6) S X2 (Nat.le_of_ble_eq_true rfl) rfl (fun _ => rfl) (ix_of r12 rfl) dX11_man_137 (fun v51 z52 => ?_)
      have r53 : R (-1) (9) v51 := rd hI rfl z52
      exact r_xret S hr hlk X2 rfl rfl dX11_man_138
    ·
      refine lv_tableIn (tgt := 139) S.1.1 S.1.2.1 dX11_man_20 (by omega) (by omega) (by rw [c15]; rfl) (by decide) ?_
      have r54 : R (5) (5) a1 := ⟨by omega, by omega⟩
      refine r_aload_n S dX11_man_139 rfl (lv_at hl 0 rfl) ?_
      refine r_get (K := 0) (v := .ref (G.2.2.2.1 22)) S X2 (Nat.le_of_ble_eq_true rfl) rfl lk11_42_9 (fun _ => ⟨_, rfl, rfl⟩) dX11_man_140 ?_
      refine r_get (K := 22) (v := .ref (G.2.2.2.1 30)) S X2 (Nat.le_of_ble_eq_true rfl) rfl lk11_129_8 (fun _ => ⟨_, rfl, rfl⟩) dX11_man_143 ?_
      refine r_get (K := 23) (v := .ref (G.2.2.2.1 34)) S X2 (Nat.le_of_ble_eq_true rfl) rfl lk11_154_3 (fun _ => ⟨_, rfl, rfl⟩) dX11_man_146 ?_
      refine r_iload_n S dX11_man_149 rfl (lv_at hl 1 rfl) ?_
      refine r_aldn (n := 10) (K := 27) S X2 (Nat.le_of_ble_eq_true rfl) rfl (fun _ => rfl) (ix_of r12 rfl) dX11_man_150 (fun v55 z56 => ?_)
      have r58 := R_any v55
      exact r_xret S hr hlk X2 rfl rfl dX11_man_151
    ·
      refine lv_tableIn (tgt := 152) S.1.1 S.1.2.1 dX11_man_20 (by omega) (by omega) (by rw [c15]; rfl) (by decide) ?_
      have r59 : R (6) (6) a1 := ⟨by omega, by omega⟩
      refine r_aload_n S dX11_man_152 rfl (lv_at hl 0 rfl) ?_
      refine r_get (K := 0) (v := .ref (G.2.2.2.1 22)) S X2 (Nat.le_of_ble_eq_true rfl) rfl lk11_42_9 (fun _ => ⟨_, rfl, rfl⟩) dX11_man_153 ?_
      refine r_get (K := 22) (v := .ref (G.2.2.2.1 23)) S X2 (Nat.le_of_ble_eq_true rfl) rfl lk11_139_8 (fun _ => ⟨_, rfl, rfl⟩) dX11_man_156 ?_
      refine r_get (K := 4) (v := .ref (G.2.2.2.1 26)) S X2 (Nat.le_of_ble_eq_true rfl) rfl lk11_157_2 (fun _ => ⟨_, rfl, rfl⟩) dX11_man_159 ?_
      refine r_iload_n S dX11_man_162 rfl (lv_at hl 1 rfl) ?_
      refine r_aldn (n := 10) (K := 7) S X2 (Nat.le_of_ble_eq_true rfl) rfl (fun _ => rfl) (ix_of r12 rfl) dX11_man_163 (fun v60 z61 => ?_)
      have r62 : R (0) (1023) v60 := rd hI rfl z61
      exact r_xret S hr hlk X2 rfl rfl dX11_man_164
    ·
      refine lv_tableIn (tgt := 165) S.1.1 S.1.2.1 dX11_man_20 (by omega) (by omega) (by rw [c15]; rfl) (by decide) ?_
      have r63 : R (7) (7) a1 := ⟨by omega, by omega⟩
      refine r_aload_n S dX11_man_165 rfl (lv_at hl 0 rfl) ?_
      refine r_get (K := 0) (v := .ref (G.2.2.2.1 22)) S X2 (Nat.le_of_ble_eq_true rfl) rfl lk11_42_9 (fun _ => ⟨_, rfl, rfl⟩) dX11_man_166 ?_
      refine r_get (K := 22) (v := .ref (G.2.2.2.1 30)) S X2 (Nat.le_of_ble_eq_true rfl) rfl lk11_129_8 (fun _ => ⟨_, rfl, rfl⟩) dX11_man_169 ?_
      refine r_get (K := 23) (v := .ref (G.2.2.2.1 33)) S X2 (Nat.le_of_ble_eq_true rfl) rfl lk11_160_3 (fun _ => ⟨_, rfl, rfl⟩) dX11_man_172 ?_
      refine r_iload_n S dX11_man_175 rfl (lv_at hl 1 rfl) ?_
      refine r_aldn (n := 10) (K := 26) S X2 (Nat.le_of_ble_eq_true rfl) rfl (fun _ => rfl) (ix_of r12 rfl) dX11_man_176 (fun v64 z65 => ?_)
      have r66 : R (0) (511) v64 := rd hI rfl z65
      exact r_xret S hr hlk X2 rfl rfl dX11_man_177
  ·
    have r67 : R (0) (0) v4 := ⟨by omega, by omega⟩
    exact r_throw S hst hZ X2 hlk hT0 kw83 kw84 hl.1 dX11_man_11 dX11_man_14 dX11_man_15 dX11_man_18 (Nat.le_of_ble_eq_true rfl) (Nat.le_of_ble_eq_true rfl) (Nat.le_refl _) (Nat.le_refl _)
def po_X11_thinks (τ : Tau)  (a0 a1 : Int32)   (r : Int32) (u : Tau) : Prop := u = τ
set_option maxHeartbeats 4000000 in
set_option maxRecDepth 100000 in
theorem c_X11_thinks (l : Launch) (hst : l.stackTraces = false) (G : Gx) (τ : Tau) (hI : Inv τ) (a0 : Int32) (a1 : Int32) (h_a0 : R (-2147483648) (2147483647) a0) (h_a1 : R (-2147483648) (2147483647) a1) : Cx l G yX11_thinks cX11_thinks 3 (some .int) 6 100 [.ref (G.2.2.2.1 0), .int a0, .int a1] τ (po_X11_thinks τ  a0 a1  ) := by
  unfold Cx
  refine Cx_of (own := RX11) (by decide) rfl (Nat.le_of_ble_eq_true rfl) ?_
  intro p e s m below meth c ls S hr hlk hZ hT0 X hl
  have hl : lv_has ls 3 [(0, .ref (G.2.2.2.1 0)), (1, .int a0), (2, .int a1)] := hl
  refine r_aload_n S dX11_thinks_0 rfl (lv_at hl 0 rfl) ?_
  refine r_get (K := 0) (v := .ref (G.2.2.2.1 22)) S X (Nat.le_of_ble_eq_true rfl) rfl lk11_42_9 (fun _ => ⟨_, rfl, rfl⟩) dX11_thinks_1 ?_
  refine r_iload_n S dX11_thinks_4 rfl (lv_at hl 1 rfl) ?_
  refine r_ki (q_V (As := [.int a0]) (rest := []) (K := 22) (ci := 8) S X (c_X10_hasMan l G τ hI a0 h_a0) ck11_122 (Nat.le_of_ble_eq_true rfl) rfl (fun _ => ⟨_, rfl⟩) ⟨_, _, rfl⟩ ⟨Nat.le_of_ble_eq_true rfl, Nat.le_of_ble_eq_true rfl⟩ rfl hl.1 rfl (Nat.le_of_ble_eq_true rfl) dX11_thinks_5 ⟨Nat.zero_le _, Nat.zero_le _⟩) X (fun v4 t3 H lc q1 X2 => ?_)
  unfold po_X10_hasMan at q1
  obtain ⟨q5, q6, q7⟩ := q1
  rw [q5] at X2
  rw [q5] at q7
  refine r_if_eq (tgt := 22) S dX11_thinks_8 (by decide) (fun c8 => ?_) (fun c8 => ?_)
  ·
    have r9 : R (0) (0) v4 := ⟨by omega, by omega⟩
    exact r_throw S hst hZ X2 hlk hT0 kw83 kw84 hl.1 dX11_thinks_22 dX11_thinks_25 dX11_thinks_26 dX11_thinks_29 (Nat.le_of_ble_eq_true rfl) (Nat.le_of_ble_eq_true rfl) (Nat.le_refl _) (Nat.le_refl _)
  ·
    have r10 : R (1) (1) v4 := ⟨by omega, by omega⟩
    obtain ⟨p11, p12⟩ := q7 (by omega)
    have r13 : R (0) (9) a0 := ⟨by omega, by omega⟩
    obtain ⟨v14, z15⟩ : ∃ x, τ 23 3 = x := ⟨_, rfl⟩
    rw [z15] at p12
    refine r_aload_n S dX11_thinks_11 rfl (lv_at hl 0 rfl) ?_
    refine r_get (K := 0) (v := .ref (G.2.2.2.1 22)) S X2 (Nat.le_of_ble_eq_true rfl) rfl lk11_42_9 (fun _ => ⟨_, rfl, rfl⟩) dX11_thinks_12 ?_
    refine r_iload_n S dX11_thinks_15 rfl (lv_at hl 2 rfl) ?_
    refine r_ki (q_V (As := [.int a1]) (rest := []) (K := 22) (ci := 8) S X2 (c_X10_hasAsk l G τ hI a1 h_a1) ck11_163 (Nat.le_of_ble_eq_true rfl) rfl (fun _ => ⟨_, rfl⟩) ⟨_, _, rfl⟩ ⟨Nat.le_of_ble_eq_true rfl, Nat.le_of_ble_eq_true rfl⟩ rfl hl.1 rfl (Nat.le_of_ble_eq_true rfl) dX11_thinks_16 ⟨Nat.zero_le _, Nat.zero_le _⟩) X2 (fun v19 t18 H lc q16 X17 => ?_)
    unfold po_X10_hasAsk at q16
    obtain ⟨q20, q21, q22⟩ := q16
    rw [q20] at X17
    refine r_if_ne (tgt := 30) S dX11_thinks_19 (by decide) (fun c23 => ?_) (fun c23 => ?_)
    ·
      have r24 : R (1) (1) v19 := ⟨by omega, by omega⟩
      have p25 := q22 (by omega)
      have r26 : R (0) (8) a1 := ⟨by omega, by omega⟩
      refine r_aload_n S dX11_thinks_30 rfl (lv_at hl 0 rfl) ?_
      refine r_get (K := 0) (v := .ref (G.2.2.2.1 22)) S X17 (Nat.le_of_ble_eq_true rfl) rfl lk11_42_9 (fun _ => ⟨_, rfl, rfl⟩) dX11_thinks_31 ?_
      refine r_get (K := 22) (v := .ref (G.2.2.2.1 30)) S X17 (Nat.le_of_ble_eq_true rfl) rfl lk11_129_8 (fun _ => ⟨_, rfl, rfl⟩) dX11_thinks_34 ?_
      refine r_get (K := 23) (v := .ref (G.2.2.2.1 31)) S X17 (Nat.le_of_ble_eq_true rfl) rfl lk11_166_3 (fun _ => ⟨_, rfl, rfl⟩) dX11_thinks_37 ?_
      refine r_iload_n S dX11_thinks_40 rfl (lv_at hl 1 rfl) ?_
      refine r_bipush S dX11_thinks_41 (by decide) (fun v27 z28 => ?_)
      have r29 := R_eq z28
      refine r_imul S dX11_thinks_43 (fun v30 z31 => ?_)
      obtain ⟨e32, r33⟩ := i_mul (lo := 0) (hi := 81) z31 r13 r29 rfl rfl
      have e34 : v30.toInt = a0.toInt * 9 := by rw [e32, show v27.toInt = 9 by omega]
      refine r_iload_n S dX11_thinks_44 rfl (lv_at hl 2 rfl) ?_
      refine r_iadd S dX11_thinks_45 (fun v35 z36 => ?_)
      obtain ⟨e37, r38⟩ := i_add (lo := 0) (hi := 89) z36 r33 r26 rfl
      refine r_aldn (n := 90) (K := 24) S X17 (Nat.le_of_ble_eq_true rfl) rfl (fun _ => rfl) (ix_of r38 rfl) dX11_thinks_46 (fun v39 z40 => ?_)
      have r41 : R (-9) (9) v39 := rd hI rfl z40
      exact r_xret S hr hlk X17 rfl rfl dX11_thinks_47
    ·
      have r42 : R (0) (0) v19 := ⟨by omega, by omega⟩
      exact r_throw S hst hZ X17 hlk hT0 kw83 kw84 hl.1 dX11_thinks_22 dX11_thinks_25 dX11_thinks_26 dX11_thinks_29 (Nat.le_of_ble_eq_true rfl) (Nat.le_of_ble_eq_true rfl) (Nat.le_refl _) (Nat.le_refl _)
def po_X11_says (τ : Tau)  (a0 a1 : Int32)   (r : Int32) (u : Tau) : Prop := u = τ
set_option maxHeartbeats 4000000 in
set_option maxRecDepth 100000 in
theorem c_X11_says (l : Launch) (hst : l.stackTraces = false) (G : Gx) (τ : Tau) (hI : Inv τ) (a0 : Int32) (a1 : Int32) (h_a0 : R (-2147483648) (2147483647) a0) (h_a1 : R (-2147483648) (2147483647) a1) : Cx l G yX11_says cX11_says 3 (some .int) 6 100 [.ref (G.2.2.2.1 0), .int a0, .int a1] τ (po_X11_says τ  a0 a1  ) := by
  unfold Cx
  refine Cx_of (own := RX11) (by decide) rfl (Nat.le_of_ble_eq_true rfl) ?_
  intro p e s m below meth c ls S hr hlk hZ hT0 X hl
  have hl : lv_has ls 3 [(0, .ref (G.2.2.2.1 0)), (1, .int a0), (2, .int a1)] := hl
  refine r_aload_n S dX11_says_0 rfl (lv_at hl 0 rfl) ?_
  refine r_get (K := 0) (v := .ref (G.2.2.2.1 22)) S X (Nat.le_of_ble_eq_true rfl) rfl lk11_42_9 (fun _ => ⟨_, rfl, rfl⟩) dX11_says_1 ?_
  refine r_iload_n S dX11_says_4 rfl (lv_at hl 1 rfl) ?_
  refine r_ki (q_V (As := [.int a0]) (rest := []) (K := 22) (ci := 8) S X (c_X10_hasMan l G τ hI a0 h_a0) ck11_122 (Nat.le_of_ble_eq_true rfl) rfl (fun _ => ⟨_, rfl⟩) ⟨_, _, rfl⟩ ⟨Nat.le_of_ble_eq_true rfl, Nat.le_of_ble_eq_true rfl⟩ rfl hl.1 rfl (Nat.le_of_ble_eq_true rfl) dX11_says_5 ⟨Nat.zero_le _, Nat.zero_le _⟩) X (fun v4 t3 H lc q1 X2 => ?_)
  unfold po_X10_hasMan at q1
  obtain ⟨q5, q6, q7⟩ := q1
  rw [q5] at X2
  rw [q5] at q7
  refine r_if_eq (tgt := 22) S dX11_says_8 (by decide) (fun c8 => ?_) (fun c8 => ?_)
  ·
    have r9 : R (0) (0) v4 := ⟨by omega, by omega⟩
    exact r_throw S hst hZ X2 hlk hT0 kw83 kw84 hl.1 dX11_says_22 dX11_says_25 dX11_says_26 dX11_says_29 (Nat.le_of_ble_eq_true rfl) (Nat.le_of_ble_eq_true rfl) (Nat.le_refl _) (Nat.le_refl _)
  ·
    have r10 : R (1) (1) v4 := ⟨by omega, by omega⟩
    obtain ⟨p11, p12⟩ := q7 (by omega)
    have r13 : R (0) (9) a0 := ⟨by omega, by omega⟩
    obtain ⟨v14, z15⟩ : ∃ x, τ 23 3 = x := ⟨_, rfl⟩
    rw [z15] at p12
    refine r_aload_n S dX11_says_11 rfl (lv_at hl 0 rfl) ?_
    refine r_get (K := 0) (v := .ref (G.2.2.2.1 22)) S X2 (Nat.le_of_ble_eq_true rfl) rfl lk11_42_9 (fun _ => ⟨_, rfl, rfl⟩) dX11_says_12 ?_
    refine r_iload_n S dX11_says_15 rfl (lv_at hl 2 rfl) ?_
    refine r_ki (q_V (As := [.int a1]) (rest := []) (K := 22) (ci := 8) S X2 (c_X10_hasAsk l G τ hI a1 h_a1) ck11_163 (Nat.le_of_ble_eq_true rfl) rfl (fun _ => ⟨_, rfl⟩) ⟨_, _, rfl⟩ ⟨Nat.le_of_ble_eq_true rfl, Nat.le_of_ble_eq_true rfl⟩ rfl hl.1 rfl (Nat.le_of_ble_eq_true rfl) dX11_says_16 ⟨Nat.zero_le _, Nat.zero_le _⟩) X2 (fun v19 t18 H lc q16 X17 => ?_)
    unfold po_X10_hasAsk at q16
    obtain ⟨q20, q21, q22⟩ := q16
    rw [q20] at X17
    refine r_if_ne (tgt := 30) S dX11_says_19 (by decide) (fun c23 => ?_) (fun c23 => ?_)
    ·
      have r24 : R (1) (1) v19 := ⟨by omega, by omega⟩
      have p25 := q22 (by omega)
      have r26 : R (0) (8) a1 := ⟨by omega, by omega⟩
      refine r_aload_n S dX11_says_30 rfl (lv_at hl 0 rfl) ?_
      refine r_get (K := 0) (v := .ref (G.2.2.2.1 22)) S X17 (Nat.le_of_ble_eq_true rfl) rfl lk11_42_9 (fun _ => ⟨_, rfl, rfl⟩) dX11_says_31 ?_
      refine r_iload_n S dX11_says_34 rfl (lv_at hl 1 rfl) ?_
      refine r_iload_n S dX11_says_35 rfl (lv_at hl 2 rfl) ?_
      refine r_ki (q_V (As := [.int a0, .int a1]) (rest := []) (K := 22) (ci := 8) S X17 (c_X10_spoken l G τ hI a0 a1 r13 r26) ck11_169 (Nat.le_of_ble_eq_true rfl) rfl (fun _ => ⟨_, rfl⟩) ⟨_, _, rfl⟩ ⟨Nat.le_of_ble_eq_true rfl, Nat.le_of_ble_eq_true rfl⟩ rfl hl.1 rfl (Nat.le_of_ble_eq_true rfl) dX11_says_36 ⟨Nat.zero_le _, Nat.zero_le _⟩) X17 (fun v30 t29 H lc q27 X28 => ?_)
      unfold po_X10_spoken at q27
      obtain ⟨q31, q32⟩ := q27
      rw [q31] at X28
      exact r_xret S hr hlk X28 rfl rfl dX11_says_39
    ·
      have r33 : R (0) (0) v19 := ⟨by omega, by omega⟩
      exact r_throw S hst hZ X17 hlk hT0 kw83 kw84 hl.1 dX11_says_22 dX11_says_25 dX11_says_26 dX11_says_29 (Nat.le_of_ble_eq_true rfl) (Nat.le_of_ble_eq_true rfl) (Nat.le_refl _) (Nat.le_refl _)
def po_X11_sum (τ : Tau)  (a0 : Int32)   (r : Int32) (u : Tau) : Prop := u = τ
set_option maxHeartbeats 4000000 in
set_option maxRecDepth 100000 in
theorem c_X11_sum (l : Launch) (hst : l.stackTraces = false) (G : Gx) (τ : Tau) (hI : Inv τ) (a0 : Int32) (h_a0 : R (-2147483648) (2147483647) a0) (hWI : WI τ) : Cx l G yX11_sum cX11_sum 2 (some .int) 6 100 [.ref (G.2.2.2.1 0), .int a0] τ (po_X11_sum τ  a0  ) := by
  unfold Cx
  refine Cx_of (own := RX11) (by decide) rfl (Nat.le_of_ble_eq_true rfl) ?_
  intro p e s m below meth c ls S hr hlk hZ hT0 X hl
  have hl : lv_has ls 2 [(0, .ref (G.2.2.2.1 0)), (1, .int a0)] := hl
  refine r_aload_n S dX11_sum_0 rfl (lv_at hl 0 rfl) ?_
  refine r_iload_n S dX11_sum_1 rfl (lv_at hl 1 rfl) ?_
  refine r_ki (q_V (As := [.int a0]) (rest := []) (K := 0) (ci := 9) S X (c_X11_canSum l G τ hI a0 h_a0) ck11_210 (Nat.le_of_ble_eq_true rfl) rfl (fun _ => ⟨_, rfl⟩) ⟨_, _, rfl⟩ ⟨Nat.le_of_ble_eq_true rfl, Nat.le_of_ble_eq_true rfl⟩ rfl hl.1 rfl (Nat.le_of_ble_eq_true rfl) dX11_sum_2 ⟨Nat.zero_le _, Nat.zero_le _⟩) X (fun v4 t3 H lc q1 X2 => ?_)
  unfold po_X11_canSum at q1
  obtain ⟨q5, q6, q7⟩ := q1
  rw [q5] at X2
  rw [q5] at q7
  refine r_if_ne (tgt := 16) S dX11_sum_5 (by decide) (fun c8 => ?_) (fun c8 => ?_)
  ·
    have r9 : R (1) (1) v4 := ⟨by omega, by omega⟩
    obtain ⟨p10, p11⟩ := q7 (by omega)
    have r12 : R (0) (1023) a0 := ⟨by omega, by omega⟩
    obtain ⟨v13, z14⟩ : ∃ x, τ 23 2 = x := ⟨_, rfl⟩
    rw [z14] at p11
    refine r_aload_n S dX11_sum_16 rfl (lv_at hl 0 rfl) ?_
    refine r_get (K := 0) (v := .ref (G.2.2.2.1 22)) S X2 (Nat.le_of_ble_eq_true rfl) rfl lk11_42_9 (fun _ => ⟨_, rfl, rfl⟩) dX11_sum_17 ?_
    refine r_iload_n S dX11_sum_20 rfl (lv_at hl 1 rfl) ?_
    refine r_aload_n S dX11_sum_21 rfl (lv_at hl 0 rfl) ?_
    refine r_get (K := 0) (v := .ref (G.2.2.2.1 22)) S X2 (Nat.le_of_ble_eq_true rfl) rfl lk11_42_9 (fun _ => ⟨_, rfl, rfl⟩) dX11_sum_22 ?_
    refine r_get (K := 22) (v := .ref (G.2.2.2.1 30)) S X2 (Nat.le_of_ble_eq_true rfl) rfl lk11_129_8 (fun _ => ⟨_, rfl, rfl⟩) dX11_sum_25 ?_
    refine r_getn (K := 23) S X2 (Nat.le_of_ble_eq_true rfl) rfl lk11_175_3 (fun _ => ⟨_, rfl, rfl⟩) dX11_sum_28 (fun v15 z16 => ?_)
    have r17 : R (-1) (8) v15 := rd hI rfl z16
    have r18 : R 0 8 v15 := WI_r hWI z14 z16 (R_of p11 rfl) (R_of r17 rfl)
    refine r_ki (q_V (As := [.int a0, .int v15]) (rest := []) (K := 22) (ci := 8) S X2 (c_X10_together l G τ hI a0 v15 (R_of (lo := -2147483648) (hi := 2147483647) r12 rfl) r18) ck11_213 (Nat.le_of_ble_eq_true rfl) rfl (fun _ => ⟨_, rfl⟩) ⟨_, _, rfl⟩ ⟨Nat.le_of_ble_eq_true rfl, Nat.le_of_ble_eq_true rfl⟩ rfl hl.1 rfl (Nat.le_of_ble_eq_true rfl) dX11_sum_31 ⟨Nat.zero_le _, Nat.zero_le _⟩) X2 (fun v22 t21 H lc q19 X20 => ?_)
    unfold po_X10_together at q19
    have q23 := q19
    rw [q23] at X20
    have r24 := R_any v22
    exact r_xret S hr hlk X20 rfl rfl dX11_sum_34
  ·
    have r25 : R (0) (0) v4 := ⟨by omega, by omega⟩
    exact r_throw S hst hZ X2 hlk hT0 kw83 kw84 hl.1 dX11_sum_8 dX11_sum_11 dX11_sum_12 dX11_sum_15 (Nat.le_of_ble_eq_true rfl) (Nat.le_of_ble_eq_true rfl) (Nat.le_refl _) (Nat.le_refl _)
def po_X11_jokes (τ : Tau)  (a0 a1 : Int32)   (r : Int32) (u : Tau) : Prop := u = τ
set_option maxHeartbeats 4000000 in
set_option maxRecDepth 100000 in
theorem c_X11_jokes (l : Launch) (hst : l.stackTraces = false) (G : Gx) (τ : Tau) (hI : Inv τ) (a0 : Int32) (a1 : Int32) (h_a0 : R (-2147483648) (2147483647) a0) (h_a1 : R (-2147483648) (2147483647) a1) (hWI : WI τ) : Cx l G yX11_jokes cX11_jokes 7 (some .int) 6 100 [.ref (G.2.2.2.1 0), .int a0, .int a1] τ (po_X11_jokes τ  a0 a1  ) := by
  unfold Cx
  refine Cx_of (own := RX11) (by decide) rfl (Nat.le_of_ble_eq_true rfl) ?_
  intro p e s m below meth c ls S hr hlk hZ hT0 X hl
  have hl : lv_has ls 7 [(0, .ref (G.2.2.2.1 0)), (1, .int a0), (2, .int a1)] := hl
  refine r_aload_n S dX11_jokes_0 rfl (lv_at hl 0 rfl) ?_
  refine r_iload_n S dX11_jokes_1 rfl (lv_at hl 1 rfl) ?_
  refine r_ki (q_V (As := [.int a0]) (rest := []) (K := 0) (ci := 9) S X (c_X11_canSum l G τ hI a0 h_a0) ck11_210 (Nat.le_of_ble_eq_true rfl) rfl (fun _ => ⟨_, rfl⟩) ⟨_, _, rfl⟩ ⟨Nat.le_of_ble_eq_true rfl, Nat.le_of_ble_eq_true rfl⟩ rfl hl.1 rfl (Nat.le_of_ble_eq_true rfl) dX11_jokes_2 ⟨Nat.zero_le _, Nat.zero_le _⟩) X (fun v4 t3 H lc q1 X2 => ?_)
  unfold po_X11_canSum at q1
  obtain ⟨q5, q6, q7⟩ := q1
  rw [q5] at X2
  rw [q5] at q7
  refine r_if_eq (tgt := 17) S dX11_jokes_5 (by decide) (fun c8 => ?_) (fun c8 => ?_)
  ·
    have r9 : R (0) (0) v4 := ⟨by omega, by omega⟩
    exact r_throw S hst hZ X2 hlk hT0 kw83 kw84 hl.1 dX11_jokes_17 dX11_jokes_20 dX11_jokes_21 dX11_jokes_24 (Nat.le_of_ble_eq_true rfl) (Nat.le_of_ble_eq_true rfl) (Nat.le_refl _) (Nat.le_refl _)
  ·
    have r10 : R (1) (1) v4 := ⟨by omega, by omega⟩
    obtain ⟨p11, p12⟩ := q7 (by omega)
    have r13 : R (0) (1023) a0 := ⟨by omega, by omega⟩
    obtain ⟨v14, z15⟩ : ∃ x, τ 23 2 = x := ⟨_, rfl⟩
    rw [z15] at p12
    refine r_iload_n S dX11_jokes_8 rfl (lv_at hl 2 rfl) ?_
    refine r_if_lt (tgt := 17) S dX11_jokes_9 (by decide) (fun c16 => ?_) (fun c16 => ?_)
    ·
      have r17 : R (-2147483648) (-1) a1 := ⟨by omega, by omega⟩
      exact r_throw S hst hZ X2 hlk hT0 kw83 kw84 hl.1 dX11_jokes_17 dX11_jokes_20 dX11_jokes_21 dX11_jokes_24 (Nat.le_of_ble_eq_true rfl) (Nat.le_of_ble_eq_true rfl) (Nat.le_refl _) (Nat.le_refl _)
    ·
      have r18 : R (0) (2147483647) a1 := ⟨by omega, by omega⟩
      refine r_iload_n S dX11_jokes_12 rfl (lv_at hl 2 rfl) ?_
      refine r_iconst S dX11_jokes_13 (by decide) (fun v19 z20 => ?_)
      have r21 := R_eq z20
      refine r_icmp_le (tgt := 25) S dX11_jokes_14 (by decide) (fun c22 => ?_) (fun c22 => ?_)
      ·
        have r23 : R (0) (1) a1 := ⟨by omega, by omega⟩
        refine r_iload_n S dX11_jokes_25 rfl (lv_at hl 1 rfl) ?_
        refine r_aload_n S dX11_jokes_26 rfl (lv_at hl 0 rfl) ?_
        refine r_get (K := 0) (v := .ref (G.2.2.2.1 22)) S X2 (Nat.le_of_ble_eq_true rfl) rfl lk11_42_9 (fun _ => ⟨_, rfl, rfl⟩) dX11_jokes_27 ?_
        refine r_get (K := 22) (v := .ref (G.2.2.2.1 30)) S X2 (Nat.le_of_ble_eq_true rfl) rfl lk11_129_8 (fun _ => ⟨_, rfl, rfl⟩) dX11_jokes_30 ?_
        refine r_getn (K := 23) S X2 (Nat.le_of_ble_eq_true rfl) rfl lk11_145_3 (fun _ => ⟨_, rfl, rfl⟩) dX11_jokes_33 (fun v24 z25 => ?_)
        have r26 : R (0) (1023) v24 := rd hI rfl z25
        refine r_iconst S dX11_jokes_36 (by decide) (fun v27 z28 => ?_)
        have r29 := R_eq z28
        refine r_ixor S dX11_jokes_37 (fun v30 z31 => ?_)
        have r32 := R_any v30
        refine r_iand S dX11_jokes_38 (fun v33 z34 => ?_)
        have r36 : R (0) (1023) v33 := i_and1 z34 r13 r32 rfl
        have e37 := i_andle z34 r13 rfl
        refine r_ki (q_S (As := [.int v33]) (rest := []) S X2 (c_J6_bitCount_0f7a4 l G τ hI v33 (R_of (lo := -2147483648) (hi := 2147483647) r36 rfl)) ck11_223 ⟨Nat.le_of_ble_eq_true rfl, Nat.le_of_ble_eq_true rfl⟩ rfl hl.1 rfl (Nat.le_of_ble_eq_true rfl) dX11_jokes_39 ⟨Nat.zero_le _, Nat.zero_le _⟩) X2 (fun v41 t40 H lc q38 X39 => ?_)
        unfold po_J6_bitCount_0f7a4 at q38
        obtain ⟨q42, q43⟩ := q38
        rw [q42] at X39
        refine r_istore_n (lv' := [(3, .int v41), (0, .ref (G.2.2.2.1 0)), (1, .int a0), (2, .int a1)]) S dX11_jokes_42 rfl hl (by decide) rfl (fun ls hl => ?_)
        refine r_aload_n S dX11_jokes_43 rfl (lv_at hl 1 rfl) ?_
        refine r_iload_n S dX11_jokes_44 rfl (lv_at hl 0 rfl) ?_
        refine r_aload_n S dX11_jokes_45 rfl (lv_at hl 1 rfl) ?_
        refine r_get (K := 0) (v := .ref (G.2.2.2.1 22)) S X39 (Nat.le_of_ble_eq_true rfl) rfl lk11_42_9 (fun _ => ⟨_, rfl, rfl⟩) dX11_jokes_46 ?_
        refine r_iload_n S dX11_jokes_49 rfl (lv_at hl 2 rfl) ?_
        refine r_aload_n S dX11_jokes_50 rfl (lv_at hl 1 rfl) ?_
        refine r_get (K := 0) (v := .ref (G.2.2.2.1 22)) S X39 (Nat.le_of_ble_eq_true rfl) rfl lk11_42_9 (fun _ => ⟨_, rfl, rfl⟩) dX11_jokes_51 ?_
        refine r_get (K := 22) (v := .ref (G.2.2.2.1 30)) S X39 (Nat.le_of_ble_eq_true rfl) rfl lk11_129_8 (fun _ => ⟨_, rfl, rfl⟩) dX11_jokes_54 ?_
        refine r_getn (K := 23) S X39 (Nat.le_of_ble_eq_true rfl) rfl lk11_175_3 (fun _ => ⟨_, rfl, rfl⟩) dX11_jokes_57 (fun v44 z45 => ?_)
        have r46 : R (-1) (8) v44 := rd hI rfl z45
        have r47 : R 0 8 v44 := WI_r hWI z15 z45 (R_of p12 rfl) (R_of r46 rfl)
        refine r_ki (q_V (As := [.int a0, .int v44]) (rest := [.int v41, .ref (G.2.2.2.1 0)]) (K := 22) (ci := 8) S X39 (c_X10_together l G τ hI a0 v44 (R_of (lo := -2147483648) (hi := 2147483647) r13 rfl) r47) ck11_213 (Nat.le_of_ble_eq_true rfl) rfl (fun _ => ⟨_, rfl⟩) ⟨_, _, rfl⟩ ⟨Nat.le_of_ble_eq_true rfl, Nat.le_of_ble_eq_true rfl⟩ rfl hl.1 rfl (Nat.le_of_ble_eq_true rfl) dX11_jokes_60 ⟨Nat.zero_le _, Nat.zero_le _⟩) X39 (fun v51 t50 H lc q48 X49 => ?_)
        unfold po_X10_together at q48
        have q52 := q48
        rw [q52] at X49
        have r53 := R_any v51
        refine r_ki (q_V (As := [.int v41, .int v51]) (rest := []) (K := 0) (ci := 9) S X49 (c_X11_waysToBalance l G τ hI v41 v51 q43 r53) ck11_260 (Nat.le_of_ble_eq_true rfl) rfl (fun _ => ⟨_, rfl⟩) ⟨_, _, rfl⟩ ⟨Nat.le_of_ble_eq_true rfl, Nat.le_of_ble_eq_true rfl⟩ rfl hl.1 rfl (Nat.le_of_ble_eq_true rfl) dX11_jokes_63 ⟨Nat.zero_le _, Nat.zero_le _⟩) X49 (fun v57 t56 H lc q54 X55 => ?_)
        unfold po_X11_waysToBalance at q54
        have q58 := q54
        rw [q58] at X55
        have r59 := R_any v57
        refine r_istore (lv' := [(4, .int v57), (3, .int v41), (0, .ref (G.2.2.2.1 0)), (1, .int a0), (2, .int a1)]) S dX11_jokes_66 hl (by decide) rfl (fun ls hl => ?_)
        refine r_iconst S dX11_jokes_68 (by decide) (fun v60 z61 => ?_)
        have r62 := R_eq z61
        refine r_iconst S dX11_jokes_69 (by decide) (fun v63 z64 => ?_)
        have r65 := R_eq z64
        refine r_iload_n S dX11_jokes_70 rfl (lv_at hl 1 rfl) ?_
        refine r_imul S dX11_jokes_71 (fun v66 z67 => ?_)
        obtain ⟨e68, r69⟩ := i_mul (lo := 0) (hi := 126) z67 r65 q43 rfl rfl
        have e70 : v66.toInt = 2 * v41.toInt := by rw [e68, show v63.toInt = 2 by omega]
        refine r_ishl S dX11_jokes_72 (fun v71 z72 => ?_)
        have r73 := R_any v71
        refine r_istore (lv' := [(5, .int v71), (4, .int v57), (3, .int v41), (0, .ref (G.2.2.2.1 0)), (1, .int a0), (2, .int a1)]) S dX11_jokes_73 hl (by decide) rfl (fun ls hl => ?_)
        refine r_iconst S dX11_jokes_75 (by decide) (fun v74 z75 => ?_)
        have r76 := R_eq z75
        refine r_istore (lv' := [(6, .int v74), (5, .int v71), (4, .int v57), (3, .int v41), (0, .ref (G.2.2.2.1 0)), (1, .int a0), (2, .int a1)]) S dX11_jokes_76 hl (by decide) rfl (fun ls hl => ?_)
        have L1003 : ∀ (n : Nat) (H : Heap) (lc : List Loc) (ls : Array Slot) (i996 : Int32) (i998 : Int32) (i1000 : Int32), Xd G s H lc τ → R (-2147483648) (2147483647) i996 → R (-2147483648) (2147483647) i998 → R (0) (160) i1000 → lv_has ls 7 [(2, .int a1), (3, .int v41), (4, .int i996), (5, .int i998), (6, .int i1000)] → (160 - i1000.toInt).toNat < n → W p l e (Rx 6 100) s m ([.ref (G.2.2.2.1 0), .int a0, .int a1] : List Value).toArray below meth c H lc 0 0 (vx_MQ below (va_Qi (po_X11_jokes τ  a0 a1  ) (Bs G) G.2.2.2.2) (XP G τ) ([.ref (G.2.2.2.1 0), .int a0, .int a1] : List Value).toArray s 1 6 G.2.2.2.2) (F0 m 78 ls []) := by
          intro n
          induction n with
          | zero => intros; omega
          | succ n ih1004 =>
            intro H lc ls i996 i998 i1000 X1002 r997 r999 r1001 hl hm
            refine r_iload S dX11_jokes_78 (lv_at hl 4 rfl) ?_
            refine r_iconst S dX11_jokes_80 (by decide) (fun v1005 z1006 => ?_)
            have r1007 := R_eq z1006
            refine r_iload_n S dX11_jokes_81 rfl (lv_at hl 1 rfl) ?_
            refine r_imul S dX11_jokes_82 (fun v1008 z1009 => ?_)
            obtain ⟨e1010, r1011⟩ := i_mul (lo := 0) (hi := 126) z1009 r1007 q43 rfl rfl
            have e1012 : v1008.toInt = 2 * v41.toInt := by rw [e1010, show v1005.toInt = 2 by omega]
            refine r_icmp_ge (tgt := 111) S dX11_jokes_83 (by decide) (fun c1013 => ?_) (fun c1013 => ?_)
            ·
              refine r_iload_n S dX11_jokes_111 rfl (lv_at hl 0 rfl) ?_
              refine r_if_ne (tgt := 120) S dX11_jokes_112 (by decide) (fun c1014 => ?_) (fun c1014 => ?_)
              ·
                have r1015 : R (1) (1) a1 := ⟨by omega, by omega⟩
                refine r_iload S dX11_jokes_120 (lv_at hl 3 rfl) ?_
                exact r_xret S hr hlk X1002 rfl rfl dX11_jokes_122
              ·
                have r1016 : R (0) (0) a1 := ⟨by omega, by omega⟩
                refine r_iload S dX11_jokes_115 (lv_at hl 2 rfl) ?_
                refine r_goto (tgt := 122) S dX11_jokes_117 (by decide) ?_
                exact r_xret S hr hlk X1002 rfl rfl dX11_jokes_122
            ·
              have r1017 : R (0) (125) i1000 := ⟨by omega, by omega⟩
              have r1018 : R (1) (126) v1008 := ⟨by omega, by omega⟩
              have r1019 : R (1) (63) v41 := ⟨by omega, by omega⟩
              refine r_iload S dX11_jokes_86 (lv_at hl 2 rfl) ?_
              refine r_iconst S dX11_jokes_88 (by decide) (fun v1020 z1021 => ?_)
              have r1022 := R_eq z1021
              refine r_irem S dX11_jokes_89 (by omega) (fun v1023 z1024 => ?_)
              have r1025 := R_any v1023
              refine r_if_ne (tgt := 111) S dX11_jokes_90 (by decide) (fun c1026 => ?_) (fun c1026 => ?_)
              ·
                refine r_iload_n S dX11_jokes_111 rfl (lv_at hl 0 rfl) ?_
                refine r_if_ne (tgt := 120) S dX11_jokes_112 (by decide) (fun c1027 => ?_) (fun c1027 => ?_)
                ·
                  have r1028 : R (1) (1) a1 := ⟨by omega, by omega⟩
                  refine r_iload S dX11_jokes_120 (lv_at hl 3 rfl) ?_
                  exact r_xret S hr hlk X1002 rfl rfl dX11_jokes_122
                ·
                  have r1029 : R (0) (0) a1 := ⟨by omega, by omega⟩
                  refine r_iload S dX11_jokes_115 (lv_at hl 2 rfl) ?_
                  refine r_goto (tgt := 122) S dX11_jokes_117 (by decide) ?_
                  exact r_xret S hr hlk X1002 rfl rfl dX11_jokes_122
              ·
                have r1030 : R (0) (0) v1023 := ⟨by omega, by omega⟩
                refine r_iload S dX11_jokes_93 (lv_at hl 2 rfl) ?_
                refine r_iconst S dX11_jokes_95 (by decide) (fun v1031 z1032 => ?_)
                have r1033 := R_eq z1032
                refine r_idiv S dX11_jokes_96 (by omega) (fun v1034 z1035 => ?_)
                have r1036 := R_any v1034
                refine r_istore (lv' := [(4, .int v1034), (2, .int a1), (3, .int v41), (5, .int i998), (6, .int i1000)]) S dX11_jokes_97 hl (by decide) rfl (fun ls hl => ?_)
                refine r_iload S dX11_jokes_99 (lv_at hl 3 rfl) ?_
                refine r_iconst S dX11_jokes_101 (by decide) (fun v1037 z1038 => ?_)
                have r1039 := R_eq z1038
                refine r_idiv S dX11_jokes_102 (by omega) (fun v1040 z1041 => ?_)
                have r1042 := R_any v1040
                refine r_istore (lv' := [(5, .int v1040), (4, .int v1034), (2, .int a1), (3, .int v41), (6, .int i1000)]) S dX11_jokes_103 hl (by decide) rfl (fun ls hl => ?_)
                refine r_iinc (k := 4) S dX11_jokes_105 hl rfl (by decide) (by decide) (fun v1043 d1044 ls z1045 z1046 hl => ?_)
                obtain ⟨e1047, r1048⟩ := i_add (lo := 1) (hi := 126) z1045 r1017 (R_eq z1046) rfl
                have hl : lv_has ls 7 [(6, .int v1043), (5, .int v1040), (4, .int v1034), (2, .int a1), (3, .int v41)] := hl
                refine r_goto (tgt := 78) S dX11_jokes_108 (by decide) ?_
                exact ih1004 _ _ _ v1034 v1040 v1043 X1002 r1036 r1042 (R_of r1048 rfl) (lv_sub hl [3, 4, 2, 1, 0] rfl) (by omega)
        exact L1003 _ _ _ _ v57 v71 v74 X55 r59 r73 (R_of r76 rfl) (lv_sub hl [6, 3, 2, 1, 0] rfl) (Nat.lt_succ_self _)
      ·
        have r1049 : R (2) (2147483647) a1 := ⟨by omega, by omega⟩
        exact r_throw S hst hZ X2 hlk hT0 kw83 kw84 hl.1 dX11_jokes_17 dX11_jokes_20 dX11_jokes_21 dX11_jokes_24 (Nat.le_of_ble_eq_true rfl) (Nat.le_of_ble_eq_true rfl) (Nat.le_refl _) (Nat.le_refl _)
