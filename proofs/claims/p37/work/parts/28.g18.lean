def po_X12_leafOf (τ : Tau)     (r : Int32) (u : Tau) : Prop := u = τ ∧ R (-1) (9) r ∧ (0 ≤ r.toInt → R (1) (1) (u 131 11))
set_option maxHeartbeats 4000000 in
set_option maxRecDepth 100000 in
theorem c_X12_leafOf (l : Launch) (G : Gx) (τ : Tau) (hI : Inv τ) : Ci l G yX12_leafOf cX12_leafOf 1 (some .int) 1 22 [.ref (G.2.2.2.1 131)] τ (po_X12_leafOf τ    ) := by
  unfold Ci
  refine C_of (own := RX12) (by decide) rfl (Nat.le_of_ble_eq_true rfl) ?_
  intro p e s m below meth c ls S hr hlk X hl
  have hl : lv_has ls 1 [(0, .ref (G.2.2.2.1 131))] := hl
  obtain ⟨v1, z2⟩ : ∃ x, τ 131 11 = x := ⟨_, rfl⟩
  have r3 : R (0) (4) v1 := rd hI rfl z2
  refine r_aload_n S dX12_leafOf_0 rfl (lv_at hl 0 rfl) ?_
  refine lv_ldc2 S.1.1 S.1.2.1 S.1.2.2.2.1 (S.1.2.2.2.2 _ kw41) dX12_leafOf_1 ?_
  refine lv_topl (fun j4 z5 => ?_)
  refine r_ki (q_V (As := [.long j4]) (rest := []) (K := 38) (ci := 10) S X (c_X12_isWord l G τ hI j4) ck12_208 (Nat.le_of_ble_eq_true rfl) rfl (fun _ => ⟨_, rfl⟩) ⟨_, _, rfl⟩ ⟨Nat.le_of_ble_eq_true rfl, Nat.le_of_ble_eq_true rfl⟩ rfl hl.1 rfl (Nat.le_of_ble_eq_true rfl) dX12_leafOf_4 ⟨Nat.le_refl 0, Nat.le_refl 0⟩) X (fun v9 t8 H lc q6 X7 => ?_)
  unfold po_X12_isWord at q6
  obtain ⟨q10, q11, q12⟩ := q6
  rw [q10] at X7
  rw [q10] at q12
  refine r_if_eq (tgt := 14) S dX12_leafOf_7 (by decide) (fun c13 => ?_) (fun c13 => ?_)
  ·
    have r14 : R (0) (0) v9 := ⟨by omega, by omega⟩
    refine r_aload_n S dX12_leafOf_14 rfl (lv_at hl 0 rfl) ?_
    refine lv_ldc2 S.1.1 S.1.2.1 S.1.2.2.2.1 (S.1.2.2.2.2 _ kw42) dX12_leafOf_15 ?_
    refine lv_topl (fun j15 z16 => ?_)
    refine r_ki (q_V (As := [.long j15]) (rest := []) (K := 38) (ci := 10) S X7 (c_X12_isWord l G τ hI j15) ck12_208 (Nat.le_of_ble_eq_true rfl) rfl (fun _ => ⟨_, rfl⟩) ⟨_, _, rfl⟩ ⟨Nat.le_of_ble_eq_true rfl, Nat.le_of_ble_eq_true rfl⟩ rfl hl.1 rfl (Nat.le_of_ble_eq_true rfl) dX12_leafOf_18 ⟨Nat.le_refl 0, Nat.le_refl 0⟩) X7 (fun v20 t19 H lc q17 X18 => ?_)
    unfold po_X12_isWord at q17
    obtain ⟨q21, q22, q23⟩ := q17
    rw [q21] at X18
    rw [q21] at q23
    refine r_if_eq (tgt := 28) S dX12_leafOf_21 (by decide) (fun c24 => ?_) (fun c24 => ?_)
    ·
      have r25 : R (0) (0) v20 := ⟨by omega, by omega⟩
      refine r_aload_n S dX12_leafOf_28 rfl (lv_at hl 0 rfl) ?_
      refine lv_ldc2 S.1.1 S.1.2.1 S.1.2.2.2.1 (S.1.2.2.2.2 _ kw43) dX12_leafOf_29 ?_
      refine lv_topl (fun j26 z27 => ?_)
      refine r_ki (q_V (As := [.long j26]) (rest := []) (K := 38) (ci := 10) S X18 (c_X12_isWord l G τ hI j26) ck12_208 (Nat.le_of_ble_eq_true rfl) rfl (fun _ => ⟨_, rfl⟩) ⟨_, _, rfl⟩ ⟨Nat.le_of_ble_eq_true rfl, Nat.le_of_ble_eq_true rfl⟩ rfl hl.1 rfl (Nat.le_of_ble_eq_true rfl) dX12_leafOf_32 ⟨Nat.le_refl 0, Nat.le_refl 0⟩) X18 (fun v31 t30 H lc q28 X29 => ?_)
      unfold po_X12_isWord at q28
      obtain ⟨q32, q33, q34⟩ := q28
      rw [q32] at X29
      rw [q32] at q34
      refine r_if_eq (tgt := 42) S dX12_leafOf_35 (by decide) (fun c35 => ?_) (fun c35 => ?_)
      ·
        have r36 : R (0) (0) v31 := ⟨by omega, by omega⟩
        refine r_aload_n S dX12_leafOf_42 rfl (lv_at hl 0 rfl) ?_
        refine lv_ldc2 S.1.1 S.1.2.1 S.1.2.2.2.1 (S.1.2.2.2.2 _ kw44) dX12_leafOf_43 ?_
        refine lv_topl (fun j37 z38 => ?_)
        refine r_ki (q_V (As := [.long j37]) (rest := []) (K := 38) (ci := 10) S X29 (c_X12_isWord l G τ hI j37) ck12_208 (Nat.le_of_ble_eq_true rfl) rfl (fun _ => ⟨_, rfl⟩) ⟨_, _, rfl⟩ ⟨Nat.le_of_ble_eq_true rfl, Nat.le_of_ble_eq_true rfl⟩ rfl hl.1 rfl (Nat.le_of_ble_eq_true rfl) dX12_leafOf_46 ⟨Nat.le_refl 0, Nat.le_refl 0⟩) X29 (fun v42 t41 H lc q39 X40 => ?_)
        unfold po_X12_isWord at q39
        obtain ⟨q43, q44, q45⟩ := q39
        rw [q43] at X40
        rw [q43] at q45
        refine r_if_eq (tgt := 56) S dX12_leafOf_49 (by decide) (fun c46 => ?_) (fun c46 => ?_)
        ·
          have r47 : R (0) (0) v42 := ⟨by omega, by omega⟩
          refine r_aload_n S dX12_leafOf_56 rfl (lv_at hl 0 rfl) ?_
          refine lv_ldc2 S.1.1 S.1.2.1 S.1.2.2.2.1 (S.1.2.2.2.2 _ kw28) dX12_leafOf_57 ?_
          refine lv_topl (fun j48 z49 => ?_)
          refine r_ki (q_V (As := [.long j48]) (rest := []) (K := 38) (ci := 10) S X40 (c_X12_isWord l G τ hI j48) ck12_208 (Nat.le_of_ble_eq_true rfl) rfl (fun _ => ⟨_, rfl⟩) ⟨_, _, rfl⟩ ⟨Nat.le_of_ble_eq_true rfl, Nat.le_of_ble_eq_true rfl⟩ rfl hl.1 rfl (Nat.le_of_ble_eq_true rfl) dX12_leafOf_60 ⟨Nat.le_refl 0, Nat.le_refl 0⟩) X40 (fun v53 t52 H lc q50 X51 => ?_)
          unfold po_X12_isWord at q50
          obtain ⟨q54, q55, q56⟩ := q50
          rw [q54] at X51
          rw [q54] at q56
          refine r_if_eq (tgt := 70) S dX12_leafOf_63 (by decide) (fun c57 => ?_) (fun c57 => ?_)
          ·
            have r58 : R (0) (0) v53 := ⟨by omega, by omega⟩
            refine r_aload_n S dX12_leafOf_70 rfl (lv_at hl 0 rfl) ?_
            refine lv_ldc2 S.1.1 S.1.2.1 S.1.2.2.2.1 (S.1.2.2.2.2 _ kw27) dX12_leafOf_71 ?_
            refine lv_topl (fun j59 z60 => ?_)
            refine r_ki (q_V (As := [.long j59]) (rest := []) (K := 38) (ci := 10) S X51 (c_X12_isWord l G τ hI j59) ck12_208 (Nat.le_of_ble_eq_true rfl) rfl (fun _ => ⟨_, rfl⟩) ⟨_, _, rfl⟩ ⟨Nat.le_of_ble_eq_true rfl, Nat.le_of_ble_eq_true rfl⟩ rfl hl.1 rfl (Nat.le_of_ble_eq_true rfl) dX12_leafOf_74 ⟨Nat.le_refl 0, Nat.le_refl 0⟩) X51 (fun v64 t63 H lc q61 X62 => ?_)
            unfold po_X12_isWord at q61
            obtain ⟨q65, q66, q67⟩ := q61
            rw [q65] at X62
            rw [q65] at q67
            refine r_if_eq (tgt := 84) S dX12_leafOf_77 (by decide) (fun c68 => ?_) (fun c68 => ?_)
            ·
              have r69 : R (0) (0) v64 := ⟨by omega, by omega⟩
              refine r_aload_n S dX12_leafOf_84 rfl (lv_at hl 0 rfl) ?_
              refine lv_ldc2 S.1.1 S.1.2.1 S.1.2.2.2.1 (S.1.2.2.2.2 _ kw45) dX12_leafOf_85 ?_
              refine lv_topl (fun j70 z71 => ?_)
              refine r_ki (q_V (As := [.long j70]) (rest := []) (K := 38) (ci := 10) S X62 (c_X12_isWord l G τ hI j70) ck12_208 (Nat.le_of_ble_eq_true rfl) rfl (fun _ => ⟨_, rfl⟩) ⟨_, _, rfl⟩ ⟨Nat.le_of_ble_eq_true rfl, Nat.le_of_ble_eq_true rfl⟩ rfl hl.1 rfl (Nat.le_of_ble_eq_true rfl) dX12_leafOf_88 ⟨Nat.le_refl 0, Nat.le_refl 0⟩) X62 (fun v75 t74 H lc q72 X73 => ?_)
              unfold po_X12_isWord at q72
              obtain ⟨q76, q77, q78⟩ := q72
              rw [q76] at X73
              rw [q76] at q78
              refine r_if_eq (tgt := 99) S dX12_leafOf_91 (by decide) (fun c79 => ?_) (fun c79 => ?_)
              ·
                have r80 : R (0) (0) v75 := ⟨by omega, by omega⟩
                refine r_aload_n S dX12_leafOf_99 rfl (lv_at hl 0 rfl) ?_
                refine lv_ldc2 S.1.1 S.1.2.1 S.1.2.2.2.1 (S.1.2.2.2.2 _ kw46) dX12_leafOf_100 ?_
                refine lv_topl (fun j81 z82 => ?_)
                refine r_ki (q_V (As := [.long j81]) (rest := []) (K := 38) (ci := 10) S X73 (c_X12_isWord l G τ hI j81) ck12_208 (Nat.le_of_ble_eq_true rfl) rfl (fun _ => ⟨_, rfl⟩) ⟨_, _, rfl⟩ ⟨Nat.le_of_ble_eq_true rfl, Nat.le_of_ble_eq_true rfl⟩ rfl hl.1 rfl (Nat.le_of_ble_eq_true rfl) dX12_leafOf_103 ⟨Nat.le_refl 0, Nat.le_refl 0⟩) X73 (fun v86 t85 H lc q83 X84 => ?_)
                unfold po_X12_isWord at q83
                obtain ⟨q87, q88, q89⟩ := q83
                rw [q87] at X84
                rw [q87] at q89
                refine r_if_eq (tgt := 114) S dX12_leafOf_106 (by decide) (fun c90 => ?_) (fun c90 => ?_)
                ·
                  have r91 : R (0) (0) v86 := ⟨by omega, by omega⟩
                  refine r_aload_n S dX12_leafOf_114 rfl (lv_at hl 0 rfl) ?_
                  refine lv_ldc2 S.1.1 S.1.2.1 S.1.2.2.2.1 (S.1.2.2.2.2 _ kw47) dX12_leafOf_115 ?_
                  refine lv_topl (fun j92 z93 => ?_)
                  refine r_ki (q_V (As := [.long j92]) (rest := []) (K := 38) (ci := 10) S X84 (c_X12_isWord l G τ hI j92) ck12_208 (Nat.le_of_ble_eq_true rfl) rfl (fun _ => ⟨_, rfl⟩) ⟨_, _, rfl⟩ ⟨Nat.le_of_ble_eq_true rfl, Nat.le_of_ble_eq_true rfl⟩ rfl hl.1 rfl (Nat.le_of_ble_eq_true rfl) dX12_leafOf_118 ⟨Nat.le_refl 0, Nat.le_refl 0⟩) X84 (fun v97 t96 H lc q94 X95 => ?_)
                  unfold po_X12_isWord at q94
                  obtain ⟨q98, q99, q100⟩ := q94
                  rw [q98] at X95
                  rw [q98] at q100
                  refine r_if_eq (tgt := 129) S dX12_leafOf_121 (by decide) (fun c101 => ?_) (fun c101 => ?_)
                  ·
                    have r102 : R (0) (0) v97 := ⟨by omega, by omega⟩
                    refine r_aload_n S dX12_leafOf_129 rfl (lv_at hl 0 rfl) ?_
                    refine lv_ldc2 S.1.1 S.1.2.1 S.1.2.2.2.1 (S.1.2.2.2.2 _ kw48) dX12_leafOf_130 ?_
                    refine lv_topl (fun j103 z104 => ?_)
                    refine r_ki (q_V (As := [.long j103]) (rest := []) (K := 38) (ci := 10) S X95 (c_X12_isWord l G τ hI j103) ck12_208 (Nat.le_of_ble_eq_true rfl) rfl (fun _ => ⟨_, rfl⟩) ⟨_, _, rfl⟩ ⟨Nat.le_of_ble_eq_true rfl, Nat.le_of_ble_eq_true rfl⟩ rfl hl.1 rfl (Nat.le_of_ble_eq_true rfl) dX12_leafOf_133 ⟨Nat.le_refl 0, Nat.le_refl 0⟩) X95 (fun v108 t107 H lc q105 X106 => ?_)
                    unfold po_X12_isWord at q105
                    obtain ⟨q109, q110, q111⟩ := q105
                    rw [q109] at X106
                    rw [q109] at q111
                    refine r_if_eq (tgt := 144) S dX12_leafOf_136 (by decide) (fun c112 => ?_) (fun c112 => ?_)
                    ·
                      have r113 : R (0) (0) v108 := ⟨by omega, by omega⟩
                      refine r_iconst S dX12_leafOf_144 (by decide) (fun v114 z115 => ?_)
                      have r116 := R_eq z115
                      exact r_ret S hr hlk X106 ⟨rfl, (R_of r116 rfl), (fun h => by exfalso; omega)⟩ rfl dX12_leafOf_145
                    ·
                      have r117 : R (1) (1) v108 := ⟨by omega, by omega⟩
                      have p118 := q111 (by omega)
                      have r119 : R (1) (1) v1 := z2 ▸ p118
                      have r120 : R (1) (1) v1 := ⟨by omega, by omega⟩
                      refine r_bipush S dX12_leafOf_139 (by decide) (fun v121 z122 => ?_)
                      have r123 := R_eq z122
                      refine r_goto (tgt := 145) S dX12_leafOf_141 (by decide) ?_
                      exact r_ret S hr hlk X106 ⟨rfl, (R_of r123 rfl), (fun h => (by rw [z2]; exact R_of r120 rfl))⟩ rfl dX12_leafOf_145
                  ·
                    have r124 : R (1) (1) v97 := ⟨by omega, by omega⟩
                    have p125 := q100 (by omega)
                    have r126 : R (1) (1) v1 := z2 ▸ p125
                    have r127 : R (1) (1) v1 := ⟨by omega, by omega⟩
                    refine r_bipush S dX12_leafOf_124 (by decide) (fun v128 z129 => ?_)
                    have r130 := R_eq z129
                    refine r_goto (tgt := 145) S dX12_leafOf_126 (by decide) ?_
                    exact r_ret S hr hlk X95 ⟨rfl, (R_of r130 rfl), (fun h => (by rw [z2]; exact R_of r127 rfl))⟩ rfl dX12_leafOf_145
                ·
                  have r131 : R (1) (1) v86 := ⟨by omega, by omega⟩
                  have p132 := q89 (by omega)
                  have r133 : R (1) (1) v1 := z2 ▸ p132
                  have r134 : R (1) (1) v1 := ⟨by omega, by omega⟩
                  refine r_bipush S dX12_leafOf_109 (by decide) (fun v135 z136 => ?_)
                  have r137 := R_eq z136
                  refine r_goto (tgt := 145) S dX12_leafOf_111 (by decide) ?_
                  exact r_ret S hr hlk X84 ⟨rfl, (R_of r137 rfl), (fun h => (by rw [z2]; exact R_of r134 rfl))⟩ rfl dX12_leafOf_145
              ·
                have r138 : R (1) (1) v75 := ⟨by omega, by omega⟩
                have p139 := q78 (by omega)
                have r140 : R (1) (1) v1 := z2 ▸ p139
                have r141 : R (1) (1) v1 := ⟨by omega, by omega⟩
                refine r_bipush S dX12_leafOf_94 (by decide) (fun v142 z143 => ?_)
                have r144 := R_eq z143
                refine r_goto (tgt := 145) S dX12_leafOf_96 (by decide) ?_
                exact r_ret S hr hlk X73 ⟨rfl, (R_of r144 rfl), (fun h => (by rw [z2]; exact R_of r141 rfl))⟩ rfl dX12_leafOf_145
            ·
              have r145 : R (1) (1) v64 := ⟨by omega, by omega⟩
              have p146 := q67 (by omega)
              have r147 : R (1) (1) v1 := z2 ▸ p146
              have r148 : R (1) (1) v1 := ⟨by omega, by omega⟩
              refine r_iconst S dX12_leafOf_80 (by decide) (fun v149 z150 => ?_)
              have r151 := R_eq z150
              refine r_goto (tgt := 145) S dX12_leafOf_81 (by decide) ?_
              exact r_ret S hr hlk X62 ⟨rfl, (R_of r151 rfl), (fun h => (by rw [z2]; exact R_of r148 rfl))⟩ rfl dX12_leafOf_145
          ·
            have r152 : R (1) (1) v53 := ⟨by omega, by omega⟩
            have p153 := q56 (by omega)
            have r154 : R (1) (1) v1 := z2 ▸ p153
            have r155 : R (1) (1) v1 := ⟨by omega, by omega⟩
            refine r_iconst S dX12_leafOf_66 (by decide) (fun v156 z157 => ?_)
            have r158 := R_eq z157
            refine r_goto (tgt := 145) S dX12_leafOf_67 (by decide) ?_
            exact r_ret S hr hlk X51 ⟨rfl, (R_of r158 rfl), (fun h => (by rw [z2]; exact R_of r155 rfl))⟩ rfl dX12_leafOf_145
        ·
          have r159 : R (1) (1) v42 := ⟨by omega, by omega⟩
          have p160 := q45 (by omega)
          have r161 : R (1) (1) v1 := z2 ▸ p160
          have r162 : R (1) (1) v1 := ⟨by omega, by omega⟩
          refine r_iconst S dX12_leafOf_52 (by decide) (fun v163 z164 => ?_)
          have r165 := R_eq z164
          refine r_goto (tgt := 145) S dX12_leafOf_53 (by decide) ?_
          exact r_ret S hr hlk X40 ⟨rfl, (R_of r165 rfl), (fun h => (by rw [z2]; exact R_of r162 rfl))⟩ rfl dX12_leafOf_145
      ·
        have r166 : R (1) (1) v31 := ⟨by omega, by omega⟩
        have p167 := q34 (by omega)
        have r168 : R (1) (1) v1 := z2 ▸ p167
        have r169 : R (1) (1) v1 := ⟨by omega, by omega⟩
        refine r_iconst S dX12_leafOf_38 (by decide) (fun v170 z171 => ?_)
        have r172 := R_eq z171
        refine r_goto (tgt := 145) S dX12_leafOf_39 (by decide) ?_
        exact r_ret S hr hlk X29 ⟨rfl, (R_of r172 rfl), (fun h => (by rw [z2]; exact R_of r169 rfl))⟩ rfl dX12_leafOf_145
    ·
      have r173 : R (1) (1) v20 := ⟨by omega, by omega⟩
      have p174 := q23 (by omega)
      have r175 : R (1) (1) v1 := z2 ▸ p174
      have r176 : R (1) (1) v1 := ⟨by omega, by omega⟩
      refine r_iconst S dX12_leafOf_24 (by decide) (fun v177 z178 => ?_)
      have r179 := R_eq z178
      refine r_goto (tgt := 145) S dX12_leafOf_25 (by decide) ?_
      exact r_ret S hr hlk X18 ⟨rfl, (R_of r179 rfl), (fun h => (by rw [z2]; exact R_of r176 rfl))⟩ rfl dX12_leafOf_145
  ·
    have r180 : R (1) (1) v9 := ⟨by omega, by omega⟩
    have p181 := q12 (by omega)
    have r182 : R (1) (1) v1 := z2 ▸ p181
    have r183 : R (1) (1) v1 := ⟨by omega, by omega⟩
    refine r_iconst S dX12_leafOf_10 (by decide) (fun v184 z185 => ?_)
    have r186 := R_eq z185
    refine r_goto (tgt := 145) S dX12_leafOf_11 (by decide) ?_
    exact r_ret S hr hlk X7 ⟨rfl, (R_of r186 rfl), (fun h => (by rw [z2]; exact R_of r183 rfl))⟩ rfl dX12_leafOf_145
def po_X12_operand (τ : Tau)     (r : Int32) (u : Tau) : Prop := Inv u ∧ Fr [(131, 15), (131, 16), (131, 4), (131, 11), (131, 12), (131, 13), (131, 14), (131, 41), (131, 42), (131, 43), (131, 44), (131, 45)] [135, 148, 331] τ u ∧ R (0) (1) r ∧ R (0) (940) (u 131 4) ∧ R (0) (4) (u 131 11) ∧ (τ 131 4).toInt ≤ (u 131 4).toInt ∧ (r.toInt = 1 ∧ 1 ≤ (u 131 11).toInt ∧ (u 131 11).toInt ≤ 3 → (τ 131 4).toInt < (u 131 4).toInt) ∧ (r.toInt = 1 → 1 ≤ (τ 131 11).toInt ∧ (τ 131 11).toInt ≤ 3) ∧ R (0) (53) (u 131 41) ∧ R (0) (20) (u 131 42) ∧ R (0) (45) (u 131 43) ∧ R (0) (1) (u 131 45) ∧ (r.toInt = 1 → SI u)
set_option maxHeartbeats 4000000 in
set_option maxRecDepth 100000 in
theorem c_X12_operand (l : Launch) (G : Gx) (τ : Tau) (hI : Inv τ) (hf_0 : R (0) (0) (τ 131 45)) (hp_0 : SI τ) : Ci l G yX12_operand cX12_operand 5 (some .boolean) 2 43 [.ref (G.2.2.2.1 131)] τ (po_X12_operand τ    ) := by
  unfold Ci
  refine C_of (own := RX12) (by decide) rfl (Nat.le_of_ble_eq_true rfl) ?_
  intro p e s m below meth c ls S hr hlk X hl
  have hl : lv_has ls 5 [(0, .ref (G.2.2.2.1 131))] := hl
  obtain ⟨v1, z2⟩ : ∃ x, τ 131 45 = x := ⟨_, rfl⟩
  rw [z2] at hf_0
  obtain ⟨v3, z4⟩ : ∃ x, τ 131 4 = x := ⟨_, rfl⟩
  have r5 : R (0) (940) v3 := rd hI rfl z4
  obtain ⟨v6, z7⟩ : ∃ x, τ 131 11 = x := ⟨_, rfl⟩
  have r8 : R (0) (4) v6 := rd hI rfl z7
  obtain ⟨v9, z10⟩ : ∃ x, τ 131 41 = x := ⟨_, rfl⟩
  have r11 : R (0) (53) v9 := rd hI rfl z10
  obtain ⟨v12, z13⟩ : ∃ x, τ 131 42 = x := ⟨_, rfl⟩
  have r14 : R (0) (20) v12 := rd hI rfl z13
  obtain ⟨v15, z16⟩ : ∃ x, τ 131 43 = x := ⟨_, rfl⟩
  have r17 : R (0) (45) v15 := rd hI rfl z16
  have h18 := SI_b hp_0 z10 z13 z16 z2
  have r19 : R (0) (40) v9 := ⟨by omega, by omega⟩
  have r20 : R (0) (40) v15 := ⟨by omega, by omega⟩
  refine r_aload_n S dX12_operand_0 rfl (lv_at hl 0 rfl) ?_
  refine lv_ldc2 S.1.1 S.1.2.1 S.1.2.2.2.1 (S.1.2.2.2.2 _ kw49) dX12_operand_1 ?_
  refine lv_topl (fun j21 z22 => ?_)
  refine r_ki (q_V (As := [.long j21]) (rest := []) (K := 38) (ci := 10) S X (c_X12_isWord l G τ hI j21) ck12_208 (Nat.le_of_ble_eq_true rfl) rfl (fun _ => ⟨_, rfl⟩) ⟨_, _, rfl⟩ ⟨Nat.le_of_ble_eq_true rfl, Nat.le_of_ble_eq_true rfl⟩ rfl hl.1 rfl (Nat.le_of_ble_eq_true rfl) dX12_operand_4 ⟨Nat.le_refl 0, Nat.le_refl 0⟩) X (fun v26 t25 H lc q23 X24 => ?_)
  unfold po_X12_isWord at q23
  obtain ⟨q27, q28, q29⟩ := q23
  rw [q27] at X24
  rw [q27] at q29
  refine r_istore_n (lv' := [(1, .int v26), (0, .ref (G.2.2.2.1 131))]) S dX12_operand_7 rfl hl (by decide) rfl (fun ls hl => ?_)
  refine r_aload_n S dX12_operand_8 rfl (lv_at hl 1 rfl) ?_
  refine r_bipush S dX12_operand_9 (by decide) (fun v30 z31 => ?_)
  have r32 := R_eq z31
  refine r_ki (q_V (As := [.int v30]) (rest := []) (K := 38) (ci := 10) S X24 (c_X12_isSign l G τ hI v30 (R_of (lo := -2147483648) (hi := 2147483647) r32 rfl)) ck12_180 (Nat.le_of_ble_eq_true rfl) rfl (fun _ => ⟨_, rfl⟩) ⟨_, _, rfl⟩ ⟨Nat.le_of_ble_eq_true rfl, Nat.le_of_ble_eq_true rfl⟩ rfl hl.1 rfl (Nat.le_of_ble_eq_true rfl) dX12_operand_11 ⟨Nat.le_refl 0, Nat.le_refl 0⟩) X24 (fun v36 t35 H lc q33 X34 => ?_)
  unfold po_X12_isSign at q33
  obtain ⟨q37, q38, q39⟩ := q33
  rw [q37] at X34
  rw [q37] at q39
  refine r_istore_n (lv' := [(2, .int v36), (1, .int v26), (0, .ref (G.2.2.2.1 131))]) S dX12_operand_14 rfl hl (by decide) rfl (fun ls hl => ?_)
  refine r_aload_n S dX12_operand_15 rfl (lv_at hl 2 rfl) ?_
  refine r_ki (q_V (As := []) (rest := []) (K := 38) (ci := 10) S X34 (c_X12_leafOf l G τ hI ) ck12_416 (Nat.le_of_ble_eq_true rfl) rfl (fun _ => ⟨_, rfl⟩) ⟨_, _, rfl⟩ ⟨Nat.le_of_ble_eq_true rfl, Nat.le_of_ble_eq_true rfl⟩ rfl hl.1 rfl (Nat.le_of_ble_eq_true rfl) dX12_operand_16 ⟨Nat.le_refl 0, Nat.le_refl 0⟩) X34 (fun v43 t42 H lc q40 X41 => ?_)
  unfold po_X12_leafOf at q40
  obtain ⟨q44, q45, q46⟩ := q40
  rw [q44] at X41
  rw [q44] at q46
  refine r_istore_n (lv' := [(3, .int v43), (2, .int v36), (1, .int v26), (0, .ref (G.2.2.2.1 131))]) S dX12_operand_19 rfl hl (by decide) rfl (fun ls hl => ?_)
  refine r_iload_n S dX12_operand_20 rfl (lv_at hl 2 rfl) ?_
  refine r_if_ne (tgt := 38) S dX12_operand_21 (by decide) (fun c47 => ?_) (fun c47 => ?_)
  ·
    have r48 : R (1) (1) v26 := ⟨by omega, by omega⟩
    have p49 := q29 (by omega)
    have r50 : R (1) (1) v6 := z7 ▸ p49
    have r51 : R (1) (1) v6 := ⟨by omega, by omega⟩
    refine r_aload_n S dX12_operand_38 rfl (lv_at hl 3 rfl) ?_
    refine r_geti (K := 38) S X41 (Nat.le_of_ble_eq_true rfl) rfl lk12_419_10 (fun _ => ⟨_, rfl, rfl⟩) z13 dX12_operand_39 ?_
    refine r_bipush S dX12_operand_42 (by decide) (fun v52 z53 => ?_)
    have r54 := R_eq z53
    refine r_icmp_eq (tgt := 56) S dX12_operand_44 (by decide) (fun c55 => ?_) (fun c55 => ?_)
    ·
      have r56 : R (20) (20) v12 := ⟨by omega, by omega⟩
      refine r_aload_n S dX12_operand_56 rfl (lv_at hl 3 rfl) ?_
      refine r_iconst S dX12_operand_57 (by decide) (fun v57 z58 => ?_)
      have r59 := R_eq z58
      refine r_ki (q_V (As := [.int v57]) (rest := []) (K := 38) (ci := 10) S X41 (c_X12_bad l G τ hI v57 (R_of (lo := -2147483648) (hi := 2147483647) r59 rfl)) ck12_183 (Nat.le_of_ble_eq_true rfl) rfl (fun _ => ⟨_, rfl⟩) ⟨_, _, rfl⟩ ⟨Nat.le_of_ble_eq_true rfl, Nat.le_of_ble_eq_true rfl⟩ rfl hl.1 rfl (Nat.le_of_ble_eq_true rfl) dX12_operand_58 ⟨Nat.le_refl 0, Nat.le_refl 0⟩) X41 (fun v63 t62 H lc q60 X61 => ?_)
      unfold po_X12_bad at q60
      obtain ⟨q64, q65, q66⟩ := q60
      have F67 : Fr [(131, 15), (131, 16), (131, 4), (131, 11), (131, 12), (131, 13), (131, 14), (131, 41), (131, 42), (131, 43), (131, 44), (131, 45)] [135, 148, 331] τ t62 := Fr_call Fr_rfl q65 (by decide)
      exact r_ret S hr hlk X61 ⟨q64, F67, (R_of q66 rfl), (by rw [((q65 131 4 (by decide)).trans z4)]; exact R_of r5 rfl), (by rw [((q65 131 11 (by decide)).trans z7)]; exact R_of r51 rfl), (by have h1_0 := congrArg Int32.toInt ((q65 131 4 (by decide)).trans z4); have h2_0 := congrArg Int32.toInt z4; omega), (by have h1_0 := congrArg Int32.toInt ((q65 131 4 (by decide)).trans z4); have h2_0 := congrArg Int32.toInt z4; have h1_1 := congrArg Int32.toInt ((q65 131 11 (by decide)).trans z7); have h2_1 := congrArg Int32.toInt z7; omega), (by have h1_0 := congrArg Int32.toInt ((q65 131 11 (by decide)).trans z7); have h2_0 := congrArg Int32.toInt z7; omega), (by rw [((q65 131 41 (by decide)).trans z10)]; exact R_of r19 rfl), (by rw [((q65 131 42 (by decide)).trans z13)]; exact R_of r56 rfl), (by rw [((q65 131 43 (by decide)).trans z16)]; exact R_of r20 rfl), (by rw [((q65 131 45 (by decide)).trans z2)]; exact R_of hf_0 rfl), (fun h => by exfalso; omega)⟩ (nr_bool (R_of (lo := 0) (hi := 1) q66 rfl)) dX12_operand_61
    ·
      have r68 : R (0) (19) v12 := ⟨by omega, by omega⟩
      refine r_aload_n S dX12_operand_47 rfl (lv_at hl 3 rfl) ?_
      refine r_getn (K := 38) S X41 (Nat.le_of_ble_eq_true rfl) rfl lk12_413_10 (fun _ => ⟨_, rfl, rfl⟩) dX12_operand_48 (fun v69 z70 => ?_)
      have r72 := R_any v69
      refine r_bipush S dX12_operand_51 (by decide) (fun v73 z74 => ?_)
      have r75 := R_eq z74
      refine r_icmp_le (tgt := 62) S dX12_operand_53 (by decide) (fun c76 => ?_) (fun c76 => ?_)
      ·
        have r77 : R (-2147483648) (8) v69 := ⟨by omega, by omega⟩
        refine r_aload_n S dX12_operand_62 rfl (lv_at hl 3 rfl) ?_
        refine r_dup S dX12_operand_63 rfl ?_
        refine r_geti (K := 38) S X41 (Nat.le_of_ble_eq_true rfl) rfl lk12_419_10 (fun _ => ⟨_, rfl, rfl⟩) z13 dX12_operand_64 ?_
        refine r_iconst S dX12_operand_67 (by decide) (fun v78 z79 => ?_)
        have r80 := R_eq z79
        refine r_iadd S dX12_operand_68 (fun v81 z82 => ?_)
        obtain ⟨e83, r84⟩ := i_add (lo := 1) (hi := 20) z82 r68 r80 rfl
        refine r_put (K := 38) (ty := .int) S X41 (Nat.le_of_ble_eq_true rfl) rfl lk12_419_10 (fun _ => ⟨_, rfl, Nat.le_of_ble_eq_true rfl, rfl⟩) (fun _ _ _ h => by cases h; exact ⟨rfl, rfl⟩) rfl rfl dX12_operand_69 (fun t85 H lc M86 X87 => ?_)
        have I88 := Inv_mu hI M86 (show Rg (kd 131) 42 v81 from (R_of (lo := 0) (hi := 20) r84 rfl))
        have F89 : Fr [(131, 15), (131, 16), (131, 4), (131, 11), (131, 12), (131, 13), (131, 14), (131, 41), (131, 42), (131, 43), (131, 44), (131, 45)] [135, 148, 331] τ t85 := Fr_mu Fr_rfl M86 (by decide)
        refine r_aload_n S dX12_operand_72 rfl (lv_at hl 3 rfl) ?_
        refine r_kv (q_V (As := []) (rest := []) (K := 38) (ci := 10) S X87 (c_X12_skip l G t85 I88 ) ck12_186 (Nat.le_of_ble_eq_true rfl) rfl (fun _ => ⟨_, rfl⟩) ⟨_, _, rfl⟩ ⟨Nat.le_of_ble_eq_true rfl, Nat.le_of_ble_eq_true rfl⟩ rfl hl.1 rfl (Nat.le_of_ble_eq_true rfl) dX12_operand_73 ⟨Nat.le_refl 0, Nat.le_refl 0⟩) X87 (fun t92 H lc q90 X91 => ?_)
        unfold po_X12_skip at q90
        obtain ⟨q93, q94, q95, q96, q97, q98⟩ := q90
        have F99 : Fr [(131, 15), (131, 16), (131, 4), (131, 11), (131, 12), (131, 13), (131, 14), (131, 41), (131, 42), (131, 43), (131, 44), (131, 45)] [135, 148, 331] τ t92 := Fr_call F89 q94 (by decide)
        obtain ⟨v100, z101⟩ : ∃ x, t92 131 4 = x := ⟨_, rfl⟩
        rw [z101] at q95
        obtain ⟨v102, z103⟩ : ∃ x, t92 131 11 = x := ⟨_, rfl⟩
        rw [z103] at q96
        have e104 := congrArg Int32.toInt ((M86.2 131 4 (Or.inr (by decide))).trans z4)
        have e105 := congrArg Int32.toInt z101
        have e106 := congrArg Int32.toInt ((M86.2 131 4 (Or.inr (by decide))).trans z4)
        have e107 := congrArg Int32.toInt z101
        have e108 := congrArg Int32.toInt ((M86.2 131 11 (Or.inr (by decide))).trans z7)
        have e109 := congrArg Int32.toInt z103
        refine r_iload_n S dX12_operand_76 rfl (lv_at hl 2 rfl) ?_
        refine r_if_ne (tgt := 84) S dX12_operand_77 (by decide) (fun c110 => ?_) (fun c110 => ?_)
        ·
          refine r_aload_n S dX12_operand_84 rfl (lv_at hl 3 rfl) ?_
          refine r_get (K := 38) (v := .ref (G.2.2.2.1 148)) S X91 (Nat.le_of_ble_eq_true rfl) rfl lk12_84_10 (fun _ => ⟨_, rfl, rfl⟩) dX12_operand_85 ?_
          refine r_aload_n S dX12_operand_88 rfl (lv_at hl 3 rfl) ?_
          refine r_geti (K := 38) S X91 (Nat.le_of_ble_eq_true rfl) rfl lk12_407_10 (fun _ => ⟨_, rfl, rfl⟩) ((q94 131 43 (by decide)).trans ((M86.2 131 43 (Or.inr (by decide))).trans z16)) dX12_operand_89 ?_
          refine r_iload_n S dX12_operand_92 rfl (lv_at hl 2 rfl) ?_
          refine r_if_eq (tgt := 101) S dX12_operand_93 (by decide) (fun c111 => ?_) (fun c111 => ?_)
          ·
            exfalso; omega
          ·
            refine r_bipush S dX12_operand_96 (by decide) (fun v112 z113 => ?_)
            have r114 := R_eq z113
            refine r_goto (tgt := 103) S dX12_operand_98 (by decide) ?_
            refine r_ast (n := 45) (K := 55) S X91 (Nat.le_of_ble_eq_true rfl) rfl (fun _ _ => rfl) (ix_of r20 rfl) dX12_operand_103 (fun t115 H lc M116 X117 => ?_)
            have I118 := Inv_mu q93 M116 (R_any v112)
            have F119 : Fr [(131, 15), (131, 16), (131, 4), (131, 11), (131, 12), (131, 13), (131, 14), (131, 41), (131, 42), (131, 43), (131, 44), (131, 45)] [135, 148, 331] τ t115 := Fr_cell F99 M116 (by decide)
            refine r_aload_n S dX12_operand_104 rfl (lv_at hl 3 rfl) ?_
            refine r_dup S dX12_operand_105 rfl ?_
            refine r_geti (K := 38) S X117 (Nat.le_of_ble_eq_true rfl) rfl lk12_407_10 (fun _ => ⟨_, rfl, rfl⟩) ((M116.2 131 43 (Or.inl (by decide))).trans ((q94 131 43 (by decide)).trans ((M86.2 131 43 (Or.inr (by decide))).trans z16))) dX12_operand_106 ?_
            refine r_iconst S dX12_operand_109 (by decide) (fun v120 z121 => ?_)
            have r122 := R_eq z121
            refine r_iadd S dX12_operand_110 (fun v123 z124 => ?_)
            obtain ⟨e125, r126⟩ := i_add (lo := 1) (hi := 41) z124 r20 r122 rfl
            refine r_put (K := 38) (ty := .int) S X117 (Nat.le_of_ble_eq_true rfl) rfl lk12_407_10 (fun _ => ⟨_, rfl, Nat.le_of_ble_eq_true rfl, rfl⟩) (fun _ _ _ h => by cases h; exact ⟨rfl, rfl⟩) rfl rfl dX12_operand_111 (fun t127 H lc M128 X129 => ?_)
            have I130 := Inv_mu I118 M128 (show Rg (kd 131) 43 v123 from (R_of (lo := 0) (hi := 45) r126 rfl))
            have F131 : Fr [(131, 15), (131, 16), (131, 4), (131, 11), (131, 12), (131, 13), (131, 14), (131, 41), (131, 42), (131, 43), (131, 44), (131, 45)] [135, 148, 331] τ t127 := Fr_mu F119 M128 (by decide)
            refine r_aload_n S dX12_operand_114 rfl (lv_at hl 3 rfl) ?_
            refine r_dup S dX12_operand_115 rfl ?_
            refine r_geti (K := 38) S X129 (Nat.le_of_ble_eq_true rfl) rfl lk12_413_10 (fun _ => ⟨_, rfl, rfl⟩) ((M128.2 131 44 (Or.inr (by decide))).trans ((M116.2 131 44 (Or.inl (by decide))).trans ((q94 131 44 (by decide)).trans ((M86.2 131 44 (Or.inr (by decide))).trans z70)))) dX12_operand_116 ?_
            refine r_iconst S dX12_operand_119 (by decide) (fun v132 z133 => ?_)
            have r134 := R_eq z133
            refine r_iadd S dX12_operand_120 (fun v135 z136 => ?_)
            obtain ⟨e137, r138⟩ := i_add (lo := -2147483647) (hi := 9) z136 r77 r134 rfl
            refine r_put (K := 38) (ty := .int) S X129 (Nat.le_of_ble_eq_true rfl) rfl lk12_413_10 (fun _ => ⟨_, rfl, Nat.le_of_ble_eq_true rfl, rfl⟩) (fun _ _ _ h => by cases h; exact ⟨rfl, rfl⟩) rfl rfl dX12_operand_121 (fun t139 H lc M140 X141 => ?_)
            have I142 := Inv_mu I130 M140 (R_any v135)
            have F143 : Fr [(131, 15), (131, 16), (131, 4), (131, 11), (131, 12), (131, 13), (131, 14), (131, 41), (131, 42), (131, 43), (131, 44), (131, 45)] [135, 148, 331] τ t139 := Fr_mu F131 M140 (by decide)
            refine r_iconst S dX12_operand_124 (by decide) (fun v144 z145 => ?_)
            have r146 := R_eq z145
            exact r_ret S hr hlk X141 ⟨I142, F143, (R_of r146 rfl), (by rw [((M140.2 131 4 (Or.inr (by decide))).trans ((M128.2 131 4 (Or.inr (by decide))).trans ((M116.2 131 4 (Or.inl (by decide))).trans z101)))]; exact R_of q95 rfl), (by rw [((M140.2 131 11 (Or.inr (by decide))).trans ((M128.2 131 11 (Or.inr (by decide))).trans ((M116.2 131 11 (Or.inl (by decide))).trans z103)))]; exact R_of q96 rfl), (by have h1_0 := congrArg Int32.toInt ((M140.2 131 4 (Or.inr (by decide))).trans ((M128.2 131 4 (Or.inr (by decide))).trans ((M116.2 131 4 (Or.inl (by decide))).trans z101))); have h2_0 := congrArg Int32.toInt z4; omega), (by have h1_0 := congrArg Int32.toInt ((M140.2 131 4 (Or.inr (by decide))).trans ((M128.2 131 4 (Or.inr (by decide))).trans ((M116.2 131 4 (Or.inl (by decide))).trans z101))); have h2_0 := congrArg Int32.toInt z4; have h1_1 := congrArg Int32.toInt ((M140.2 131 11 (Or.inr (by decide))).trans ((M128.2 131 11 (Or.inr (by decide))).trans ((M116.2 131 11 (Or.inl (by decide))).trans z103))); have h2_1 := congrArg Int32.toInt z7; omega), (by have h1_0 := congrArg Int32.toInt ((M140.2 131 11 (Or.inr (by decide))).trans ((M128.2 131 11 (Or.inr (by decide))).trans ((M116.2 131 11 (Or.inl (by decide))).trans z103))); have h2_0 := congrArg Int32.toInt z7; omega), (by rw [((M140.2 131 41 (Or.inr (by decide))).trans ((M128.2 131 41 (Or.inr (by decide))).trans ((M116.2 131 41 (Or.inl (by decide))).trans ((q94 131 41 (by decide)).trans ((M86.2 131 41 (Or.inr (by decide))).trans z10)))))]; exact R_of r19 rfl), (by rw [((M140.2 131 42 (Or.inr (by decide))).trans ((M128.2 131 42 (Or.inr (by decide))).trans ((M116.2 131 42 (Or.inl (by decide))).trans ((q94 131 42 (by decide)).trans M86.1))))]; exact R_of r84 rfl), (by rw [((M140.2 131 43 (Or.inr (by decide))).trans M128.1)]; exact R_of r126 rfl), (by rw [((M140.2 131 45 (Or.inr (by decide))).trans ((M128.2 131 45 (Or.inr (by decide))).trans ((M116.2 131 45 (Or.inl (by decide))).trans ((q94 131 45 (by decide)).trans ((M86.2 131 45 (Or.inr (by decide))).trans z2)))))]; exact R_of hf_0 rfl), (fun _ => (by have n1 := congrArg Int32.toInt z13; have n2 := congrArg Int32.toInt z2; exact SI_push hp_0 (fun j => ((M140.2 135 j (Or.inl (by decide))).trans ((M128.2 135 j (Or.inl (by decide))).trans ((M116.2 135 j (Or.inl (by decide))).trans ((q94 135 j (by simp [fz])).trans ((M86.2 135 j (Or.inl (by decide))).trans rfl)))))) ((M140.2 131 41 (Or.inr (by decide))).trans ((M128.2 131 41 (Or.inr (by decide))).trans ((M116.2 131 41 (Or.inl (by decide))).trans ((q94 131 41 (by decide)).trans ((M86.2 131 41 (Or.inr (by decide))).trans rfl))))) ((M140.2 131 42 (Or.inr (by decide))).trans ((M128.2 131 42 (Or.inr (by decide))).trans ((M116.2 131 42 (Or.inl (by decide))).trans ((q94 131 42 (by decide)).trans M86.1)))) ((M140.2 131 43 (Or.inr (by decide))).trans M128.1) ((M140.2 131 45 (Or.inr (by decide))).trans ((M128.2 131 45 (Or.inr (by decide))).trans ((M116.2 131 45 (Or.inl (by decide))).trans ((q94 131 45 (by decide)).trans ((M86.2 131 45 (Or.inr (by decide))).trans z2))))) z16 (fun j hj => ((M140.2 148 j (Or.inl (by decide))).trans ((M128.2 148 j (Or.inl (by decide))).trans ((M116.2 148 j (Or.inr hj)).trans ((q94 148 j (by simp [fz])).trans ((M86.2 148 j (Or.inl (by decide))).trans rfl)))))) (((M140.2 148 v15.toNatClampNeg (Or.inl (by decide))).trans ((M128.2 148 v15.toNatClampNeg (Or.inl (by decide))).trans rfl)).trans M116.1) (by omega) (Or.inl ⟨by omega, by omega, by omega, by omega⟩)))⟩ (nr_bool (R_of (lo := 0) (hi := 1) r146 rfl)) dX12_operand_125
        ·
          exfalso; omega
      ·
        have r147 : R (9) (2147483647) v69 := ⟨by omega, by omega⟩
        refine r_aload_n S dX12_operand_56 rfl (lv_at hl 3 rfl) ?_
        refine r_iconst S dX12_operand_57 (by decide) (fun v148 z149 => ?_)
        have r150 := R_eq z149
        refine r_ki (q_V (As := [.int v148]) (rest := []) (K := 38) (ci := 10) S X41 (c_X12_bad l G τ hI v148 (R_of (lo := -2147483648) (hi := 2147483647) r150 rfl)) ck12_183 (Nat.le_of_ble_eq_true rfl) rfl (fun _ => ⟨_, rfl⟩) ⟨_, _, rfl⟩ ⟨Nat.le_of_ble_eq_true rfl, Nat.le_of_ble_eq_true rfl⟩ rfl hl.1 rfl (Nat.le_of_ble_eq_true rfl) dX12_operand_58 ⟨Nat.le_refl 0, Nat.le_refl 0⟩) X41 (fun v154 t153 H lc q151 X152 => ?_)
        unfold po_X12_bad at q151
        obtain ⟨q155, q156, q157⟩ := q151
        have F158 : Fr [(131, 15), (131, 16), (131, 4), (131, 11), (131, 12), (131, 13), (131, 14), (131, 41), (131, 42), (131, 43), (131, 44), (131, 45)] [135, 148, 331] τ t153 := Fr_call Fr_rfl q156 (by decide)
        exact r_ret S hr hlk X152 ⟨q155, F158, (R_of q157 rfl), (by rw [((q156 131 4 (by decide)).trans z4)]; exact R_of r5 rfl), (by rw [((q156 131 11 (by decide)).trans z7)]; exact R_of r51 rfl), (by have h1_0 := congrArg Int32.toInt ((q156 131 4 (by decide)).trans z4); have h2_0 := congrArg Int32.toInt z4; omega), (by have h1_0 := congrArg Int32.toInt ((q156 131 4 (by decide)).trans z4); have h2_0 := congrArg Int32.toInt z4; have h1_1 := congrArg Int32.toInt ((q156 131 11 (by decide)).trans z7); have h2_1 := congrArg Int32.toInt z7; omega), (by have h1_0 := congrArg Int32.toInt ((q156 131 11 (by decide)).trans z7); have h2_0 := congrArg Int32.toInt z7; omega), (by rw [((q156 131 41 (by decide)).trans z10)]; exact R_of r19 rfl), (by rw [((q156 131 42 (by decide)).trans z13)]; exact R_of r68 rfl), (by rw [((q156 131 43 (by decide)).trans z16)]; exact R_of r20 rfl), (by rw [((q156 131 45 (by decide)).trans z2)]; exact R_of hf_0 rfl), (fun h => by exfalso; omega)⟩ (nr_bool (R_of (lo := 0) (hi := 1) q157 rfl)) dX12_operand_61
  ·
    have r159 : R (0) (0) v26 := ⟨by omega, by omega⟩
    refine r_iload_n S dX12_operand_24 rfl (lv_at hl 1 rfl) ?_
    refine r_if_ne (tgt := 38) S dX12_operand_25 (by decide) (fun c160 => ?_) (fun c160 => ?_)
    ·
      have r161 : R (1) (1) v36 := ⟨by omega, by omega⟩
      have p162 := q39 (by omega)
      have r163 : R (3) (3) v6 := z7 ▸ p162
      have r164 : R (3) (3) v6 := ⟨by omega, by omega⟩
      refine r_aload_n S dX12_operand_38 rfl (lv_at hl 3 rfl) ?_
      refine r_geti (K := 38) S X41 (Nat.le_of_ble_eq_true rfl) rfl lk12_419_10 (fun _ => ⟨_, rfl, rfl⟩) z13 dX12_operand_39 ?_
      refine r_bipush S dX12_operand_42 (by decide) (fun v165 z166 => ?_)
      have r167 := R_eq z166
      refine r_icmp_eq (tgt := 56) S dX12_operand_44 (by decide) (fun c168 => ?_) (fun c168 => ?_)
      ·
        have r169 : R (20) (20) v12 := ⟨by omega, by omega⟩
        refine r_aload_n S dX12_operand_56 rfl (lv_at hl 3 rfl) ?_
        refine r_iconst S dX12_operand_57 (by decide) (fun v170 z171 => ?_)
        have r172 := R_eq z171
        refine r_ki (q_V (As := [.int v170]) (rest := []) (K := 38) (ci := 10) S X41 (c_X12_bad l G τ hI v170 (R_of (lo := -2147483648) (hi := 2147483647) r172 rfl)) ck12_183 (Nat.le_of_ble_eq_true rfl) rfl (fun _ => ⟨_, rfl⟩) ⟨_, _, rfl⟩ ⟨Nat.le_of_ble_eq_true rfl, Nat.le_of_ble_eq_true rfl⟩ rfl hl.1 rfl (Nat.le_of_ble_eq_true rfl) dX12_operand_58 ⟨Nat.le_refl 0, Nat.le_refl 0⟩) X41 (fun v176 t175 H lc q173 X174 => ?_)
        unfold po_X12_bad at q173
        obtain ⟨q177, q178, q179⟩ := q173
        have F180 : Fr [(131, 15), (131, 16), (131, 4), (131, 11), (131, 12), (131, 13), (131, 14), (131, 41), (131, 42), (131, 43), (131, 44), (131, 45)] [135, 148, 331] τ t175 := Fr_call Fr_rfl q178 (by decide)
        exact r_ret S hr hlk X174 ⟨q177, F180, (R_of q179 rfl), (by rw [((q178 131 4 (by decide)).trans z4)]; exact R_of r5 rfl), (by rw [((q178 131 11 (by decide)).trans z7)]; exact R_of r164 rfl), (by have h1_0 := congrArg Int32.toInt ((q178 131 4 (by decide)).trans z4); have h2_0 := congrArg Int32.toInt z4; omega), (by have h1_0 := congrArg Int32.toInt ((q178 131 4 (by decide)).trans z4); have h2_0 := congrArg Int32.toInt z4; have h1_1 := congrArg Int32.toInt ((q178 131 11 (by decide)).trans z7); have h2_1 := congrArg Int32.toInt z7; omega), (by have h1_0 := congrArg Int32.toInt ((q178 131 11 (by decide)).trans z7); have h2_0 := congrArg Int32.toInt z7; omega), (by rw [((q178 131 41 (by decide)).trans z10)]; exact R_of r19 rfl), (by rw [((q178 131 42 (by decide)).trans z13)]; exact R_of r169 rfl), (by rw [((q178 131 43 (by decide)).trans z16)]; exact R_of r20 rfl), (by rw [((q178 131 45 (by decide)).trans z2)]; exact R_of hf_0 rfl), (fun h => by exfalso; omega)⟩ (nr_bool (R_of (lo := 0) (hi := 1) q179 rfl)) dX12_operand_61
      ·
        have r181 : R (0) (19) v12 := ⟨by omega, by omega⟩
        refine r_aload_n S dX12_operand_47 rfl (lv_at hl 3 rfl) ?_
        refine r_getn (K := 38) S X41 (Nat.le_of_ble_eq_true rfl) rfl lk12_413_10 (fun _ => ⟨_, rfl, rfl⟩) dX12_operand_48 (fun v182 z183 => ?_)
        have r185 := R_any v182
        refine r_bipush S dX12_operand_51 (by decide) (fun v186 z187 => ?_)
        have r188 := R_eq z187
        refine r_icmp_le (tgt := 62) S dX12_operand_53 (by decide) (fun c189 => ?_) (fun c189 => ?_)
        ·
          have r190 : R (-2147483648) (8) v182 := ⟨by omega, by omega⟩
          refine r_aload_n S dX12_operand_62 rfl (lv_at hl 3 rfl) ?_
          refine r_dup S dX12_operand_63 rfl ?_
          refine r_geti (K := 38) S X41 (Nat.le_of_ble_eq_true rfl) rfl lk12_419_10 (fun _ => ⟨_, rfl, rfl⟩) z13 dX12_operand_64 ?_
          refine r_iconst S dX12_operand_67 (by decide) (fun v191 z192 => ?_)
          have r193 := R_eq z192
          refine r_iadd S dX12_operand_68 (fun v194 z195 => ?_)
          obtain ⟨e196, r197⟩ := i_add (lo := 1) (hi := 20) z195 r181 r193 rfl
          refine r_put (K := 38) (ty := .int) S X41 (Nat.le_of_ble_eq_true rfl) rfl lk12_419_10 (fun _ => ⟨_, rfl, Nat.le_of_ble_eq_true rfl, rfl⟩) (fun _ _ _ h => by cases h; exact ⟨rfl, rfl⟩) rfl rfl dX12_operand_69 (fun t198 H lc M199 X200 => ?_)
          have I201 := Inv_mu hI M199 (show Rg (kd 131) 42 v194 from (R_of (lo := 0) (hi := 20) r197 rfl))
          have F202 : Fr [(131, 15), (131, 16), (131, 4), (131, 11), (131, 12), (131, 13), (131, 14), (131, 41), (131, 42), (131, 43), (131, 44), (131, 45)] [135, 148, 331] τ t198 := Fr_mu Fr_rfl M199 (by decide)
          refine r_aload_n S dX12_operand_72 rfl (lv_at hl 3 rfl) ?_
          refine r_kv (q_V (As := []) (rest := []) (K := 38) (ci := 10) S X200 (c_X12_skip l G t198 I201 ) ck12_186 (Nat.le_of_ble_eq_true rfl) rfl (fun _ => ⟨_, rfl⟩) ⟨_, _, rfl⟩ ⟨Nat.le_of_ble_eq_true rfl, Nat.le_of_ble_eq_true rfl⟩ rfl hl.1 rfl (Nat.le_of_ble_eq_true rfl) dX12_operand_73 ⟨Nat.le_refl 0, Nat.le_refl 0⟩) X200 (fun t205 H lc q203 X204 => ?_)
          unfold po_X12_skip at q203
          obtain ⟨q206, q207, q208, q209, q210, q211⟩ := q203
          have F212 : Fr [(131, 15), (131, 16), (131, 4), (131, 11), (131, 12), (131, 13), (131, 14), (131, 41), (131, 42), (131, 43), (131, 44), (131, 45)] [135, 148, 331] τ t205 := Fr_call F202 q207 (by decide)
          obtain ⟨v213, z214⟩ : ∃ x, t205 131 4 = x := ⟨_, rfl⟩
          rw [z214] at q208
          obtain ⟨v215, z216⟩ : ∃ x, t205 131 11 = x := ⟨_, rfl⟩
          rw [z216] at q209
          have e217 := congrArg Int32.toInt ((M199.2 131 4 (Or.inr (by decide))).trans z4)
          have e218 := congrArg Int32.toInt z214
          have e219 := congrArg Int32.toInt ((M199.2 131 4 (Or.inr (by decide))).trans z4)
          have e220 := congrArg Int32.toInt z214
          have e221 := congrArg Int32.toInt ((M199.2 131 11 (Or.inr (by decide))).trans z7)
          have e222 := congrArg Int32.toInt z216
          refine r_iload_n S dX12_operand_76 rfl (lv_at hl 2 rfl) ?_
          refine r_if_ne (tgt := 84) S dX12_operand_77 (by decide) (fun c223 => ?_) (fun c223 => ?_)
          ·
            exfalso; omega
          ·
            refine r_iload_n S dX12_operand_80 rfl (lv_at hl 1 rfl) ?_
            refine r_if_eq (tgt := 126) S dX12_operand_81 (by decide) (fun c224 => ?_) (fun c224 => ?_)
            ·
              exfalso; omega
            ·
              refine r_aload_n S dX12_operand_84 rfl (lv_at hl 3 rfl) ?_
              refine r_get (K := 38) (v := .ref (G.2.2.2.1 148)) S X204 (Nat.le_of_ble_eq_true rfl) rfl lk12_84_10 (fun _ => ⟨_, rfl, rfl⟩) dX12_operand_85 ?_
              refine r_aload_n S dX12_operand_88 rfl (lv_at hl 3 rfl) ?_
              refine r_geti (K := 38) S X204 (Nat.le_of_ble_eq_true rfl) rfl lk12_407_10 (fun _ => ⟨_, rfl, rfl⟩) ((q207 131 43 (by decide)).trans ((M199.2 131 43 (Or.inr (by decide))).trans z16)) dX12_operand_89 ?_
              refine r_iload_n S dX12_operand_92 rfl (lv_at hl 2 rfl) ?_
              refine r_if_eq (tgt := 101) S dX12_operand_93 (by decide) (fun c225 => ?_) (fun c225 => ?_)
              ·
                refine r_bipush S dX12_operand_101 (by decide) (fun v226 z227 => ?_)
                have r228 := R_eq z227
                refine r_ast (n := 45) (K := 55) S X204 (Nat.le_of_ble_eq_true rfl) rfl (fun _ _ => rfl) (ix_of r20 rfl) dX12_operand_103 (fun t229 H lc M230 X231 => ?_)
                have I232 := Inv_mu q206 M230 (R_any v226)
                have F233 : Fr [(131, 15), (131, 16), (131, 4), (131, 11), (131, 12), (131, 13), (131, 14), (131, 41), (131, 42), (131, 43), (131, 44), (131, 45)] [135, 148, 331] τ t229 := Fr_cell F212 M230 (by decide)
                refine r_aload_n S dX12_operand_104 rfl (lv_at hl 3 rfl) ?_
                refine r_dup S dX12_operand_105 rfl ?_
                refine r_geti (K := 38) S X231 (Nat.le_of_ble_eq_true rfl) rfl lk12_407_10 (fun _ => ⟨_, rfl, rfl⟩) ((M230.2 131 43 (Or.inl (by decide))).trans ((q207 131 43 (by decide)).trans ((M199.2 131 43 (Or.inr (by decide))).trans z16))) dX12_operand_106 ?_
                refine r_iconst S dX12_operand_109 (by decide) (fun v234 z235 => ?_)
                have r236 := R_eq z235
                refine r_iadd S dX12_operand_110 (fun v237 z238 => ?_)
                obtain ⟨e239, r240⟩ := i_add (lo := 1) (hi := 41) z238 r20 r236 rfl
                refine r_put (K := 38) (ty := .int) S X231 (Nat.le_of_ble_eq_true rfl) rfl lk12_407_10 (fun _ => ⟨_, rfl, Nat.le_of_ble_eq_true rfl, rfl⟩) (fun _ _ _ h => by cases h; exact ⟨rfl, rfl⟩) rfl rfl dX12_operand_111 (fun t241 H lc M242 X243 => ?_)
                have I244 := Inv_mu I232 M242 (show Rg (kd 131) 43 v237 from (R_of (lo := 0) (hi := 45) r240 rfl))
                have F245 : Fr [(131, 15), (131, 16), (131, 4), (131, 11), (131, 12), (131, 13), (131, 14), (131, 41), (131, 42), (131, 43), (131, 44), (131, 45)] [135, 148, 331] τ t241 := Fr_mu F233 M242 (by decide)
                refine r_aload_n S dX12_operand_114 rfl (lv_at hl 3 rfl) ?_
                refine r_dup S dX12_operand_115 rfl ?_
                refine r_geti (K := 38) S X243 (Nat.le_of_ble_eq_true rfl) rfl lk12_413_10 (fun _ => ⟨_, rfl, rfl⟩) ((M242.2 131 44 (Or.inr (by decide))).trans ((M230.2 131 44 (Or.inl (by decide))).trans ((q207 131 44 (by decide)).trans ((M199.2 131 44 (Or.inr (by decide))).trans z183)))) dX12_operand_116 ?_
                refine r_iconst S dX12_operand_119 (by decide) (fun v246 z247 => ?_)
                have r248 := R_eq z247
                refine r_iadd S dX12_operand_120 (fun v249 z250 => ?_)
                obtain ⟨e251, r252⟩ := i_add (lo := -2147483647) (hi := 9) z250 r190 r248 rfl
                refine r_put (K := 38) (ty := .int) S X243 (Nat.le_of_ble_eq_true rfl) rfl lk12_413_10 (fun _ => ⟨_, rfl, Nat.le_of_ble_eq_true rfl, rfl⟩) (fun _ _ _ h => by cases h; exact ⟨rfl, rfl⟩) rfl rfl dX12_operand_121 (fun t253 H lc M254 X255 => ?_)
                have I256 := Inv_mu I244 M254 (R_any v249)
                have F257 : Fr [(131, 15), (131, 16), (131, 4), (131, 11), (131, 12), (131, 13), (131, 14), (131, 41), (131, 42), (131, 43), (131, 44), (131, 45)] [135, 148, 331] τ t253 := Fr_mu F245 M254 (by decide)
                refine r_iconst S dX12_operand_124 (by decide) (fun v258 z259 => ?_)
                have r260 := R_eq z259
                exact r_ret S hr hlk X255 ⟨I256, F257, (R_of r260 rfl), (by rw [((M254.2 131 4 (Or.inr (by decide))).trans ((M242.2 131 4 (Or.inr (by decide))).trans ((M230.2 131 4 (Or.inl (by decide))).trans z214)))]; exact R_of q208 rfl), (by rw [((M254.2 131 11 (Or.inr (by decide))).trans ((M242.2 131 11 (Or.inr (by decide))).trans ((M230.2 131 11 (Or.inl (by decide))).trans z216)))]; exact R_of q209 rfl), (by have h1_0 := congrArg Int32.toInt ((M254.2 131 4 (Or.inr (by decide))).trans ((M242.2 131 4 (Or.inr (by decide))).trans ((M230.2 131 4 (Or.inl (by decide))).trans z214))); have h2_0 := congrArg Int32.toInt z4; omega), (by have h1_0 := congrArg Int32.toInt ((M254.2 131 4 (Or.inr (by decide))).trans ((M242.2 131 4 (Or.inr (by decide))).trans ((M230.2 131 4 (Or.inl (by decide))).trans z214))); have h2_0 := congrArg Int32.toInt z4; have h1_1 := congrArg Int32.toInt ((M254.2 131 11 (Or.inr (by decide))).trans ((M242.2 131 11 (Or.inr (by decide))).trans ((M230.2 131 11 (Or.inl (by decide))).trans z216))); have h2_1 := congrArg Int32.toInt z7; omega), (by have h1_0 := congrArg Int32.toInt ((M254.2 131 11 (Or.inr (by decide))).trans ((M242.2 131 11 (Or.inr (by decide))).trans ((M230.2 131 11 (Or.inl (by decide))).trans z216))); have h2_0 := congrArg Int32.toInt z7; omega), (by rw [((M254.2 131 41 (Or.inr (by decide))).trans ((M242.2 131 41 (Or.inr (by decide))).trans ((M230.2 131 41 (Or.inl (by decide))).trans ((q207 131 41 (by decide)).trans ((M199.2 131 41 (Or.inr (by decide))).trans z10)))))]; exact R_of r19 rfl), (by rw [((M254.2 131 42 (Or.inr (by decide))).trans ((M242.2 131 42 (Or.inr (by decide))).trans ((M230.2 131 42 (Or.inl (by decide))).trans ((q207 131 42 (by decide)).trans M199.1))))]; exact R_of r197 rfl), (by rw [((M254.2 131 43 (Or.inr (by decide))).trans M242.1)]; exact R_of r240 rfl), (by rw [((M254.2 131 45 (Or.inr (by decide))).trans ((M242.2 131 45 (Or.inr (by decide))).trans ((M230.2 131 45 (Or.inl (by decide))).trans ((q207 131 45 (by decide)).trans ((M199.2 131 45 (Or.inr (by decide))).trans z2)))))]; exact R_of hf_0 rfl), (fun _ => (by have n1 := congrArg Int32.toInt z13; have n2 := congrArg Int32.toInt z2; exact SI_push hp_0 (fun j => ((M254.2 135 j (Or.inl (by decide))).trans ((M242.2 135 j (Or.inl (by decide))).trans ((M230.2 135 j (Or.inl (by decide))).trans ((q207 135 j (by simp [fz])).trans ((M199.2 135 j (Or.inl (by decide))).trans rfl)))))) ((M254.2 131 41 (Or.inr (by decide))).trans ((M242.2 131 41 (Or.inr (by decide))).trans ((M230.2 131 41 (Or.inl (by decide))).trans ((q207 131 41 (by decide)).trans ((M199.2 131 41 (Or.inr (by decide))).trans rfl))))) ((M254.2 131 42 (Or.inr (by decide))).trans ((M242.2 131 42 (Or.inr (by decide))).trans ((M230.2 131 42 (Or.inl (by decide))).trans ((q207 131 42 (by decide)).trans M199.1)))) ((M254.2 131 43 (Or.inr (by decide))).trans M242.1) ((M254.2 131 45 (Or.inr (by decide))).trans ((M242.2 131 45 (Or.inr (by decide))).trans ((M230.2 131 45 (Or.inl (by decide))).trans ((q207 131 45 (by decide)).trans ((M199.2 131 45 (Or.inr (by decide))).trans z2))))) z16 (fun j hj => ((M254.2 148 j (Or.inl (by decide))).trans ((M242.2 148 j (Or.inl (by decide))).trans ((M230.2 148 j (Or.inr hj)).trans ((q207 148 j (by simp [fz])).trans ((M199.2 148 j (Or.inl (by decide))).trans rfl)))))) (((M254.2 148 v15.toNatClampNeg (Or.inl (by decide))).trans ((M242.2 148 v15.toNatClampNeg (Or.inl (by decide))).trans rfl)).trans M230.1) (by omega) (Or.inl ⟨by omega, by omega, by omega, by omega⟩)))⟩ (nr_bool (R_of (lo := 0) (hi := 1) r260 rfl)) dX12_operand_125
              ·
                exfalso; omega
        ·
          have r261 : R (9) (2147483647) v182 := ⟨by omega, by omega⟩
          refine r_aload_n S dX12_operand_56 rfl (lv_at hl 3 rfl) ?_
          refine r_iconst S dX12_operand_57 (by decide) (fun v262 z263 => ?_)
          have r264 := R_eq z263
          refine r_ki (q_V (As := [.int v262]) (rest := []) (K := 38) (ci := 10) S X41 (c_X12_bad l G τ hI v262 (R_of (lo := -2147483648) (hi := 2147483647) r264 rfl)) ck12_183 (Nat.le_of_ble_eq_true rfl) rfl (fun _ => ⟨_, rfl⟩) ⟨_, _, rfl⟩ ⟨Nat.le_of_ble_eq_true rfl, Nat.le_of_ble_eq_true rfl⟩ rfl hl.1 rfl (Nat.le_of_ble_eq_true rfl) dX12_operand_58 ⟨Nat.le_refl 0, Nat.le_refl 0⟩) X41 (fun v268 t267 H lc q265 X266 => ?_)
          unfold po_X12_bad at q265
          obtain ⟨q269, q270, q271⟩ := q265
          have F272 : Fr [(131, 15), (131, 16), (131, 4), (131, 11), (131, 12), (131, 13), (131, 14), (131, 41), (131, 42), (131, 43), (131, 44), (131, 45)] [135, 148, 331] τ t267 := Fr_call Fr_rfl q270 (by decide)
          exact r_ret S hr hlk X266 ⟨q269, F272, (R_of q271 rfl), (by rw [((q270 131 4 (by decide)).trans z4)]; exact R_of r5 rfl), (by rw [((q270 131 11 (by decide)).trans z7)]; exact R_of r164 rfl), (by have h1_0 := congrArg Int32.toInt ((q270 131 4 (by decide)).trans z4); have h2_0 := congrArg Int32.toInt z4; omega), (by have h1_0 := congrArg Int32.toInt ((q270 131 4 (by decide)).trans z4); have h2_0 := congrArg Int32.toInt z4; have h1_1 := congrArg Int32.toInt ((q270 131 11 (by decide)).trans z7); have h2_1 := congrArg Int32.toInt z7; omega), (by have h1_0 := congrArg Int32.toInt ((q270 131 11 (by decide)).trans z7); have h2_0 := congrArg Int32.toInt z7; omega), (by rw [((q270 131 41 (by decide)).trans z10)]; exact R_of r19 rfl), (by rw [((q270 131 42 (by decide)).trans z13)]; exact R_of r181 rfl), (by rw [((q270 131 43 (by decide)).trans z16)]; exact R_of r20 rfl), (by rw [((q270 131 45 (by decide)).trans z2)]; exact R_of hf_0 rfl), (fun h => by exfalso; omega)⟩ (nr_bool (R_of (lo := 0) (hi := 1) q271 rfl)) dX12_operand_61
    ·
      have r273 : R (0) (0) v36 := ⟨by omega, by omega⟩
      refine r_iload_n S dX12_operand_28 rfl (lv_at hl 0 rfl) ?_
      refine r_if_ge (tgt := 38) S dX12_operand_29 (by decide) (fun c274 => ?_) (fun c274 => ?_)
      ·
        have r275 : R (0) (9) v43 := ⟨by omega, by omega⟩
        have p276 := q46 (by omega)
        have r277 : R (1) (1) v6 := z7 ▸ p276
        have r278 : R (1) (1) v6 := ⟨by omega, by omega⟩
        refine r_aload_n S dX12_operand_38 rfl (lv_at hl 3 rfl) ?_
        refine r_geti (K := 38) S X41 (Nat.le_of_ble_eq_true rfl) rfl lk12_419_10 (fun _ => ⟨_, rfl, rfl⟩) z13 dX12_operand_39 ?_
        refine r_bipush S dX12_operand_42 (by decide) (fun v279 z280 => ?_)
        have r281 := R_eq z280
        refine r_icmp_eq (tgt := 56) S dX12_operand_44 (by decide) (fun c282 => ?_) (fun c282 => ?_)
        ·
          have r283 : R (20) (20) v12 := ⟨by omega, by omega⟩
          refine r_aload_n S dX12_operand_56 rfl (lv_at hl 3 rfl) ?_
          refine r_iconst S dX12_operand_57 (by decide) (fun v284 z285 => ?_)
          have r286 := R_eq z285
          refine r_ki (q_V (As := [.int v284]) (rest := []) (K := 38) (ci := 10) S X41 (c_X12_bad l G τ hI v284 (R_of (lo := -2147483648) (hi := 2147483647) r286 rfl)) ck12_183 (Nat.le_of_ble_eq_true rfl) rfl (fun _ => ⟨_, rfl⟩) ⟨_, _, rfl⟩ ⟨Nat.le_of_ble_eq_true rfl, Nat.le_of_ble_eq_true rfl⟩ rfl hl.1 rfl (Nat.le_of_ble_eq_true rfl) dX12_operand_58 ⟨Nat.le_refl 0, Nat.le_refl 0⟩) X41 (fun v290 t289 H lc q287 X288 => ?_)
          unfold po_X12_bad at q287
          obtain ⟨q291, q292, q293⟩ := q287
          have F294 : Fr [(131, 15), (131, 16), (131, 4), (131, 11), (131, 12), (131, 13), (131, 14), (131, 41), (131, 42), (131, 43), (131, 44), (131, 45)] [135, 148, 331] τ t289 := Fr_call Fr_rfl q292 (by decide)
          exact r_ret S hr hlk X288 ⟨q291, F294, (R_of q293 rfl), (by rw [((q292 131 4 (by decide)).trans z4)]; exact R_of r5 rfl), (by rw [((q292 131 11 (by decide)).trans z7)]; exact R_of r278 rfl), (by have h1_0 := congrArg Int32.toInt ((q292 131 4 (by decide)).trans z4); have h2_0 := congrArg Int32.toInt z4; omega), (by have h1_0 := congrArg Int32.toInt ((q292 131 4 (by decide)).trans z4); have h2_0 := congrArg Int32.toInt z4; have h1_1 := congrArg Int32.toInt ((q292 131 11 (by decide)).trans z7); have h2_1 := congrArg Int32.toInt z7; omega), (by have h1_0 := congrArg Int32.toInt ((q292 131 11 (by decide)).trans z7); have h2_0 := congrArg Int32.toInt z7; omega), (by rw [((q292 131 41 (by decide)).trans z10)]; exact R_of r19 rfl), (by rw [((q292 131 42 (by decide)).trans z13)]; exact R_of r283 rfl), (by rw [((q292 131 43 (by decide)).trans z16)]; exact R_of r20 rfl), (by rw [((q292 131 45 (by decide)).trans z2)]; exact R_of hf_0 rfl), (fun h => by exfalso; omega)⟩ (nr_bool (R_of (lo := 0) (hi := 1) q293 rfl)) dX12_operand_61
        ·
          have r295 : R (0) (19) v12 := ⟨by omega, by omega⟩
          refine r_aload_n S dX12_operand_47 rfl (lv_at hl 3 rfl) ?_
          refine r_getn (K := 38) S X41 (Nat.le_of_ble_eq_true rfl) rfl lk12_413_10 (fun _ => ⟨_, rfl, rfl⟩) dX12_operand_48 (fun v296 z297 => ?_)
          have r299 := R_any v296
          refine r_bipush S dX12_operand_51 (by decide) (fun v300 z301 => ?_)
          have r302 := R_eq z301
          refine r_icmp_le (tgt := 62) S dX12_operand_53 (by decide) (fun c303 => ?_) (fun c303 => ?_)
          ·
            have r304 : R (-2147483648) (8) v296 := ⟨by omega, by omega⟩
            refine r_aload_n S dX12_operand_62 rfl (lv_at hl 3 rfl) ?_
            refine r_dup S dX12_operand_63 rfl ?_
            refine r_geti (K := 38) S X41 (Nat.le_of_ble_eq_true rfl) rfl lk12_419_10 (fun _ => ⟨_, rfl, rfl⟩) z13 dX12_operand_64 ?_
            refine r_iconst S dX12_operand_67 (by decide) (fun v305 z306 => ?_)
            have r307 := R_eq z306
            refine r_iadd S dX12_operand_68 (fun v308 z309 => ?_)
            obtain ⟨e310, r311⟩ := i_add (lo := 1) (hi := 20) z309 r295 r307 rfl
            refine r_put (K := 38) (ty := .int) S X41 (Nat.le_of_ble_eq_true rfl) rfl lk12_419_10 (fun _ => ⟨_, rfl, Nat.le_of_ble_eq_true rfl, rfl⟩) (fun _ _ _ h => by cases h; exact ⟨rfl, rfl⟩) rfl rfl dX12_operand_69 (fun t312 H lc M313 X314 => ?_)
            have I315 := Inv_mu hI M313 (show Rg (kd 131) 42 v308 from (R_of (lo := 0) (hi := 20) r311 rfl))
            have F316 : Fr [(131, 15), (131, 16), (131, 4), (131, 11), (131, 12), (131, 13), (131, 14), (131, 41), (131, 42), (131, 43), (131, 44), (131, 45)] [135, 148, 331] τ t312 := Fr_mu Fr_rfl M313 (by decide)
            refine r_aload_n S dX12_operand_72 rfl (lv_at hl 3 rfl) ?_
            refine r_kv (q_V (As := []) (rest := []) (K := 38) (ci := 10) S X314 (c_X12_skip l G t312 I315 ) ck12_186 (Nat.le_of_ble_eq_true rfl) rfl (fun _ => ⟨_, rfl⟩) ⟨_, _, rfl⟩ ⟨Nat.le_of_ble_eq_true rfl, Nat.le_of_ble_eq_true rfl⟩ rfl hl.1 rfl (Nat.le_of_ble_eq_true rfl) dX12_operand_73 ⟨Nat.le_refl 0, Nat.le_refl 0⟩) X314 (fun t319 H lc q317 X318 => ?_)
            unfold po_X12_skip at q317
            obtain ⟨q320, q321, q322, q323, q324, q325⟩ := q317
            have F326 : Fr [(131, 15), (131, 16), (131, 4), (131, 11), (131, 12), (131, 13), (131, 14), (131, 41), (131, 42), (131, 43), (131, 44), (131, 45)] [135, 148, 331] τ t319 := Fr_call F316 q321 (by decide)
            obtain ⟨v327, z328⟩ : ∃ x, t319 131 4 = x := ⟨_, rfl⟩
            rw [z328] at q322
            obtain ⟨v329, z330⟩ : ∃ x, t319 131 11 = x := ⟨_, rfl⟩
            rw [z330] at q323
            have e331 := congrArg Int32.toInt ((M313.2 131 4 (Or.inr (by decide))).trans z4)
            have e332 := congrArg Int32.toInt z328
            have e333 := congrArg Int32.toInt ((M313.2 131 4 (Or.inr (by decide))).trans z4)
            have e334 := congrArg Int32.toInt z328
            have e335 := congrArg Int32.toInt ((M313.2 131 11 (Or.inr (by decide))).trans z7)
            have e336 := congrArg Int32.toInt z330
            refine r_iload_n S dX12_operand_76 rfl (lv_at hl 2 rfl) ?_
            refine r_if_ne (tgt := 84) S dX12_operand_77 (by decide) (fun c337 => ?_) (fun c337 => ?_)
            ·
              exfalso; omega
            ·
              refine r_iload_n S dX12_operand_80 rfl (lv_at hl 1 rfl) ?_
              refine r_if_eq (tgt := 126) S dX12_operand_81 (by decide) (fun c338 => ?_) (fun c338 => ?_)
              ·
                refine r_aload_n S dX12_operand_126 rfl (lv_at hl 3 rfl) ?_
                refine r_iconst S dX12_operand_127 (by decide) (fun v339 z340 => ?_)
                have r341 := R_eq z340
                refine r_put (K := 38) (ty := .boolean) S X318 (Nat.le_of_ble_eq_true rfl) rfl lk12_422_10 (fun _ => ⟨_, rfl, Nat.le_of_ble_eq_true rfl, rfl⟩) (fun _ _ _ h => by cases h; exact ⟨rfl, rfl⟩) (nr_bool (R_of (lo := 0) (hi := 1) r341 rfl)) (ft_bool (R_of (lo := 0) (hi := 1) r341 rfl)) dX12_operand_128 (fun t342 H lc M343 X344 => ?_)
                have I345 := Inv_mu q320 M343 (show Rg (kd 131) 45 v339 from (R_of (lo := 0) (hi := 1) r341 rfl))
                have F346 : Fr [(131, 15), (131, 16), (131, 4), (131, 11), (131, 12), (131, 13), (131, 14), (131, 41), (131, 42), (131, 43), (131, 44), (131, 45)] [135, 148, 331] τ t342 := Fr_mu F326 M343 (by decide)
                refine r_iload_n S dX12_operand_131 rfl (lv_at hl 0 rfl) ?_
                refine r_iconst S dX12_operand_132 (by decide) (fun v347 z348 => ?_)
                have r349 := R_eq z348
                refine r_icmp_ge (tgt := 145) S dX12_operand_133 (by decide) (fun c350 => ?_) (fun c350 => ?_)
                ·
                  have r351 : R (3) (9) v43 := ⟨by omega, by omega⟩
                  have p352 := q46 (by omega)
                  refine r_iload_n S dX12_operand_145 rfl (lv_at hl 0 rfl) ?_
                  refine r_bipush S dX12_operand_146 (by decide) (fun v353 z354 => ?_)
                  have r355 := R_eq z354
                  refine r_icmp_ge (tgt := 222) S dX12_operand_148 (by decide) (fun c356 => ?_) (fun c356 => ?_)
                  ·
                    have r357 : R (6) (9) v43 := ⟨by omega, by omega⟩
                    have p358 := q46 (by omega)
                    refine r_aload_n S dX12_operand_222 rfl (lv_at hl 3 rfl) ?_
                    refine r_geti (K := 38) S X344 (Nat.le_of_ble_eq_true rfl) rfl lk12_157_10 (fun _ => ⟨_, rfl, rfl⟩) ((M343.2 131 11 (Or.inr (by decide))).trans z330) dX12_operand_223 ?_
                    refine r_iconst S dX12_operand_226 (by decide) (fun v359 z360 => ?_)
                    have r361 := R_eq z360
                    refine r_icmp_ne (tgt := 248) S dX12_operand_227 (by decide) (fun c362 => ?_) (fun c362 => ?_)
                    ·
                      refine r_aload_n S dX12_operand_248 rfl (lv_at hl 3 rfl) ?_
                      refine r_iconst S dX12_operand_249 (by decide) (fun v363 z364 => ?_)
                      have r365 := R_eq z364
                      refine r_ki (q_V (As := [.int v363]) (rest := []) (K := 38) (ci := 10) S X344 (c_X12_bad l G t342 I345 v363 (R_of (lo := -2147483648) (hi := 2147483647) r365 rfl)) ck12_183 (Nat.le_of_ble_eq_true rfl) rfl (fun _ => ⟨_, rfl⟩) ⟨_, _, rfl⟩ ⟨Nat.le_of_ble_eq_true rfl, Nat.le_of_ble_eq_true rfl⟩ rfl hl.1 rfl (Nat.le_of_ble_eq_true rfl) dX12_operand_250 ⟨Nat.le_refl 0, Nat.le_refl 0⟩) X344 (fun v369 t368 H lc q366 X367 => ?_)
                      unfold po_X12_bad at q366
                      obtain ⟨q370, q371, q372⟩ := q366
                      have F373 : Fr [(131, 15), (131, 16), (131, 4), (131, 11), (131, 12), (131, 13), (131, 14), (131, 41), (131, 42), (131, 43), (131, 44), (131, 45)] [135, 148, 331] τ t368 := Fr_call F346 q371 (by decide)
                      exact r_ret S hr hlk X367 ⟨q370, F373, (R_of q372 rfl), (by rw [((q371 131 4 (by decide)).trans ((M343.2 131 4 (Or.inr (by decide))).trans z328))]; exact R_of q322 rfl), (by rw [((q371 131 11 (by decide)).trans ((M343.2 131 11 (Or.inr (by decide))).trans z330))]; exact R_of q323 rfl), (by have h1_0 := congrArg Int32.toInt ((q371 131 4 (by decide)).trans ((M343.2 131 4 (Or.inr (by decide))).trans z328)); have h2_0 := congrArg Int32.toInt z4; omega), (by have h1_0 := congrArg Int32.toInt ((q371 131 4 (by decide)).trans ((M343.2 131 4 (Or.inr (by decide))).trans z328)); have h2_0 := congrArg Int32.toInt z4; have h1_1 := congrArg Int32.toInt ((q371 131 11 (by decide)).trans ((M343.2 131 11 (Or.inr (by decide))).trans z330)); have h2_1 := congrArg Int32.toInt z7; omega), (by have h1_0 := congrArg Int32.toInt ((q371 131 11 (by decide)).trans ((M343.2 131 11 (Or.inr (by decide))).trans z330)); have h2_0 := congrArg Int32.toInt z7; omega), (by rw [((q371 131 41 (by decide)).trans ((M343.2 131 41 (Or.inr (by decide))).trans ((q321 131 41 (by decide)).trans ((M313.2 131 41 (Or.inr (by decide))).trans z10))))]; exact R_of r19 rfl), (by rw [((q371 131 42 (by decide)).trans ((M343.2 131 42 (Or.inr (by decide))).trans ((q321 131 42 (by decide)).trans M313.1)))]; exact R_of r311 rfl), (by rw [((q371 131 43 (by decide)).trans ((M343.2 131 43 (Or.inr (by decide))).trans ((q321 131 43 (by decide)).trans ((M313.2 131 43 (Or.inr (by decide))).trans z16))))]; exact R_of r20 rfl), (by rw [((q371 131 45 (by decide)).trans M343.1)]; exact R_of r341 rfl), (fun h => by exfalso; omega)⟩ (nr_bool (R_of (lo := 0) (hi := 1) q372 rfl)) dX12_operand_253
                    ·
                      have r374 : R (3) (3) v329 := ⟨by omega, by omega⟩
                      refine r_aload_n S dX12_operand_230 rfl (lv_at hl 3 rfl) ?_
                      refine r_getn (K := 38) S X344 (Nat.le_of_ble_eq_true rfl) rfl lk12_167_10 (fun _ => ⟨_, rfl, rfl⟩) dX12_operand_231 (fun v375 z376 => ?_)
                      have r378 := R_any v375
                      refine r_bipush S dX12_operand_234 (by decide) (fun v379 z380 => ?_)
                      have r381 := R_eq z380
                      refine r_icmp_lt (tgt := 248) S dX12_operand_236 (by decide) (fun c382 => ?_) (fun c382 => ?_)
                      ·
                        have r383 : R (-2147483648) (59) v375 := ⟨by omega, by omega⟩
                        refine r_aload_n S dX12_operand_248 rfl (lv_at hl 3 rfl) ?_
                        refine r_iconst S dX12_operand_249 (by decide) (fun v384 z385 => ?_)
                        have r386 := R_eq z385
                        refine r_ki (q_V (As := [.int v384]) (rest := []) (K := 38) (ci := 10) S X344 (c_X12_bad l G t342 I345 v384 (R_of (lo := -2147483648) (hi := 2147483647) r386 rfl)) ck12_183 (Nat.le_of_ble_eq_true rfl) rfl (fun _ => ⟨_, rfl⟩) ⟨_, _, rfl⟩ ⟨Nat.le_of_ble_eq_true rfl, Nat.le_of_ble_eq_true rfl⟩ rfl hl.1 rfl (Nat.le_of_ble_eq_true rfl) dX12_operand_250 ⟨Nat.le_refl 0, Nat.le_refl 0⟩) X344 (fun v390 t389 H lc q387 X388 => ?_)
                        unfold po_X12_bad at q387
                        obtain ⟨q391, q392, q393⟩ := q387
                        have F394 : Fr [(131, 15), (131, 16), (131, 4), (131, 11), (131, 12), (131, 13), (131, 14), (131, 41), (131, 42), (131, 43), (131, 44), (131, 45)] [135, 148, 331] τ t389 := Fr_call F346 q392 (by decide)
                        exact r_ret S hr hlk X388 ⟨q391, F394, (R_of q393 rfl), (by rw [((q392 131 4 (by decide)).trans ((M343.2 131 4 (Or.inr (by decide))).trans z328))]; exact R_of q322 rfl), (by rw [((q392 131 11 (by decide)).trans ((M343.2 131 11 (Or.inr (by decide))).trans z330))]; exact R_of r374 rfl), (by have h1_0 := congrArg Int32.toInt ((q392 131 4 (by decide)).trans ((M343.2 131 4 (Or.inr (by decide))).trans z328)); have h2_0 := congrArg Int32.toInt z4; omega), (by have h1_0 := congrArg Int32.toInt ((q392 131 4 (by decide)).trans ((M343.2 131 4 (Or.inr (by decide))).trans z328)); have h2_0 := congrArg Int32.toInt z4; have h1_1 := congrArg Int32.toInt ((q392 131 11 (by decide)).trans ((M343.2 131 11 (Or.inr (by decide))).trans z330)); have h2_1 := congrArg Int32.toInt z7; omega), (by have h1_0 := congrArg Int32.toInt ((q392 131 11 (by decide)).trans ((M343.2 131 11 (Or.inr (by decide))).trans z330)); have h2_0 := congrArg Int32.toInt z7; omega), (by rw [((q392 131 41 (by decide)).trans ((M343.2 131 41 (Or.inr (by decide))).trans ((q321 131 41 (by decide)).trans ((M313.2 131 41 (Or.inr (by decide))).trans z10))))]; exact R_of r19 rfl), (by rw [((q392 131 42 (by decide)).trans ((M343.2 131 42 (Or.inr (by decide))).trans ((q321 131 42 (by decide)).trans M313.1)))]; exact R_of r311 rfl), (by rw [((q392 131 43 (by decide)).trans ((M343.2 131 43 (Or.inr (by decide))).trans ((q321 131 43 (by decide)).trans ((M313.2 131 43 (Or.inr (by decide))).trans z16))))]; exact R_of r20 rfl), (by rw [((q392 131 45 (by decide)).trans M343.1)]; exact R_of r341 rfl), (fun h => by exfalso; omega)⟩ (nr_bool (R_of (lo := 0) (hi := 1) q393 rfl)) dX12_operand_253
                      ·
                        have r395 : R (60) (2147483647) v375 := ⟨by omega, by omega⟩
                        refine r_aload_n S dX12_operand_239 rfl (lv_at hl 3 rfl) ?_
                        refine r_geti (K := 38) S X344 (Nat.le_of_ble_eq_true rfl) rfl lk12_167_10 (fun _ => ⟨_, rfl, rfl⟩) z376 dX12_operand_240 ?_
                        refine r_bipush S dX12_operand_243 (by decide) (fun v396 z397 => ?_)
                        have r398 := R_eq z397
                        refine r_icmp_le (tgt := 254) S dX12_operand_245 (by decide) (fun c399 => ?_) (fun c399 => ?_)
                        ·
                          have r400 : R (60) (62) v375 := ⟨by omega, by omega⟩
                          refine r_aload_n S dX12_operand_254 rfl (lv_at hl 3 rfl) ?_
                          refine r_geti (K := 38) S X344 (Nat.le_of_ble_eq_true rfl) rfl lk12_167_10 (fun _ => ⟨_, rfl, rfl⟩) z376 dX12_operand_255 ?_
                          refine r_istore (lv' := [(4, .int v375), (3, .int v43), (2, .int v36), (1, .int v26), (0, .ref (G.2.2.2.1 131))]) S dX12_operand_258 hl (by decide) rfl (fun ls hl => ?_)
                          refine r_aload_n S dX12_operand_260 rfl (lv_at hl 4 rfl) ?_
                          refine r_kv (q_V (As := []) (rest := []) (K := 38) (ci := 10) S X344 (c_X12_skip l G t342 I345 ) ck12_186 (Nat.le_of_ble_eq_true rfl) rfl (fun _ => ⟨_, rfl⟩) ⟨_, _, rfl⟩ ⟨Nat.le_of_ble_eq_true rfl, Nat.le_of_ble_eq_true rfl⟩ rfl hl.1 rfl (Nat.le_of_ble_eq_true rfl) dX12_operand_261 ⟨Nat.le_refl 0, Nat.le_refl 0⟩) X344 (fun t403 H lc q401 X402 => ?_)
                          unfold po_X12_skip at q401
                          obtain ⟨q404, q405, q406, q407, q408, q409⟩ := q401
                          have F410 : Fr [(131, 15), (131, 16), (131, 4), (131, 11), (131, 12), (131, 13), (131, 14), (131, 41), (131, 42), (131, 43), (131, 44), (131, 45)] [135, 148, 331] τ t403 := Fr_call F346 q405 (by decide)
                          obtain ⟨v411, z412⟩ : ∃ x, t403 131 4 = x := ⟨_, rfl⟩
                          rw [z412] at q406
                          obtain ⟨v413, z414⟩ : ∃ x, t403 131 11 = x := ⟨_, rfl⟩
                          rw [z414] at q407
                          have e415 := congrArg Int32.toInt ((M343.2 131 4 (Or.inr (by decide))).trans z328)
                          have e416 := congrArg Int32.toInt z412
                          have e417 := congrArg Int32.toInt ((M343.2 131 4 (Or.inr (by decide))).trans z328)
                          have e418 := congrArg Int32.toInt z412
                          have e419 := congrArg Int32.toInt ((M343.2 131 11 (Or.inr (by decide))).trans z330)
                          have e420 := congrArg Int32.toInt z414
                          refine r_aload_n S dX12_operand_264 rfl (lv_at hl 4 rfl) ?_
                          refine r_geti (K := 38) S X402 (Nat.le_of_ble_eq_true rfl) rfl lk12_157_10 (fun _ => ⟨_, rfl, rfl⟩) z414 dX12_operand_265 ?_
                          refine r_iconst S dX12_operand_268 (by decide) (fun v421 z422 => ?_)
                          have r423 := R_eq z422
                          refine r_icmp_eq (tgt := 278) S dX12_operand_269 (by decide) (fun c424 => ?_) (fun c424 => ?_)
                          ·
                            have r425 : R (2) (2) v413 := ⟨by omega, by omega⟩
                            refine r_aload_n S dX12_operand_278 rfl (lv_at hl 4 rfl) ?_
                            refine r_iload_n S dX12_operand_279 rfl (lv_at hl 1 rfl) ?_
                            refine r_iload S dX12_operand_280 (lv_at hl 0 rfl) ?_
                            refine r_aload_n S dX12_operand_282 rfl (lv_at hl 4 rfl) ?_
                            refine r_getn (K := 38) S X402 (Nat.le_of_ble_eq_true rfl) rfl lk12_167_10 (fun _ => ⟨_, rfl, rfl⟩) dX12_operand_283 (fun v426 z427 => ?_)
                            have r429 := R_any v426
                            refine r_kv (q_V (As := [.int v43, .int v375, .int v426]) (rest := []) (K := 38) (ci := 10) S X402 (c_X12_code l G t403 q404 v43 v375 v426 (R_of (lo := -2147483648) (hi := 2147483647) r357 rfl) (R_of (lo := -2147483648) (hi := 2147483647) r400 rfl) r429 (by rw [((q405 131 41 (by decide)).trans ((M343.2 131 41 (Or.inr (by decide))).trans ((q321 131 41 (by decide)).trans ((M313.2 131 41 (Or.inr (by decide))).trans z10))))]; exact R_of r19 rfl)) ck12_410 (Nat.le_of_ble_eq_true rfl) rfl (fun _ => ⟨_, rfl⟩) ⟨_, _, rfl⟩ ⟨Nat.le_of_ble_eq_true rfl, Nat.le_of_ble_eq_true rfl⟩ rfl hl.1 rfl (Nat.le_of_ble_eq_true rfl) dX12_operand_286 ⟨Nat.le_refl 0, Nat.le_refl 0⟩) X402 (fun t432 H lc q430 X431 => ?_)
                            unfold po_X12_code at q430
                            obtain ⟨q433, q434, q435, q436, q437⟩ := q430
                            have F438 : Fr [(131, 15), (131, 16), (131, 4), (131, 11), (131, 12), (131, 13), (131, 14), (131, 41), (131, 42), (131, 43), (131, 44), (131, 45)] [135, 148, 331] τ t432 := Fr_call F410 q434 (by decide)
                            obtain ⟨v439, z440⟩ : ∃ x, t432 131 41 = x := ⟨_, rfl⟩
                            rw [z440] at q435
                            have e441 := congrArg Int32.toInt ((q405 131 41 (by decide)).trans ((M343.2 131 41 (Or.inr (by decide))).trans ((q321 131 41 (by decide)).trans ((M313.2 131 41 (Or.inr (by decide))).trans z10))))
                            have e442 := congrArg Int32.toInt z440
                            refine r_aload_n S dX12_operand_289 rfl (lv_at hl 4 rfl) ?_
                            refine r_kv (q_V (As := []) (rest := []) (K := 38) (ci := 10) S X431 (c_X12_skip l G t432 q433 ) ck12_186 (Nat.le_of_ble_eq_true rfl) rfl (fun _ => ⟨_, rfl⟩) ⟨_, _, rfl⟩ ⟨Nat.le_of_ble_eq_true rfl, Nat.le_of_ble_eq_true rfl⟩ rfl hl.1 rfl (Nat.le_of_ble_eq_true rfl) dX12_operand_290 ⟨Nat.le_refl 0, Nat.le_refl 0⟩) X431 (fun t445 H lc q443 X444 => ?_)
                            unfold po_X12_skip at q443
                            obtain ⟨q446, q447, q448, q449, q450, q451⟩ := q443
                            have F452 : Fr [(131, 15), (131, 16), (131, 4), (131, 11), (131, 12), (131, 13), (131, 14), (131, 41), (131, 42), (131, 43), (131, 44), (131, 45)] [135, 148, 331] τ t445 := Fr_call F438 q447 (by decide)
                            obtain ⟨v453, z454⟩ : ∃ x, t445 131 4 = x := ⟨_, rfl⟩
                            rw [z454] at q448
                            obtain ⟨v455, z456⟩ : ∃ x, t445 131 11 = x := ⟨_, rfl⟩
                            rw [z456] at q449
                            have e457 := congrArg Int32.toInt ((q434 131 4 (by decide)).trans z412)
                            have e458 := congrArg Int32.toInt z454
                            have e459 := congrArg Int32.toInt ((q434 131 4 (by decide)).trans z412)
                            have e460 := congrArg Int32.toInt z454
                            have e461 := congrArg Int32.toInt ((q434 131 11 (by decide)).trans z414)
                            have e462 := congrArg Int32.toInt z456
                            refine r_iconst S dX12_operand_293 (by decide) (fun v463 z464 => ?_)
                            have r465 := R_eq z464
                            exact r_ret S hr hlk X444 ⟨q446, F452, (R_of r465 rfl), (by rw [z454]; exact R_of q448 rfl), (by rw [z456]; exact R_of q449 rfl), (by have h1_0 := congrArg Int32.toInt z454; have h2_0 := congrArg Int32.toInt z4; omega), (by have h1_0 := congrArg Int32.toInt z454; have h2_0 := congrArg Int32.toInt z4; have h1_1 := congrArg Int32.toInt z456; have h2_1 := congrArg Int32.toInt z7; omega), (by have h1_0 := congrArg Int32.toInt z456; have h2_0 := congrArg Int32.toInt z7; omega), (by rw [((q447 131 41 (by decide)).trans z440)]; exact R_of q435 rfl), (by rw [((q447 131 42 (by decide)).trans ((q434 131 42 (by decide)).trans ((q405 131 42 (by decide)).trans ((M343.2 131 42 (Or.inr (by decide))).trans ((q321 131 42 (by decide)).trans M313.1)))))]; exact R_of r311 rfl), (by rw [((q447 131 43 (by decide)).trans ((q434 131 43 (by decide)).trans ((q405 131 43 (by decide)).trans ((M343.2 131 43 (Or.inr (by decide))).trans ((q321 131 43 (by decide)).trans ((M313.2 131 43 (Or.inr (by decide))).trans z16))))))]; exact R_of r20 rfl), (by rw [((q447 131 45 (by decide)).trans ((q434 131 45 (by decide)).trans ((q405 131 45 (by decide)).trans M343.1)))]; exact R_of r341 rfl), (fun _ => (by have n1 := congrArg Int32.toInt z13; have n2 := congrArg Int32.toInt z2; exact (SI_eq (SI_leaf hp_0 (fun j => ((q405 135 j (by simp [fz])).trans ((M343.2 135 j (Or.inl (by decide))).trans ((q321 135 j (by simp [fz])).trans ((M313.2 135 j (Or.inl (by decide))).trans rfl))))) (fun j => ((q405 148 j (by simp [fz])).trans ((M343.2 148 j (Or.inl (by decide))).trans ((q321 148 j (by simp [fz])).trans ((M313.2 148 j (Or.inl (by decide))).trans rfl))))) ((q405 131 41 (by decide)).trans ((M343.2 131 41 (Or.inr (by decide))).trans ((q321 131 41 (by decide)).trans ((M313.2 131 41 (Or.inr (by decide))).trans rfl)))) ((q405 131 42 (by decide)).trans ((M343.2 131 42 (Or.inr (by decide))).trans ((q321 131 42 (by decide)).trans M313.1))) ((q405 131 43 (by decide)).trans ((M343.2 131 43 (Or.inr (by decide))).trans ((q321 131 43 (by decide)).trans ((M313.2 131 43 (Or.inr (by decide))).trans rfl)))) ((q405 131 45 (by decide)).trans M343.1) (by omega) (by omega) (by omega) ⟨by omega, by omega⟩ (by omega) q437 q434 q436) (fun j => ((q447 135 j (by simp [fz])).trans rfl)) (fun j => ((q447 148 j (by simp [fz])).trans rfl)) ((q447 131 41 (by decide)).trans rfl) ((q447 131 42 (by decide)).trans rfl) ((q447 131 43 (by decide)).trans rfl) ((q447 131 45 (by decide)).trans rfl))))⟩ (nr_bool (R_of (lo := 0) (hi := 1) r465 rfl)) dX12_operand_294
                          ·
                            refine r_aload_n S dX12_operand_272 rfl (lv_at hl 4 rfl) ?_
                            refine r_iconst S dX12_operand_273 (by decide) (fun v466 z467 => ?_)
                            have r468 := R_eq z467
                            refine r_ki (q_V (As := [.int v466]) (rest := []) (K := 38) (ci := 10) S X402 (c_X12_bad l G t403 q404 v466 (R_of (lo := -2147483648) (hi := 2147483647) r468 rfl)) ck12_183 (Nat.le_of_ble_eq_true rfl) rfl (fun _ => ⟨_, rfl⟩) ⟨_, _, rfl⟩ ⟨Nat.le_of_ble_eq_true rfl, Nat.le_of_ble_eq_true rfl⟩ rfl hl.1 rfl (Nat.le_of_ble_eq_true rfl) dX12_operand_274 ⟨Nat.le_refl 0, Nat.le_refl 0⟩) X402 (fun v472 t471 H lc q469 X470 => ?_)
                            unfold po_X12_bad at q469
                            obtain ⟨q473, q474, q475⟩ := q469
                            have F476 : Fr [(131, 15), (131, 16), (131, 4), (131, 11), (131, 12), (131, 13), (131, 14), (131, 41), (131, 42), (131, 43), (131, 44), (131, 45)] [135, 148, 331] τ t471 := Fr_call F410 q474 (by decide)
                            exact r_ret S hr hlk X470 ⟨q473, F476, (R_of q475 rfl), (by rw [((q474 131 4 (by decide)).trans z412)]; exact R_of q406 rfl), (by rw [((q474 131 11 (by decide)).trans z414)]; exact R_of q407 rfl), (by have h1_0 := congrArg Int32.toInt ((q474 131 4 (by decide)).trans z412); have h2_0 := congrArg Int32.toInt z4; omega), (by have h1_0 := congrArg Int32.toInt ((q474 131 4 (by decide)).trans z412); have h2_0 := congrArg Int32.toInt z4; have h1_1 := congrArg Int32.toInt ((q474 131 11 (by decide)).trans z414); have h2_1 := congrArg Int32.toInt z7; omega), (by have h1_0 := congrArg Int32.toInt ((q474 131 11 (by decide)).trans z414); have h2_0 := congrArg Int32.toInt z7; omega), (by rw [((q474 131 41 (by decide)).trans ((q405 131 41 (by decide)).trans ((M343.2 131 41 (Or.inr (by decide))).trans ((q321 131 41 (by decide)).trans ((M313.2 131 41 (Or.inr (by decide))).trans z10)))))]; exact R_of r19 rfl), (by rw [((q474 131 42 (by decide)).trans ((q405 131 42 (by decide)).trans ((M343.2 131 42 (Or.inr (by decide))).trans ((q321 131 42 (by decide)).trans M313.1))))]; exact R_of r311 rfl), (by rw [((q474 131 43 (by decide)).trans ((q405 131 43 (by decide)).trans ((M343.2 131 43 (Or.inr (by decide))).trans ((q321 131 43 (by decide)).trans ((M313.2 131 43 (Or.inr (by decide))).trans z16)))))]; exact R_of r20 rfl), (by rw [((q474 131 45 (by decide)).trans ((q405 131 45 (by decide)).trans M343.1))]; exact R_of r341 rfl), (fun h => by exfalso; omega)⟩ (nr_bool (R_of (lo := 0) (hi := 1) q475 rfl)) dX12_operand_277
                        ·
                          have r477 : R (63) (2147483647) v375 := ⟨by omega, by omega⟩
                          refine r_aload_n S dX12_operand_248 rfl (lv_at hl 3 rfl) ?_
                          refine r_iconst S dX12_operand_249 (by decide) (fun v478 z479 => ?_)
                          have r480 := R_eq z479
                          refine r_ki (q_V (As := [.int v478]) (rest := []) (K := 38) (ci := 10) S X344 (c_X12_bad l G t342 I345 v478 (R_of (lo := -2147483648) (hi := 2147483647) r480 rfl)) ck12_183 (Nat.le_of_ble_eq_true rfl) rfl (fun _ => ⟨_, rfl⟩) ⟨_, _, rfl⟩ ⟨Nat.le_of_ble_eq_true rfl, Nat.le_of_ble_eq_true rfl⟩ rfl hl.1 rfl (Nat.le_of_ble_eq_true rfl) dX12_operand_250 ⟨Nat.le_refl 0, Nat.le_refl 0⟩) X344 (fun v484 t483 H lc q481 X482 => ?_)
                          unfold po_X12_bad at q481
                          obtain ⟨q485, q486, q487⟩ := q481
                          have F488 : Fr [(131, 15), (131, 16), (131, 4), (131, 11), (131, 12), (131, 13), (131, 14), (131, 41), (131, 42), (131, 43), (131, 44), (131, 45)] [135, 148, 331] τ t483 := Fr_call F346 q486 (by decide)
                          exact r_ret S hr hlk X482 ⟨q485, F488, (R_of q487 rfl), (by rw [((q486 131 4 (by decide)).trans ((M343.2 131 4 (Or.inr (by decide))).trans z328))]; exact R_of q322 rfl), (by rw [((q486 131 11 (by decide)).trans ((M343.2 131 11 (Or.inr (by decide))).trans z330))]; exact R_of r374 rfl), (by have h1_0 := congrArg Int32.toInt ((q486 131 4 (by decide)).trans ((M343.2 131 4 (Or.inr (by decide))).trans z328)); have h2_0 := congrArg Int32.toInt z4; omega), (by have h1_0 := congrArg Int32.toInt ((q486 131 4 (by decide)).trans ((M343.2 131 4 (Or.inr (by decide))).trans z328)); have h2_0 := congrArg Int32.toInt z4; have h1_1 := congrArg Int32.toInt ((q486 131 11 (by decide)).trans ((M343.2 131 11 (Or.inr (by decide))).trans z330)); have h2_1 := congrArg Int32.toInt z7; omega), (by have h1_0 := congrArg Int32.toInt ((q486 131 11 (by decide)).trans ((M343.2 131 11 (Or.inr (by decide))).trans z330)); have h2_0 := congrArg Int32.toInt z7; omega), (by rw [((q486 131 41 (by decide)).trans ((M343.2 131 41 (Or.inr (by decide))).trans ((q321 131 41 (by decide)).trans ((M313.2 131 41 (Or.inr (by decide))).trans z10))))]; exact R_of r19 rfl), (by rw [((q486 131 42 (by decide)).trans ((M343.2 131 42 (Or.inr (by decide))).trans ((q321 131 42 (by decide)).trans M313.1)))]; exact R_of r311 rfl), (by rw [((q486 131 43 (by decide)).trans ((M343.2 131 43 (Or.inr (by decide))).trans ((q321 131 43 (by decide)).trans ((M313.2 131 43 (Or.inr (by decide))).trans z16))))]; exact R_of r20 rfl), (by rw [((q486 131 45 (by decide)).trans M343.1)]; exact R_of r341 rfl), (fun h => by exfalso; omega)⟩ (nr_bool (R_of (lo := 0) (hi := 1) q487 rfl)) dX12_operand_253
                  ·
                    have r489 : R (3) (5) v43 := ⟨by omega, by omega⟩
                    have p490 := q46 (by omega)
                    refine r_aload_n S dX12_operand_151 rfl (lv_at hl 3 rfl) ?_
                    refine r_ki (q_V (As := []) (rest := []) (K := 38) (ci := 10) S X344 (c_X12_isName l G t342 I345 ) ck12_196 (Nat.le_of_ble_eq_true rfl) rfl (fun _ => ⟨_, rfl⟩) ⟨_, _, rfl⟩ ⟨Nat.le_of_ble_eq_true rfl, Nat.le_of_ble_eq_true rfl⟩ rfl hl.1 rfl (Nat.le_of_ble_eq_true rfl) dX12_operand_152 ⟨Nat.le_refl 0, Nat.le_refl 0⟩) X344 (fun v494 t493 H lc q491 X492 => ?_)
                    unfold po_X12_isName at q491
                    obtain ⟨q495, q496, q497⟩ := q491
                    rw [q495] at X492
                    rw [q495] at q497
                    refine r_if_ne (tgt := 164) S dX12_operand_155 (by decide) (fun c498 => ?_) (fun c498 => ?_)
                    ·
                      have r499 : R (1) (1) v494 := ⟨by omega, by omega⟩
                      have p500 := q497 (by omega)
                      have r501 : R (1) (1) v329 := ((M343.2 131 11 (Or.inr (by decide))).trans z330) ▸ p500
                      have r502 : R (1) (1) v329 := ⟨by omega, by omega⟩
                      refine r_iload_n S dX12_operand_164 rfl (lv_at hl 0 rfl) ?_
                      refine r_iconst S dX12_operand_165 (by decide) (fun v503 z504 => ?_)
                      have r505 := R_eq z504
                      refine r_icmp_ne (tgt := 184) S dX12_operand_166 (by decide) (fun c506 => ?_) (fun c506 => ?_)
                      ·
                        have r507 : R (4) (5) v43 := ⟨by omega, by omega⟩
                        have p508 := q46 (by omega)
                        refine r_aload_n S dX12_operand_184 rfl (lv_at hl 3 rfl) ?_
                        refine r_iconst S dX12_operand_185 (by decide) (fun v509 z510 => ?_)
                        have r511 := R_eq z510
                        refine r_aload_n S dX12_operand_186 rfl (lv_at hl 3 rfl) ?_
                        refine r_get (K := 38) (v := .ref (G.2.2.2.1 133)) S X492 (Nat.le_of_ble_eq_true rfl) rfl lk12_33_10 (fun _ => ⟨_, rfl, rfl⟩) dX12_operand_187 ?_
                        refine r_iconst S dX12_operand_190 (by decide) (fun v512 z513 => ?_)
                        have r514 := R_eq z513
                        refine r_aldn (n := 513) (K := 40) S X492 (Nat.le_of_ble_eq_true rfl) rfl (fun _ => rfl) (ix_of r514 rfl) dX12_operand_191 (fun v515 z516 => ?_)
                        have r517 : R (0) (9) v515 := rds (K := 40) (a := 0) (n := 1) I345 rfl z516 (R_of r514 rfl) (by decide +kernel)
                        refine r_ki (q_V (As := [.int v509, .int v515]) (rest := []) (K := 38) (ci := 10) S X492 (c_X12_find_a l G t342 I345 v509 v515 (R_of (lo := 0) (hi := 19) r511 rfl) r517) ck12_200 (Nat.le_of_ble_eq_true rfl) rfl (fun _ => ⟨_, rfl⟩) ⟨_, _, rfl⟩ ⟨Nat.le_of_ble_eq_true rfl, Nat.le_of_ble_eq_true rfl⟩ rfl hl.1 rfl (Nat.le_of_ble_eq_true rfl) dX12_operand_192 ⟨Nat.le_refl 0, Nat.le_refl 0⟩) X492 (fun v521 t520 H lc q518 X519 => ?_)
                        unfold po_X12_find_a at q518
                        obtain ⟨q522, q523⟩ := q518
                        rw [q522] at X519
                        refine r_istore (lv' := [(4, .int v521), (3, .int v43), (2, .int v36), (1, .int v26), (0, .ref (G.2.2.2.1 131))]) S dX12_operand_195 hl (by decide) rfl (fun ls hl => ?_)
                        refine r_iload S dX12_operand_197 (lv_at hl 0 rfl) ?_
                        refine r_if_ge (tgt := 208) S dX12_operand_199 (by decide) (fun c524 => ?_) (fun c524 => ?_)
                        ·
                          have r525 : R (0) (8) v521 := ⟨by omega, by omega⟩
                          refine r_aload_n S dX12_operand_208 rfl (lv_at hl 4 rfl) ?_
                          refine r_iload_n S dX12_operand_209 rfl (lv_at hl 1 rfl) ?_
                          refine r_iconst S dX12_operand_210 (by decide) (fun v526 z527 => ?_)
                          have r528 := R_eq z527
                          refine r_iload S dX12_operand_211 (lv_at hl 0 rfl) ?_
                          refine r_kv (q_V (As := [.int v43, .int v526, .int v521]) (rest := []) (K := 38) (ci := 10) S X519 (c_X12_code l G t342 I345 v43 v526 v521 (R_of (lo := -2147483648) (hi := 2147483647) r507 rfl) (R_of (lo := -2147483648) (hi := 2147483647) r528 rfl) (R_of (lo := -2147483648) (hi := 2147483647) r525 rfl) (by rw [((M343.2 131 41 (Or.inr (by decide))).trans ((q321 131 41 (by decide)).trans ((M313.2 131 41 (Or.inr (by decide))).trans z10)))]; exact R_of r19 rfl)) ck12_410 (Nat.le_of_ble_eq_true rfl) rfl (fun _ => ⟨_, rfl⟩) ⟨_, _, rfl⟩ ⟨Nat.le_of_ble_eq_true rfl, Nat.le_of_ble_eq_true rfl⟩ rfl hl.1 rfl (Nat.le_of_ble_eq_true rfl) dX12_operand_213 ⟨Nat.le_refl 0, Nat.le_refl 0⟩) X519 (fun t531 H lc q529 X530 => ?_)
                          unfold po_X12_code at q529
                          obtain ⟨q532, q533, q534, q535, q536⟩ := q529
                          have F537 : Fr [(131, 15), (131, 16), (131, 4), (131, 11), (131, 12), (131, 13), (131, 14), (131, 41), (131, 42), (131, 43), (131, 44), (131, 45)] [135, 148, 331] τ t531 := Fr_call F346 q533 (by decide)
                          obtain ⟨v538, z539⟩ : ∃ x, t531 131 41 = x := ⟨_, rfl⟩
                          rw [z539] at q534
                          have e540 := congrArg Int32.toInt ((M343.2 131 41 (Or.inr (by decide))).trans ((q321 131 41 (by decide)).trans ((M313.2 131 41 (Or.inr (by decide))).trans z10)))
                          have e541 := congrArg Int32.toInt z539
                          refine r_aload_n S dX12_operand_216 rfl (lv_at hl 4 rfl) ?_
                          refine r_kv (q_V (As := []) (rest := []) (K := 38) (ci := 10) S X530 (c_X12_skip l G t531 q532 ) ck12_186 (Nat.le_of_ble_eq_true rfl) rfl (fun _ => ⟨_, rfl⟩) ⟨_, _, rfl⟩ ⟨Nat.le_of_ble_eq_true rfl, Nat.le_of_ble_eq_true rfl⟩ rfl hl.1 rfl (Nat.le_of_ble_eq_true rfl) dX12_operand_217 ⟨Nat.le_refl 0, Nat.le_refl 0⟩) X530 (fun t544 H lc q542 X543 => ?_)
                          unfold po_X12_skip at q542
                          obtain ⟨q545, q546, q547, q548, q549, q550⟩ := q542
                          have F551 : Fr [(131, 15), (131, 16), (131, 4), (131, 11), (131, 12), (131, 13), (131, 14), (131, 41), (131, 42), (131, 43), (131, 44), (131, 45)] [135, 148, 331] τ t544 := Fr_call F537 q546 (by decide)
                          obtain ⟨v552, z553⟩ : ∃ x, t544 131 4 = x := ⟨_, rfl⟩
                          rw [z553] at q547
                          obtain ⟨v554, z555⟩ : ∃ x, t544 131 11 = x := ⟨_, rfl⟩
                          rw [z555] at q548
                          have e556 := congrArg Int32.toInt ((q533 131 4 (by decide)).trans ((M343.2 131 4 (Or.inr (by decide))).trans z328))
                          have e557 := congrArg Int32.toInt z553
                          have e558 := congrArg Int32.toInt ((q533 131 4 (by decide)).trans ((M343.2 131 4 (Or.inr (by decide))).trans z328))
                          have e559 := congrArg Int32.toInt z553
                          have e560 := congrArg Int32.toInt ((q533 131 11 (by decide)).trans ((M343.2 131 11 (Or.inr (by decide))).trans z330))
                          have e561 := congrArg Int32.toInt z555
                          refine r_iconst S dX12_operand_220 (by decide) (fun v562 z563 => ?_)
                          have r564 := R_eq z563
                          exact r_ret S hr hlk X543 ⟨q545, F551, (R_of r564 rfl), (by rw [z553]; exact R_of q547 rfl), (by rw [z555]; exact R_of q548 rfl), (by have h1_0 := congrArg Int32.toInt z553; have h2_0 := congrArg Int32.toInt z4; omega), (by have h1_0 := congrArg Int32.toInt z553; have h2_0 := congrArg Int32.toInt z4; have h1_1 := congrArg Int32.toInt z555; have h2_1 := congrArg Int32.toInt z7; omega), (by have h1_0 := congrArg Int32.toInt z555; have h2_0 := congrArg Int32.toInt z7; omega), (by rw [((q546 131 41 (by decide)).trans z539)]; exact R_of q534 rfl), (by rw [((q546 131 42 (by decide)).trans ((q533 131 42 (by decide)).trans ((M343.2 131 42 (Or.inr (by decide))).trans ((q321 131 42 (by decide)).trans M313.1))))]; exact R_of r311 rfl), (by rw [((q546 131 43 (by decide)).trans ((q533 131 43 (by decide)).trans ((M343.2 131 43 (Or.inr (by decide))).trans ((q321 131 43 (by decide)).trans ((M313.2 131 43 (Or.inr (by decide))).trans z16)))))]; exact R_of r20 rfl), (by rw [((q546 131 45 (by decide)).trans ((q533 131 45 (by decide)).trans M343.1))]; exact R_of r341 rfl), (fun _ => (by have n1 := congrArg Int32.toInt z13; have n2 := congrArg Int32.toInt z2; exact (SI_eq (SI_leaf hp_0 (fun j => ((M343.2 135 j (Or.inl (by decide))).trans ((q321 135 j (by simp [fz])).trans ((M313.2 135 j (Or.inl (by decide))).trans rfl)))) (fun j => ((M343.2 148 j (Or.inl (by decide))).trans ((q321 148 j (by simp [fz])).trans ((M313.2 148 j (Or.inl (by decide))).trans rfl)))) ((M343.2 131 41 (Or.inr (by decide))).trans ((q321 131 41 (by decide)).trans ((M313.2 131 41 (Or.inr (by decide))).trans rfl))) ((M343.2 131 42 (Or.inr (by decide))).trans ((q321 131 42 (by decide)).trans M313.1)) ((M343.2 131 43 (Or.inr (by decide))).trans ((q321 131 43 (by decide)).trans ((M313.2 131 43 (Or.inr (by decide))).trans rfl))) M343.1 (by omega) (by omega) (by omega) ⟨by omega, by omega⟩ (by omega) q536 q533 q535) (fun j => ((q546 135 j (by simp [fz])).trans rfl)) (fun j => ((q546 148 j (by simp [fz])).trans rfl)) ((q546 131 41 (by decide)).trans rfl) ((q546 131 42 (by decide)).trans rfl) ((q546 131 43 (by decide)).trans rfl) ((q546 131 45 (by decide)).trans rfl))))⟩ (nr_bool (R_of (lo := 0) (hi := 1) r564 rfl)) dX12_operand_221
                        ·
                          have r565 : R (-1) (-1) v521 := ⟨by omega, by omega⟩
                          refine r_aload_n S dX12_operand_202 rfl (lv_at hl 4 rfl) ?_
                          refine r_iconst S dX12_operand_203 (by decide) (fun v566 z567 => ?_)
                          have r568 := R_eq z567
                          refine r_ki (q_V (As := [.int v566]) (rest := []) (K := 38) (ci := 10) S X519 (c_X12_bad l G t342 I345 v566 (R_of (lo := -2147483648) (hi := 2147483647) r568 rfl)) ck12_183 (Nat.le_of_ble_eq_true rfl) rfl (fun _ => ⟨_, rfl⟩) ⟨_, _, rfl⟩ ⟨Nat.le_of_ble_eq_true rfl, Nat.le_of_ble_eq_true rfl⟩ rfl hl.1 rfl (Nat.le_of_ble_eq_true rfl) dX12_operand_204 ⟨Nat.le_refl 0, Nat.le_refl 0⟩) X519 (fun v572 t571 H lc q569 X570 => ?_)
                          unfold po_X12_bad at q569
                          obtain ⟨q573, q574, q575⟩ := q569
                          have F576 : Fr [(131, 15), (131, 16), (131, 4), (131, 11), (131, 12), (131, 13), (131, 14), (131, 41), (131, 42), (131, 43), (131, 44), (131, 45)] [135, 148, 331] τ t571 := Fr_call F346 q574 (by decide)
                          exact r_ret S hr hlk X570 ⟨q573, F576, (R_of q575 rfl), (by rw [((q574 131 4 (by decide)).trans ((M343.2 131 4 (Or.inr (by decide))).trans z328))]; exact R_of q322 rfl), (by rw [((q574 131 11 (by decide)).trans ((M343.2 131 11 (Or.inr (by decide))).trans z330))]; exact R_of r502 rfl), (by have h1_0 := congrArg Int32.toInt ((q574 131 4 (by decide)).trans ((M343.2 131 4 (Or.inr (by decide))).trans z328)); have h2_0 := congrArg Int32.toInt z4; omega), (by have h1_0 := congrArg Int32.toInt ((q574 131 4 (by decide)).trans ((M343.2 131 4 (Or.inr (by decide))).trans z328)); have h2_0 := congrArg Int32.toInt z4; have h1_1 := congrArg Int32.toInt ((q574 131 11 (by decide)).trans ((M343.2 131 11 (Or.inr (by decide))).trans z330)); have h2_1 := congrArg Int32.toInt z7; omega), (by have h1_0 := congrArg Int32.toInt ((q574 131 11 (by decide)).trans ((M343.2 131 11 (Or.inr (by decide))).trans z330)); have h2_0 := congrArg Int32.toInt z7; omega), (by rw [((q574 131 41 (by decide)).trans ((M343.2 131 41 (Or.inr (by decide))).trans ((q321 131 41 (by decide)).trans ((M313.2 131 41 (Or.inr (by decide))).trans z10))))]; exact R_of r19 rfl), (by rw [((q574 131 42 (by decide)).trans ((M343.2 131 42 (Or.inr (by decide))).trans ((q321 131 42 (by decide)).trans M313.1)))]; exact R_of r311 rfl), (by rw [((q574 131 43 (by decide)).trans ((M343.2 131 43 (Or.inr (by decide))).trans ((q321 131 43 (by decide)).trans ((M313.2 131 43 (Or.inr (by decide))).trans z16))))]; exact R_of r20 rfl), (by rw [((q574 131 45 (by decide)).trans M343.1)]; exact R_of r341 rfl), (fun h => by exfalso; omega)⟩ (nr_bool (R_of (lo := 0) (hi := 1) q575 rfl)) dX12_operand_207
                      ·
                        have r577 : R (3) (3) v43 := ⟨by omega, by omega⟩
                        have p578 := q46 (by omega)
                        refine r_aload_n S dX12_operand_169 rfl (lv_at hl 3 rfl) ?_
                        refine r_bipush S dX12_operand_170 (by decide) (fun v579 z580 => ?_)
                        have r581 := R_eq z580
                        refine r_aload_n S dX12_operand_172 rfl (lv_at hl 3 rfl) ?_
                        refine r_get (K := 38) (v := .ref (G.2.2.2.1 133)) S X492 (Nat.le_of_ble_eq_true rfl) rfl lk12_33_10 (fun _ => ⟨_, rfl, rfl⟩) dX12_operand_173 ?_
                        refine r_iconst S dX12_operand_176 (by decide) (fun v582 z583 => ?_)
                        have r584 := R_eq z583
                        refine r_aldn (n := 513) (K := 40) S X492 (Nat.le_of_ble_eq_true rfl) rfl (fun _ => rfl) (ix_of r584 rfl) dX12_operand_177 (fun v585 z586 => ?_)
                        have r587 : R (0) (10) v585 := rds (K := 40) (a := 1) (n := 1) I345 rfl z586 (R_of r584 rfl) (by decide +kernel)
                        refine r_ki (q_V (As := [.int v579, .int v585]) (rest := []) (K := 38) (ci := 10) S X492 (c_X12_find_m l G t342 I345 v579 v585 (R_of (lo := 9) (hi := 28) r581 rfl) r587) ck12_200 (Nat.le_of_ble_eq_true rfl) rfl (fun _ => ⟨_, rfl⟩) ⟨_, _, rfl⟩ ⟨Nat.le_of_ble_eq_true rfl, Nat.le_of_ble_eq_true rfl⟩ rfl hl.1 rfl (Nat.le_of_ble_eq_true rfl) dX12_operand_178 ⟨Nat.le_refl 0, Nat.le_refl 0⟩) X492 (fun v591 t590 H lc q588 X589 => ?_)
                        unfold po_X12_find_m at q588
                        obtain ⟨q592, q593⟩ := q588
                        rw [q592] at X589
                        refine r_goto (tgt := 195) S dX12_operand_181 (by decide) ?_
                        refine r_istore (lv' := [(4, .int v591), (3, .int v43), (2, .int v36), (1, .int v26), (0, .ref (G.2.2.2.1 131))]) S dX12_operand_195 hl (by decide) rfl (fun ls hl => ?_)
                        refine r_iload S dX12_operand_197 (lv_at hl 0 rfl) ?_
                        refine r_if_ge (tgt := 208) S dX12_operand_199 (by decide) (fun c594 => ?_) (fun c594 => ?_)
                        ·
                          have r595 : R (0) (9) v591 := ⟨by omega, by omega⟩
                          refine r_aload_n S dX12_operand_208 rfl (lv_at hl 4 rfl) ?_
                          refine r_iload_n S dX12_operand_209 rfl (lv_at hl 1 rfl) ?_
                          refine r_iconst S dX12_operand_210 (by decide) (fun v596 z597 => ?_)
                          have r598 := R_eq z597
                          refine r_iload S dX12_operand_211 (lv_at hl 0 rfl) ?_
                          refine r_kv (q_V (As := [.int v43, .int v596, .int v591]) (rest := []) (K := 38) (ci := 10) S X589 (c_X12_code l G t342 I345 v43 v596 v591 (R_of (lo := -2147483648) (hi := 2147483647) r577 rfl) (R_of (lo := -2147483648) (hi := 2147483647) r598 rfl) (R_of (lo := -2147483648) (hi := 2147483647) r595 rfl) (by rw [((M343.2 131 41 (Or.inr (by decide))).trans ((q321 131 41 (by decide)).trans ((M313.2 131 41 (Or.inr (by decide))).trans z10)))]; exact R_of r19 rfl)) ck12_410 (Nat.le_of_ble_eq_true rfl) rfl (fun _ => ⟨_, rfl⟩) ⟨_, _, rfl⟩ ⟨Nat.le_of_ble_eq_true rfl, Nat.le_of_ble_eq_true rfl⟩ rfl hl.1 rfl (Nat.le_of_ble_eq_true rfl) dX12_operand_213 ⟨Nat.le_refl 0, Nat.le_refl 0⟩) X589 (fun t601 H lc q599 X600 => ?_)
                          unfold po_X12_code at q599
                          obtain ⟨q602, q603, q604, q605, q606⟩ := q599
                          have F607 : Fr [(131, 15), (131, 16), (131, 4), (131, 11), (131, 12), (131, 13), (131, 14), (131, 41), (131, 42), (131, 43), (131, 44), (131, 45)] [135, 148, 331] τ t601 := Fr_call F346 q603 (by decide)
                          obtain ⟨v608, z609⟩ : ∃ x, t601 131 41 = x := ⟨_, rfl⟩
                          rw [z609] at q604
                          have e610 := congrArg Int32.toInt ((M343.2 131 41 (Or.inr (by decide))).trans ((q321 131 41 (by decide)).trans ((M313.2 131 41 (Or.inr (by decide))).trans z10)))
                          have e611 := congrArg Int32.toInt z609
                          refine r_aload_n S dX12_operand_216 rfl (lv_at hl 4 rfl) ?_
                          refine r_kv (q_V (As := []) (rest := []) (K := 38) (ci := 10) S X600 (c_X12_skip l G t601 q602 ) ck12_186 (Nat.le_of_ble_eq_true rfl) rfl (fun _ => ⟨_, rfl⟩) ⟨_, _, rfl⟩ ⟨Nat.le_of_ble_eq_true rfl, Nat.le_of_ble_eq_true rfl⟩ rfl hl.1 rfl (Nat.le_of_ble_eq_true rfl) dX12_operand_217 ⟨Nat.le_refl 0, Nat.le_refl 0⟩) X600 (fun t614 H lc q612 X613 => ?_)
                          unfold po_X12_skip at q612
                          obtain ⟨q615, q616, q617, q618, q619, q620⟩ := q612
                          have F621 : Fr [(131, 15), (131, 16), (131, 4), (131, 11), (131, 12), (131, 13), (131, 14), (131, 41), (131, 42), (131, 43), (131, 44), (131, 45)] [135, 148, 331] τ t614 := Fr_call F607 q616 (by decide)
                          obtain ⟨v622, z623⟩ : ∃ x, t614 131 4 = x := ⟨_, rfl⟩
                          rw [z623] at q617
                          obtain ⟨v624, z625⟩ : ∃ x, t614 131 11 = x := ⟨_, rfl⟩
                          rw [z625] at q618
                          have e626 := congrArg Int32.toInt ((q603 131 4 (by decide)).trans ((M343.2 131 4 (Or.inr (by decide))).trans z328))
                          have e627 := congrArg Int32.toInt z623
                          have e628 := congrArg Int32.toInt ((q603 131 4 (by decide)).trans ((M343.2 131 4 (Or.inr (by decide))).trans z328))
                          have e629 := congrArg Int32.toInt z623
                          have e630 := congrArg Int32.toInt ((q603 131 11 (by decide)).trans ((M343.2 131 11 (Or.inr (by decide))).trans z330))
                          have e631 := congrArg Int32.toInt z625
                          refine r_iconst S dX12_operand_220 (by decide) (fun v632 z633 => ?_)
                          have r634 := R_eq z633
                          exact r_ret S hr hlk X613 ⟨q615, F621, (R_of r634 rfl), (by rw [z623]; exact R_of q617 rfl), (by rw [z625]; exact R_of q618 rfl), (by have h1_0 := congrArg Int32.toInt z623; have h2_0 := congrArg Int32.toInt z4; omega), (by have h1_0 := congrArg Int32.toInt z623; have h2_0 := congrArg Int32.toInt z4; have h1_1 := congrArg Int32.toInt z625; have h2_1 := congrArg Int32.toInt z7; omega), (by have h1_0 := congrArg Int32.toInt z625; have h2_0 := congrArg Int32.toInt z7; omega), (by rw [((q616 131 41 (by decide)).trans z609)]; exact R_of q604 rfl), (by rw [((q616 131 42 (by decide)).trans ((q603 131 42 (by decide)).trans ((M343.2 131 42 (Or.inr (by decide))).trans ((q321 131 42 (by decide)).trans M313.1))))]; exact R_of r311 rfl), (by rw [((q616 131 43 (by decide)).trans ((q603 131 43 (by decide)).trans ((M343.2 131 43 (Or.inr (by decide))).trans ((q321 131 43 (by decide)).trans ((M313.2 131 43 (Or.inr (by decide))).trans z16)))))]; exact R_of r20 rfl), (by rw [((q616 131 45 (by decide)).trans ((q603 131 45 (by decide)).trans M343.1))]; exact R_of r341 rfl), (fun _ => (by have n1 := congrArg Int32.toInt z13; have n2 := congrArg Int32.toInt z2; exact (SI_eq (SI_leaf hp_0 (fun j => ((M343.2 135 j (Or.inl (by decide))).trans ((q321 135 j (by simp [fz])).trans ((M313.2 135 j (Or.inl (by decide))).trans rfl)))) (fun j => ((M343.2 148 j (Or.inl (by decide))).trans ((q321 148 j (by simp [fz])).trans ((M313.2 148 j (Or.inl (by decide))).trans rfl)))) ((M343.2 131 41 (Or.inr (by decide))).trans ((q321 131 41 (by decide)).trans ((M313.2 131 41 (Or.inr (by decide))).trans rfl))) ((M343.2 131 42 (Or.inr (by decide))).trans ((q321 131 42 (by decide)).trans M313.1)) ((M343.2 131 43 (Or.inr (by decide))).trans ((q321 131 43 (by decide)).trans ((M313.2 131 43 (Or.inr (by decide))).trans rfl))) M343.1 (by omega) (by omega) (by omega) ⟨by omega, by omega⟩ (by omega) q606 q603 q605) (fun j => ((q616 135 j (by simp [fz])).trans rfl)) (fun j => ((q616 148 j (by simp [fz])).trans rfl)) ((q616 131 41 (by decide)).trans rfl) ((q616 131 42 (by decide)).trans rfl) ((q616 131 43 (by decide)).trans rfl) ((q616 131 45 (by decide)).trans rfl))))⟩ (nr_bool (R_of (lo := 0) (hi := 1) r634 rfl)) dX12_operand_221
                        ·
                          have r635 : R (-1) (-1) v591 := ⟨by omega, by omega⟩
                          refine r_aload_n S dX12_operand_202 rfl (lv_at hl 4 rfl) ?_
                          refine r_iconst S dX12_operand_203 (by decide) (fun v636 z637 => ?_)
                          have r638 := R_eq z637
                          refine r_ki (q_V (As := [.int v636]) (rest := []) (K := 38) (ci := 10) S X589 (c_X12_bad l G t342 I345 v636 (R_of (lo := -2147483648) (hi := 2147483647) r638 rfl)) ck12_183 (Nat.le_of_ble_eq_true rfl) rfl (fun _ => ⟨_, rfl⟩) ⟨_, _, rfl⟩ ⟨Nat.le_of_ble_eq_true rfl, Nat.le_of_ble_eq_true rfl⟩ rfl hl.1 rfl (Nat.le_of_ble_eq_true rfl) dX12_operand_204 ⟨Nat.le_refl 0, Nat.le_refl 0⟩) X589 (fun v642 t641 H lc q639 X640 => ?_)
                          unfold po_X12_bad at q639
                          obtain ⟨q643, q644, q645⟩ := q639
                          have F646 : Fr [(131, 15), (131, 16), (131, 4), (131, 11), (131, 12), (131, 13), (131, 14), (131, 41), (131, 42), (131, 43), (131, 44), (131, 45)] [135, 148, 331] τ t641 := Fr_call F346 q644 (by decide)
                          exact r_ret S hr hlk X640 ⟨q643, F646, (R_of q645 rfl), (by rw [((q644 131 4 (by decide)).trans ((M343.2 131 4 (Or.inr (by decide))).trans z328))]; exact R_of q322 rfl), (by rw [((q644 131 11 (by decide)).trans ((M343.2 131 11 (Or.inr (by decide))).trans z330))]; exact R_of r502 rfl), (by have h1_0 := congrArg Int32.toInt ((q644 131 4 (by decide)).trans ((M343.2 131 4 (Or.inr (by decide))).trans z328)); have h2_0 := congrArg Int32.toInt z4; omega), (by have h1_0 := congrArg Int32.toInt ((q644 131 4 (by decide)).trans ((M343.2 131 4 (Or.inr (by decide))).trans z328)); have h2_0 := congrArg Int32.toInt z4; have h1_1 := congrArg Int32.toInt ((q644 131 11 (by decide)).trans ((M343.2 131 11 (Or.inr (by decide))).trans z330)); have h2_1 := congrArg Int32.toInt z7; omega), (by have h1_0 := congrArg Int32.toInt ((q644 131 11 (by decide)).trans ((M343.2 131 11 (Or.inr (by decide))).trans z330)); have h2_0 := congrArg Int32.toInt z7; omega), (by rw [((q644 131 41 (by decide)).trans ((M343.2 131 41 (Or.inr (by decide))).trans ((q321 131 41 (by decide)).trans ((M313.2 131 41 (Or.inr (by decide))).trans z10))))]; exact R_of r19 rfl), (by rw [((q644 131 42 (by decide)).trans ((M343.2 131 42 (Or.inr (by decide))).trans ((q321 131 42 (by decide)).trans M313.1)))]; exact R_of r311 rfl), (by rw [((q644 131 43 (by decide)).trans ((M343.2 131 43 (Or.inr (by decide))).trans ((q321 131 43 (by decide)).trans ((M313.2 131 43 (Or.inr (by decide))).trans z16))))]; exact R_of r20 rfl), (by rw [((q644 131 45 (by decide)).trans M343.1)]; exact R_of r341 rfl), (fun h => by exfalso; omega)⟩ (nr_bool (R_of (lo := 0) (hi := 1) q645 rfl)) dX12_operand_207
                    ·
                      have r647 : R (0) (0) v494 := ⟨by omega, by omega⟩
                      refine r_aload_n S dX12_operand_158 rfl (lv_at hl 3 rfl) ?_
                      refine r_iconst S dX12_operand_159 (by decide) (fun v648 z649 => ?_)
                      have r650 := R_eq z649
                      refine r_ki (q_V (As := [.int v648]) (rest := []) (K := 38) (ci := 10) S X492 (c_X12_bad l G t342 I345 v648 (R_of (lo := -2147483648) (hi := 2147483647) r650 rfl)) ck12_183 (Nat.le_of_ble_eq_true rfl) rfl (fun _ => ⟨_, rfl⟩) ⟨_, _, rfl⟩ ⟨Nat.le_of_ble_eq_true rfl, Nat.le_of_ble_eq_true rfl⟩ rfl hl.1 rfl (Nat.le_of_ble_eq_true rfl) dX12_operand_160 ⟨Nat.le_refl 0, Nat.le_refl 0⟩) X492 (fun v654 t653 H lc q651 X652 => ?_)
                      unfold po_X12_bad at q651
                      obtain ⟨q655, q656, q657⟩ := q651
                      have F658 : Fr [(131, 15), (131, 16), (131, 4), (131, 11), (131, 12), (131, 13), (131, 14), (131, 41), (131, 42), (131, 43), (131, 44), (131, 45)] [135, 148, 331] τ t653 := Fr_call F346 q656 (by decide)
                      exact r_ret S hr hlk X652 ⟨q655, F658, (R_of q657 rfl), (by rw [((q656 131 4 (by decide)).trans ((M343.2 131 4 (Or.inr (by decide))).trans z328))]; exact R_of q322 rfl), (by rw [((q656 131 11 (by decide)).trans ((M343.2 131 11 (Or.inr (by decide))).trans z330))]; exact R_of q323 rfl), (by have h1_0 := congrArg Int32.toInt ((q656 131 4 (by decide)).trans ((M343.2 131 4 (Or.inr (by decide))).trans z328)); have h2_0 := congrArg Int32.toInt z4; omega), (by have h1_0 := congrArg Int32.toInt ((q656 131 4 (by decide)).trans ((M343.2 131 4 (Or.inr (by decide))).trans z328)); have h2_0 := congrArg Int32.toInt z4; have h1_1 := congrArg Int32.toInt ((q656 131 11 (by decide)).trans ((M343.2 131 11 (Or.inr (by decide))).trans z330)); have h2_1 := congrArg Int32.toInt z7; omega), (by have h1_0 := congrArg Int32.toInt ((q656 131 11 (by decide)).trans ((M343.2 131 11 (Or.inr (by decide))).trans z330)); have h2_0 := congrArg Int32.toInt z7; omega), (by rw [((q656 131 41 (by decide)).trans ((M343.2 131 41 (Or.inr (by decide))).trans ((q321 131 41 (by decide)).trans ((M313.2 131 41 (Or.inr (by decide))).trans z10))))]; exact R_of r19 rfl), (by rw [((q656 131 42 (by decide)).trans ((M343.2 131 42 (Or.inr (by decide))).trans ((q321 131 42 (by decide)).trans M313.1)))]; exact R_of r311 rfl), (by rw [((q656 131 43 (by decide)).trans ((M343.2 131 43 (Or.inr (by decide))).trans ((q321 131 43 (by decide)).trans ((M313.2 131 43 (Or.inr (by decide))).trans z16))))]; exact R_of r20 rfl), (by rw [((q656 131 45 (by decide)).trans M343.1)]; exact R_of r341 rfl), (fun h => by exfalso; omega)⟩ (nr_bool (R_of (lo := 0) (hi := 1) q657 rfl)) dX12_operand_163
                ·
                  have r659 : R (0) (2) v43 := ⟨by omega, by omega⟩
                  have p660 := q46 (by omega)
                  refine r_aload_n S dX12_operand_136 rfl (lv_at hl 3 rfl) ?_
                  refine r_iload_n S dX12_operand_137 rfl (lv_at hl 0 rfl) ?_
                  refine r_iconst S dX12_operand_138 (by decide) (fun v661 z662 => ?_)
                  have r663 := R_eq z662
                  refine r_iconst S dX12_operand_139 (by decide) (fun v664 z665 => ?_)
                  have r666 := R_eq z665
                  refine r_kv (q_V (As := [.int v43, .int v661, .int v664]) (rest := []) (K := 38) (ci := 10) S X344 (c_X12_code l G t342 I345 v43 v661 v664 (R_of (lo := -2147483648) (hi := 2147483647) r659 rfl) (R_of (lo := -2147483648) (hi := 2147483647) r663 rfl) (R_of (lo := -2147483648) (hi := 2147483647) r666 rfl) (by rw [((M343.2 131 41 (Or.inr (by decide))).trans ((q321 131 41 (by decide)).trans ((M313.2 131 41 (Or.inr (by decide))).trans z10)))]; exact R_of r19 rfl)) ck12_410 (Nat.le_of_ble_eq_true rfl) rfl (fun _ => ⟨_, rfl⟩) ⟨_, _, rfl⟩ ⟨Nat.le_of_ble_eq_true rfl, Nat.le_of_ble_eq_true rfl⟩ rfl hl.1 rfl (Nat.le_of_ble_eq_true rfl) dX12_operand_140 ⟨Nat.le_refl 0, Nat.le_refl 0⟩) X344 (fun t669 H lc q667 X668 => ?_)
                  unfold po_X12_code at q667
                  obtain ⟨q670, q671, q672, q673, q674⟩ := q667
                  have F675 : Fr [(131, 15), (131, 16), (131, 4), (131, 11), (131, 12), (131, 13), (131, 14), (131, 41), (131, 42), (131, 43), (131, 44), (131, 45)] [135, 148, 331] τ t669 := Fr_call F346 q671 (by decide)
                  obtain ⟨v676, z677⟩ : ∃ x, t669 131 41 = x := ⟨_, rfl⟩
                  rw [z677] at q672
                  have e678 := congrArg Int32.toInt ((M343.2 131 41 (Or.inr (by decide))).trans ((q321 131 41 (by decide)).trans ((M313.2 131 41 (Or.inr (by decide))).trans z10)))
                  have e679 := congrArg Int32.toInt z677
                  refine r_iconst S dX12_operand_143 (by decide) (fun v680 z681 => ?_)
                  have r682 := R_eq z681
                  exact r_ret S hr hlk X668 ⟨q670, F675, (R_of r682 rfl), (by rw [((q671 131 4 (by decide)).trans ((M343.2 131 4 (Or.inr (by decide))).trans z328))]; exact R_of q322 rfl), (by rw [((q671 131 11 (by decide)).trans ((M343.2 131 11 (Or.inr (by decide))).trans z330))]; exact R_of q323 rfl), (by have h1_0 := congrArg Int32.toInt ((q671 131 4 (by decide)).trans ((M343.2 131 4 (Or.inr (by decide))).trans z328)); have h2_0 := congrArg Int32.toInt z4; omega), (by have h1_0 := congrArg Int32.toInt ((q671 131 4 (by decide)).trans ((M343.2 131 4 (Or.inr (by decide))).trans z328)); have h2_0 := congrArg Int32.toInt z4; have h1_1 := congrArg Int32.toInt ((q671 131 11 (by decide)).trans ((M343.2 131 11 (Or.inr (by decide))).trans z330)); have h2_1 := congrArg Int32.toInt z7; omega), (by have h1_0 := congrArg Int32.toInt ((q671 131 11 (by decide)).trans ((M343.2 131 11 (Or.inr (by decide))).trans z330)); have h2_0 := congrArg Int32.toInt z7; omega), (by rw [z677]; exact R_of q672 rfl), (by rw [((q671 131 42 (by decide)).trans ((M343.2 131 42 (Or.inr (by decide))).trans ((q321 131 42 (by decide)).trans M313.1)))]; exact R_of r311 rfl), (by rw [((q671 131 43 (by decide)).trans ((M343.2 131 43 (Or.inr (by decide))).trans ((q321 131 43 (by decide)).trans ((M313.2 131 43 (Or.inr (by decide))).trans z16))))]; exact R_of r20 rfl), (by rw [((q671 131 45 (by decide)).trans M343.1)]; exact R_of r341 rfl), (fun _ => (by have n1 := congrArg Int32.toInt z13; have n2 := congrArg Int32.toInt z2; exact (SI_leaf hp_0 (fun j => ((M343.2 135 j (Or.inl (by decide))).trans ((q321 135 j (by simp [fz])).trans ((M313.2 135 j (Or.inl (by decide))).trans rfl)))) (fun j => ((M343.2 148 j (Or.inl (by decide))).trans ((q321 148 j (by simp [fz])).trans ((M313.2 148 j (Or.inl (by decide))).trans rfl)))) ((M343.2 131 41 (Or.inr (by decide))).trans ((q321 131 41 (by decide)).trans ((M313.2 131 41 (Or.inr (by decide))).trans rfl))) ((M343.2 131 42 (Or.inr (by decide))).trans ((q321 131 42 (by decide)).trans M313.1)) ((M343.2 131 43 (Or.inr (by decide))).trans ((q321 131 43 (by decide)).trans ((M313.2 131 43 (Or.inr (by decide))).trans rfl))) M343.1 (by omega) (by omega) (by omega) ⟨by omega, by omega⟩ (by omega) q674 q671 q673)))⟩ (nr_bool (R_of (lo := 0) (hi := 1) r682 rfl)) dX12_operand_144
              ·
                exfalso; omega
          ·
            have r683 : R (9) (2147483647) v296 := ⟨by omega, by omega⟩
            refine r_aload_n S dX12_operand_56 rfl (lv_at hl 3 rfl) ?_
            refine r_iconst S dX12_operand_57 (by decide) (fun v684 z685 => ?_)
            have r686 := R_eq z685
            refine r_ki (q_V (As := [.int v684]) (rest := []) (K := 38) (ci := 10) S X41 (c_X12_bad l G τ hI v684 (R_of (lo := -2147483648) (hi := 2147483647) r686 rfl)) ck12_183 (Nat.le_of_ble_eq_true rfl) rfl (fun _ => ⟨_, rfl⟩) ⟨_, _, rfl⟩ ⟨Nat.le_of_ble_eq_true rfl, Nat.le_of_ble_eq_true rfl⟩ rfl hl.1 rfl (Nat.le_of_ble_eq_true rfl) dX12_operand_58 ⟨Nat.le_refl 0, Nat.le_refl 0⟩) X41 (fun v690 t689 H lc q687 X688 => ?_)
            unfold po_X12_bad at q687
            obtain ⟨q691, q692, q693⟩ := q687
            have F694 : Fr [(131, 15), (131, 16), (131, 4), (131, 11), (131, 12), (131, 13), (131, 14), (131, 41), (131, 42), (131, 43), (131, 44), (131, 45)] [135, 148, 331] τ t689 := Fr_call Fr_rfl q692 (by decide)
            exact r_ret S hr hlk X688 ⟨q691, F694, (R_of q693 rfl), (by rw [((q692 131 4 (by decide)).trans z4)]; exact R_of r5 rfl), (by rw [((q692 131 11 (by decide)).trans z7)]; exact R_of r278 rfl), (by have h1_0 := congrArg Int32.toInt ((q692 131 4 (by decide)).trans z4); have h2_0 := congrArg Int32.toInt z4; omega), (by have h1_0 := congrArg Int32.toInt ((q692 131 4 (by decide)).trans z4); have h2_0 := congrArg Int32.toInt z4; have h1_1 := congrArg Int32.toInt ((q692 131 11 (by decide)).trans z7); have h2_1 := congrArg Int32.toInt z7; omega), (by have h1_0 := congrArg Int32.toInt ((q692 131 11 (by decide)).trans z7); have h2_0 := congrArg Int32.toInt z7; omega), (by rw [((q692 131 41 (by decide)).trans z10)]; exact R_of r19 rfl), (by rw [((q692 131 42 (by decide)).trans z13)]; exact R_of r295 rfl), (by rw [((q692 131 43 (by decide)).trans z16)]; exact R_of r20 rfl), (by rw [((q692 131 45 (by decide)).trans z2)]; exact R_of hf_0 rfl), (fun h => by exfalso; omega)⟩ (nr_bool (R_of (lo := 0) (hi := 1) q693 rfl)) dX12_operand_61
      ·
        have r695 : R (-1) (-1) v43 := ⟨by omega, by omega⟩
        refine r_aload_n S dX12_operand_32 rfl (lv_at hl 3 rfl) ?_
        refine r_iconst S dX12_operand_33 (by decide) (fun v696 z697 => ?_)
        have r698 := R_eq z697
        refine r_ki (q_V (As := [.int v696]) (rest := []) (K := 38) (ci := 10) S X41 (c_X12_bad l G τ hI v696 (R_of (lo := -2147483648) (hi := 2147483647) r698 rfl)) ck12_183 (Nat.le_of_ble_eq_true rfl) rfl (fun _ => ⟨_, rfl⟩) ⟨_, _, rfl⟩ ⟨Nat.le_of_ble_eq_true rfl, Nat.le_of_ble_eq_true rfl⟩ rfl hl.1 rfl (Nat.le_of_ble_eq_true rfl) dX12_operand_34 ⟨Nat.le_refl 0, Nat.le_refl 0⟩) X41 (fun v702 t701 H lc q699 X700 => ?_)
        unfold po_X12_bad at q699
        obtain ⟨q703, q704, q705⟩ := q699
        have F706 : Fr [(131, 15), (131, 16), (131, 4), (131, 11), (131, 12), (131, 13), (131, 14), (131, 41), (131, 42), (131, 43), (131, 44), (131, 45)] [135, 148, 331] τ t701 := Fr_call Fr_rfl q704 (by decide)
        exact r_ret S hr hlk X700 ⟨q703, F706, (R_of q705 rfl), (by rw [((q704 131 4 (by decide)).trans z4)]; exact R_of r5 rfl), (by rw [((q704 131 11 (by decide)).trans z7)]; exact R_of r8 rfl), (by have h1_0 := congrArg Int32.toInt ((q704 131 4 (by decide)).trans z4); have h2_0 := congrArg Int32.toInt z4; omega), (by have h1_0 := congrArg Int32.toInt ((q704 131 4 (by decide)).trans z4); have h2_0 := congrArg Int32.toInt z4; have h1_1 := congrArg Int32.toInt ((q704 131 11 (by decide)).trans z7); have h2_1 := congrArg Int32.toInt z7; omega), (by have h1_0 := congrArg Int32.toInt ((q704 131 11 (by decide)).trans z7); have h2_0 := congrArg Int32.toInt z7; omega), (by rw [((q704 131 41 (by decide)).trans z10)]; exact R_of r19 rfl), (by rw [((q704 131 42 (by decide)).trans z13)]; exact R_of r14 rfl), (by rw [((q704 131 43 (by decide)).trans z16)]; exact R_of r20 rfl), (by rw [((q704 131 45 (by decide)).trans z2)]; exact R_of hf_0 rfl), (fun h => by exfalso; omega)⟩ (nr_bool (R_of (lo := 0) (hi := 1) q705 rfl)) dX12_operand_37
def po_X12_behind (τ : Tau)     (r : Int32) (u : Tau) : Prop := Inv u ∧ Fr [(131, 15), (131, 16), (131, 4), (131, 11), (131, 12), (131, 13), (131, 14), (131, 41), (131, 43), (131, 44), (131, 45)] [135, 148, 331] τ u ∧ R (0) (1) r ∧ R (0) (940) (u 131 4) ∧ R (0) (4) (u 131 11) ∧ (τ 131 4).toInt ≤ (u 131 4).toInt ∧ (r.toInt = 1 ∧ 1 ≤ (u 131 11).toInt ∧ (u 131 11).toInt ≤ 3 → (τ 131 4).toInt < (u 131 4).toInt) ∧ (r.toInt = 1 → 1 ≤ (τ 131 11).toInt ∧ (τ 131 11).toInt ≤ 3) ∧ R (0) (53) (u 131 41) ∧ R (0) (20) (u 131 42) ∧ R (0) (45) (u 131 43) ∧ R (0) (1) (u 131 45) ∧ (r.toInt = 1 → SI u)
set_option maxHeartbeats 4000000 in
set_option maxRecDepth 100000 in
theorem c_X12_behind (l : Launch) (G : Gx) (τ : Tau) (hI : Inv τ) (hf_0 : R (1) (1) (τ 131 45)) (hp_0 : SI τ) : Ci l G yX12_behind cX12_behind 1 (some .boolean) 2 44 [.ref (G.2.2.2.1 131)] τ (po_X12_behind τ    ) := by
  unfold Ci
  refine C_of (own := RX12) (by decide) rfl (Nat.le_of_ble_eq_true rfl) ?_
  intro p e s m below meth c ls S hr hlk X hl
  have hl : lv_has ls 1 [(0, .ref (G.2.2.2.1 131))] := hl
  obtain ⟨v1, z2⟩ : ∃ x, τ 131 45 = x := ⟨_, rfl⟩
  rw [z2] at hf_0
  obtain ⟨v3, z4⟩ : ∃ x, τ 131 4 = x := ⟨_, rfl⟩
  have r5 : R (0) (940) v3 := rd hI rfl z4
  obtain ⟨v6, z7⟩ : ∃ x, τ 131 11 = x := ⟨_, rfl⟩
  have r8 : R (0) (4) v6 := rd hI rfl z7
  obtain ⟨v9, z10⟩ : ∃ x, τ 131 41 = x := ⟨_, rfl⟩
  have r11 : R (0) (53) v9 := rd hI rfl z10
  obtain ⟨v12, z13⟩ : ∃ x, τ 131 42 = x := ⟨_, rfl⟩
  have r14 : R (0) (20) v12 := rd hI rfl z13
  obtain ⟨v15, z16⟩ : ∃ x, τ 131 43 = x := ⟨_, rfl⟩
  have r17 : R (0) (45) v15 := rd hI rfl z16
  refine r_aload_n S dX12_behind_0 rfl (lv_at hl 0 rfl) ?_
  refine r_kv (q_V (As := []) (rest := []) (K := 38) (ci := 10) S X (c_X12_nots l G τ hI (by rw [z2]; exact R_of hf_0 rfl) hp_0) ck12_425 (Nat.le_of_ble_eq_true rfl) rfl (fun _ => ⟨_, rfl⟩) ⟨_, _, rfl⟩ ⟨Nat.le_of_ble_eq_true rfl, Nat.le_of_ble_eq_true rfl⟩ rfl hl.1 rfl (Nat.le_of_ble_eq_true rfl) dX12_behind_1 ⟨Nat.le_refl 0, Nat.le_refl 0⟩) X (fun t20 H lc q18 X19 => ?_)
  unfold po_X12_nots at q18
  obtain ⟨q21, q22, q23, q24, q25⟩ := q18
  have F26 : Fr [(131, 15), (131, 16), (131, 4), (131, 11), (131, 12), (131, 13), (131, 14), (131, 41), (131, 43), (131, 44), (131, 45)] [135, 148, 331] τ t20 := Fr_call Fr_rfl q22 (by decide)
  obtain ⟨v27, z28⟩ : ∃ x, t20 131 41 = x := ⟨_, rfl⟩
  rw [z28] at q23
  obtain ⟨v29, z30⟩ : ∃ x, t20 131 43 = x := ⟨_, rfl⟩
  rw [z30] at q24
  refine r_aload_n S dX12_behind_4 rfl (lv_at hl 0 rfl) ?_
  refine lv_ldc2 S.1.1 S.1.2.1 S.1.2.2.2.1 (S.1.2.2.2.2 _ kw50) dX12_behind_5 ?_
  refine lv_topl (fun j31 z32 => ?_)
  refine r_ki (q_V (As := [.long j31]) (rest := []) (K := 38) (ci := 10) S X19 (c_X12_isWord l G t20 q21 j31) ck12_208 (Nat.le_of_ble_eq_true rfl) rfl (fun _ => ⟨_, rfl⟩) ⟨_, _, rfl⟩ ⟨Nat.le_of_ble_eq_true rfl, Nat.le_of_ble_eq_true rfl⟩ rfl hl.1 rfl (Nat.le_of_ble_eq_true rfl) dX12_behind_8 ⟨Nat.le_refl 0, Nat.le_refl 0⟩) X19 (fun v36 t35 H lc q33 X34 => ?_)
  unfold po_X12_isWord at q33
  obtain ⟨q37, q38, q39⟩ := q33
  rw [q37] at X34
  rw [q37] at q39
  refine r_if_ne (tgt := 24) S dX12_behind_11 (by decide) (fun c40 => ?_) (fun c40 => ?_)
  ·
    have r41 : R (1) (1) v36 := ⟨by omega, by omega⟩
    have p42 := q39 (by omega)
    have r43 : R (1) (1) v6 := ((q22 131 11 (by decide)).trans z7) ▸ p42
    have r44 : R (1) (1) v6 := ⟨by omega, by omega⟩
    refine r_aload_n S dX12_behind_24 rfl (lv_at hl 0 rfl) ?_
    refine r_aload_n S dX12_behind_25 rfl (lv_at hl 0 rfl) ?_
    refine lv_ldc2 S.1.1 S.1.2.1 S.1.2.2.2.1 (S.1.2.2.2.2 _ kw50) dX12_behind_26 ?_
    refine lv_topl (fun j45 z46 => ?_)
    refine r_ki (q_V (As := [.long j45]) (rest := [.ref (G.2.2.2.1 131)]) (K := 38) (ci := 10) S X34 (c_X12_isWord l G t20 q21 j45) ck12_208 (Nat.le_of_ble_eq_true rfl) rfl (fun _ => ⟨_, rfl⟩) ⟨_, _, rfl⟩ ⟨Nat.le_of_ble_eq_true rfl, Nat.le_of_ble_eq_true rfl⟩ rfl hl.1 rfl (Nat.le_of_ble_eq_true rfl) dX12_behind_29 ⟨Nat.le_refl 0, Nat.le_refl 0⟩) X34 (fun v50 t49 H lc q47 X48 => ?_)
    unfold po_X12_isWord at q47
    obtain ⟨q51, q52, q53⟩ := q47
    rw [q51] at X48
    rw [q51] at q53
    refine r_if_eq (tgt := 40) S dX12_behind_32 (by decide) (fun c54 => ?_) (fun c54 => ?_)
    ·
      have r55 : R (0) (0) v50 := ⟨by omega, by omega⟩
      refine r_bipush S dX12_behind_40 (by decide) (fun v56 z57 => ?_)
      have r58 := R_eq z57
      refine r_kv (q_V (As := [.int v56]) (rest := []) (K := 38) (ci := 10) S X48 (c_X12_joins_22 l G t20 q21 v56 r58 (by rw [((q22 131 45 (by decide)).trans z2)]; exact R_of hf_0 rfl) q25) ck12_428 (Nat.le_of_ble_eq_true rfl) rfl (fun _ => ⟨_, rfl⟩) ⟨_, _, rfl⟩ ⟨Nat.le_of_ble_eq_true rfl, Nat.le_of_ble_eq_true rfl⟩ rfl hl.1 rfl (Nat.le_of_ble_eq_true rfl) dX12_behind_42 ⟨Nat.le_refl 0, Nat.le_refl 0⟩) X48 (fun t61 H lc q59 X60 => ?_)
      unfold po_X12_joins_22 at q59
      obtain ⟨q62, q63, q64, q65, q66, q67⟩ := q59
      have F68 : Fr [(131, 15), (131, 16), (131, 4), (131, 11), (131, 12), (131, 13), (131, 14), (131, 41), (131, 43), (131, 44), (131, 45)] [135, 148, 331] τ t61 := Fr_call F26 q63 (by decide)
      obtain ⟨v69, z70⟩ : ∃ x, t61 131 41 = x := ⟨_, rfl⟩
      rw [z70] at q64
      obtain ⟨v71, z72⟩ : ∃ x, t61 131 43 = x := ⟨_, rfl⟩
      rw [z72] at q65
      have h73 := SI_b q66 z70 ((q63 131 42 (by decide)).trans ((q22 131 42 (by decide)).trans z13)) z72 ((q63 131 45 (by decide)).trans ((q22 131 45 (by decide)).trans z2))
      have r74 : R (0) (39) v69 := ⟨by omega, by omega⟩
      have r75 : R (0) (39) v71 := ⟨by omega, by omega⟩
      refine r_aload_n S dX12_behind_45 rfl (lv_at hl 0 rfl) ?_
      refine r_get (K := 38) (v := .ref (G.2.2.2.1 148)) S X60 (Nat.le_of_ble_eq_true rfl) rfl lk12_84_10 (fun _ => ⟨_, rfl, rfl⟩) dX12_behind_46 ?_
      refine r_aload_n S dX12_behind_49 rfl (lv_at hl 0 rfl) ?_
      refine r_geti (K := 38) S X60 (Nat.le_of_ble_eq_true rfl) rfl lk12_407_10 (fun _ => ⟨_, rfl, rfl⟩) z72 dX12_behind_50 ?_
      refine r_aload_n S dX12_behind_53 rfl (lv_at hl 0 rfl) ?_
      refine lv_ldc2 S.1.1 S.1.2.1 S.1.2.2.2.1 (S.1.2.2.2.2 _ kw50) dX12_behind_54 ?_
      refine lv_topl (fun j76 z77 => ?_)
      refine r_ki (q_V (As := [.long j76]) (rest := [.int v71, .ref (G.2.2.2.1 148)]) (K := 38) (ci := 10) S X60 (c_X12_isWord l G t61 q62 j76) ck12_208 (Nat.le_of_ble_eq_true rfl) rfl (fun _ => ⟨_, rfl⟩) ⟨_, _, rfl⟩ ⟨Nat.le_of_ble_eq_true rfl, Nat.le_of_ble_eq_true rfl⟩ rfl hl.1 rfl (Nat.le_of_ble_eq_true rfl) dX12_behind_57 ⟨Nat.le_refl 0, Nat.le_refl 0⟩) X60 (fun v81 t80 H lc q78 X79 => ?_)
      unfold po_X12_isWord at q78
      obtain ⟨q82, q83, q84⟩ := q78
      rw [q82] at X79
      rw [q82] at q84
      refine r_if_eq (tgt := 68) S dX12_behind_60 (by decide) (fun c85 => ?_) (fun c85 => ?_)
      ·
        have r86 : R (0) (0) v81 := ⟨by omega, by omega⟩
        refine r_bipush S dX12_behind_68 (by decide) (fun v87 z88 => ?_)
        have r89 := R_eq z88
        refine r_ast (n := 45) (K := 55) S X79 (Nat.le_of_ble_eq_true rfl) rfl (fun _ _ => rfl) (ix_of r75 rfl) dX12_behind_70 (fun t90 H lc M91 X92 => ?_)
        have I93 := Inv_mu q62 M91 (R_any v87)
        have F94 : Fr [(131, 15), (131, 16), (131, 4), (131, 11), (131, 12), (131, 13), (131, 14), (131, 41), (131, 43), (131, 44), (131, 45)] [135, 148, 331] τ t90 := Fr_cell F68 M91 (by decide)
        refine r_aload_n S dX12_behind_71 rfl (lv_at hl 0 rfl) ?_
        refine r_dup S dX12_behind_72 rfl ?_
        refine r_geti (K := 38) S X92 (Nat.le_of_ble_eq_true rfl) rfl lk12_407_10 (fun _ => ⟨_, rfl, rfl⟩) ((M91.2 131 43 (Or.inl (by decide))).trans z72) dX12_behind_73 ?_
        refine r_iconst S dX12_behind_76 (by decide) (fun v95 z96 => ?_)
        have r97 := R_eq z96
        refine r_iadd S dX12_behind_77 (fun v98 z99 => ?_)
        obtain ⟨e100, r101⟩ := i_add (lo := 1) (hi := 40) z99 r75 r97 rfl
        refine r_put (K := 38) (ty := .int) S X92 (Nat.le_of_ble_eq_true rfl) rfl lk12_407_10 (fun _ => ⟨_, rfl, Nat.le_of_ble_eq_true rfl, rfl⟩) (fun _ _ _ h => by cases h; exact ⟨rfl, rfl⟩) rfl rfl dX12_behind_78 (fun t102 H lc M103 X104 => ?_)
        have I105 := Inv_mu I93 M103 (show Rg (kd 131) 43 v98 from (R_of (lo := 0) (hi := 45) r101 rfl))
        have F106 : Fr [(131, 15), (131, 16), (131, 4), (131, 11), (131, 12), (131, 13), (131, 14), (131, 41), (131, 43), (131, 44), (131, 45)] [135, 148, 331] τ t102 := Fr_mu F94 M103 (by decide)
        refine r_aload_n S dX12_behind_81 rfl (lv_at hl 0 rfl) ?_
        refine r_iconst S dX12_behind_82 (by decide) (fun v107 z108 => ?_)
        have r109 := R_eq z108
        refine r_put (K := 38) (ty := .boolean) S X104 (Nat.le_of_ble_eq_true rfl) rfl lk12_422_10 (fun _ => ⟨_, rfl, Nat.le_of_ble_eq_true rfl, rfl⟩) (fun _ _ _ h => by cases h; exact ⟨rfl, rfl⟩) (nr_bool (R_of (lo := 0) (hi := 1) r109 rfl)) (ft_bool (R_of (lo := 0) (hi := 1) r109 rfl)) dX12_behind_83 (fun t110 H lc M111 X112 => ?_)
        have I113 := Inv_mu I105 M111 (show Rg (kd 131) 45 v107 from (R_of (lo := 0) (hi := 1) r109 rfl))
        have F114 : Fr [(131, 15), (131, 16), (131, 4), (131, 11), (131, 12), (131, 13), (131, 14), (131, 41), (131, 43), (131, 44), (131, 45)] [135, 148, 331] τ t110 := Fr_mu F106 M111 (by decide)
        refine r_aload_n S dX12_behind_86 rfl (lv_at hl 0 rfl) ?_
        refine r_kv (q_V (As := []) (rest := []) (K := 38) (ci := 10) S X112 (c_X12_skip l G t110 I113 ) ck12_186 (Nat.le_of_ble_eq_true rfl) rfl (fun _ => ⟨_, rfl⟩) ⟨_, _, rfl⟩ ⟨Nat.le_of_ble_eq_true rfl, Nat.le_of_ble_eq_true rfl⟩ rfl hl.1 rfl (Nat.le_of_ble_eq_true rfl) dX12_behind_87 ⟨Nat.le_refl 0, Nat.le_refl 0⟩) X112 (fun t117 H lc q115 X116 => ?_)
        unfold po_X12_skip at q115
        obtain ⟨q118, q119, q120, q121, q122, q123⟩ := q115
        have F124 : Fr [(131, 15), (131, 16), (131, 4), (131, 11), (131, 12), (131, 13), (131, 14), (131, 41), (131, 43), (131, 44), (131, 45)] [135, 148, 331] τ t117 := Fr_call F114 q119 (by decide)
        obtain ⟨v125, z126⟩ : ∃ x, t117 131 4 = x := ⟨_, rfl⟩
        rw [z126] at q120
        obtain ⟨v127, z128⟩ : ∃ x, t117 131 11 = x := ⟨_, rfl⟩
        rw [z128] at q121
        have e129 := congrArg Int32.toInt ((M111.2 131 4 (Or.inr (by decide))).trans ((M103.2 131 4 (Or.inr (by decide))).trans ((M91.2 131 4 (Or.inl (by decide))).trans ((q63 131 4 (by decide)).trans ((q22 131 4 (by decide)).trans z4)))))
        have e130 := congrArg Int32.toInt z126
        have e131 := congrArg Int32.toInt ((M111.2 131 4 (Or.inr (by decide))).trans ((M103.2 131 4 (Or.inr (by decide))).trans ((M91.2 131 4 (Or.inl (by decide))).trans ((q63 131 4 (by decide)).trans ((q22 131 4 (by decide)).trans z4)))))
        have e132 := congrArg Int32.toInt z126
        have e133 := congrArg Int32.toInt ((M111.2 131 11 (Or.inr (by decide))).trans ((M103.2 131 11 (Or.inr (by decide))).trans ((M91.2 131 11 (Or.inl (by decide))).trans ((q63 131 11 (by decide)).trans ((q22 131 11 (by decide)).trans z7)))))
        have e134 := congrArg Int32.toInt z128
        refine r_iconst S dX12_behind_90 (by decide) (fun v135 z136 => ?_)
        have r137 := R_eq z136
        exact r_ret S hr hlk X116 ⟨q118, F124, (R_of r137 rfl), (by rw [z126]; exact R_of q120 rfl), (by rw [z128]; exact R_of q121 rfl), (by have h1_0 := congrArg Int32.toInt z126; have h2_0 := congrArg Int32.toInt z4; omega), (by have h1_0 := congrArg Int32.toInt z126; have h2_0 := congrArg Int32.toInt z4; have h1_1 := congrArg Int32.toInt z128; have h2_1 := congrArg Int32.toInt z7; omega), (by have h1_0 := congrArg Int32.toInt z128; have h2_0 := congrArg Int32.toInt z7; omega), (by rw [((q119 131 41 (by decide)).trans ((M111.2 131 41 (Or.inr (by decide))).trans ((M103.2 131 41 (Or.inr (by decide))).trans ((M91.2 131 41 (Or.inl (by decide))).trans z70))))]; exact R_of r74 rfl), (by rw [((q119 131 42 (by decide)).trans ((M111.2 131 42 (Or.inr (by decide))).trans ((M103.2 131 42 (Or.inr (by decide))).trans ((M91.2 131 42 (Or.inl (by decide))).trans ((q63 131 42 (by decide)).trans ((q22 131 42 (by decide)).trans z13))))))]; exact R_of r14 rfl), (by rw [((q119 131 43 (by decide)).trans ((M111.2 131 43 (Or.inr (by decide))).trans M103.1))]; exact R_of r101 rfl), (by rw [((q119 131 45 (by decide)).trans M111.1)]; exact R_of r109 rfl), (fun _ => (by have n1 := congrArg Int32.toInt ((q63 131 42 (by decide)).trans ((q22 131 42 (by decide)).trans z13)); have n2 := congrArg Int32.toInt ((q63 131 45 (by decide)).trans ((q22 131 45 (by decide)).trans z2)); exact SI_push q66 (fun j => ((q119 135 j (by simp [fz])).trans ((M111.2 135 j (Or.inl (by decide))).trans ((M103.2 135 j (Or.inl (by decide))).trans ((M91.2 135 j (Or.inl (by decide))).trans rfl))))) ((q119 131 41 (by decide)).trans ((M111.2 131 41 (Or.inr (by decide))).trans ((M103.2 131 41 (Or.inr (by decide))).trans ((M91.2 131 41 (Or.inl (by decide))).trans rfl)))) ((q119 131 42 (by decide)).trans ((M111.2 131 42 (Or.inr (by decide))).trans ((M103.2 131 42 (Or.inr (by decide))).trans ((M91.2 131 42 (Or.inl (by decide))).trans ((q63 131 42 (by decide)).trans ((q22 131 42 (by decide)).trans z13)))))) ((q119 131 43 (by decide)).trans ((M111.2 131 43 (Or.inr (by decide))).trans M103.1)) ((q119 131 45 (by decide)).trans M111.1) z72 (fun j hj => ((q119 148 j (by simp [fz])).trans ((M111.2 148 j (Or.inl (by decide))).trans ((M103.2 148 j (Or.inl (by decide))).trans ((M91.2 148 j (Or.inr hj)).trans rfl))))) (((q119 148 v71.toNatClampNeg (by simp [fz])).trans ((M111.2 148 v71.toNatClampNeg (Or.inl (by decide))).trans ((M103.2 148 v71.toNatClampNeg (Or.inl (by decide))).trans rfl))).trans M91.1) (by omega) (Or.inr ⟨by omega, by omega, by omega, by omega⟩)))⟩ (nr_bool (R_of (lo := 0) (hi := 1) r137 rfl)) dX12_behind_91
      ·
        have r138 : R (1) (1) v81 := ⟨by omega, by omega⟩
        have p139 := q84 (by omega)
        have r140 : R (1) (1) v6 := ((q63 131 11 (by decide)).trans ((q22 131 11 (by decide)).trans z7)) ▸ p139
        have r141 : R (1) (1) v6 := ⟨by omega, by omega⟩
        refine r_bipush S dX12_behind_63 (by decide) (fun v142 z143 => ?_)
        have r144 := R_eq z143
        refine r_goto (tgt := 70) S dX12_behind_65 (by decide) ?_
        refine r_ast (n := 45) (K := 55) S X79 (Nat.le_of_ble_eq_true rfl) rfl (fun _ _ => rfl) (ix_of r75 rfl) dX12_behind_70 (fun t145 H lc M146 X147 => ?_)
        have I148 := Inv_mu q62 M146 (R_any v142)
        have F149 : Fr [(131, 15), (131, 16), (131, 4), (131, 11), (131, 12), (131, 13), (131, 14), (131, 41), (131, 43), (131, 44), (131, 45)] [135, 148, 331] τ t145 := Fr_cell F68 M146 (by decide)
        refine r_aload_n S dX12_behind_71 rfl (lv_at hl 0 rfl) ?_
        refine r_dup S dX12_behind_72 rfl ?_
        refine r_geti (K := 38) S X147 (Nat.le_of_ble_eq_true rfl) rfl lk12_407_10 (fun _ => ⟨_, rfl, rfl⟩) ((M146.2 131 43 (Or.inl (by decide))).trans z72) dX12_behind_73 ?_
        refine r_iconst S dX12_behind_76 (by decide) (fun v150 z151 => ?_)
        have r152 := R_eq z151
        refine r_iadd S dX12_behind_77 (fun v153 z154 => ?_)
        obtain ⟨e155, r156⟩ := i_add (lo := 1) (hi := 40) z154 r75 r152 rfl
        refine r_put (K := 38) (ty := .int) S X147 (Nat.le_of_ble_eq_true rfl) rfl lk12_407_10 (fun _ => ⟨_, rfl, Nat.le_of_ble_eq_true rfl, rfl⟩) (fun _ _ _ h => by cases h; exact ⟨rfl, rfl⟩) rfl rfl dX12_behind_78 (fun t157 H lc M158 X159 => ?_)
        have I160 := Inv_mu I148 M158 (show Rg (kd 131) 43 v153 from (R_of (lo := 0) (hi := 45) r156 rfl))
        have F161 : Fr [(131, 15), (131, 16), (131, 4), (131, 11), (131, 12), (131, 13), (131, 14), (131, 41), (131, 43), (131, 44), (131, 45)] [135, 148, 331] τ t157 := Fr_mu F149 M158 (by decide)
        refine r_aload_n S dX12_behind_81 rfl (lv_at hl 0 rfl) ?_
        refine r_iconst S dX12_behind_82 (by decide) (fun v162 z163 => ?_)
        have r164 := R_eq z163
        refine r_put (K := 38) (ty := .boolean) S X159 (Nat.le_of_ble_eq_true rfl) rfl lk12_422_10 (fun _ => ⟨_, rfl, Nat.le_of_ble_eq_true rfl, rfl⟩) (fun _ _ _ h => by cases h; exact ⟨rfl, rfl⟩) (nr_bool (R_of (lo := 0) (hi := 1) r164 rfl)) (ft_bool (R_of (lo := 0) (hi := 1) r164 rfl)) dX12_behind_83 (fun t165 H lc M166 X167 => ?_)
        have I168 := Inv_mu I160 M166 (show Rg (kd 131) 45 v162 from (R_of (lo := 0) (hi := 1) r164 rfl))
        have F169 : Fr [(131, 15), (131, 16), (131, 4), (131, 11), (131, 12), (131, 13), (131, 14), (131, 41), (131, 43), (131, 44), (131, 45)] [135, 148, 331] τ t165 := Fr_mu F161 M166 (by decide)
        refine r_aload_n S dX12_behind_86 rfl (lv_at hl 0 rfl) ?_
        refine r_kv (q_V (As := []) (rest := []) (K := 38) (ci := 10) S X167 (c_X12_skip l G t165 I168 ) ck12_186 (Nat.le_of_ble_eq_true rfl) rfl (fun _ => ⟨_, rfl⟩) ⟨_, _, rfl⟩ ⟨Nat.le_of_ble_eq_true rfl, Nat.le_of_ble_eq_true rfl⟩ rfl hl.1 rfl (Nat.le_of_ble_eq_true rfl) dX12_behind_87 ⟨Nat.le_refl 0, Nat.le_refl 0⟩) X167 (fun t172 H lc q170 X171 => ?_)
        unfold po_X12_skip at q170
        obtain ⟨q173, q174, q175, q176, q177, q178⟩ := q170
        have F179 : Fr [(131, 15), (131, 16), (131, 4), (131, 11), (131, 12), (131, 13), (131, 14), (131, 41), (131, 43), (131, 44), (131, 45)] [135, 148, 331] τ t172 := Fr_call F169 q174 (by decide)
        obtain ⟨v180, z181⟩ : ∃ x, t172 131 4 = x := ⟨_, rfl⟩
        rw [z181] at q175
        obtain ⟨v182, z183⟩ : ∃ x, t172 131 11 = x := ⟨_, rfl⟩
        rw [z183] at q176
        have e184 := congrArg Int32.toInt ((M166.2 131 4 (Or.inr (by decide))).trans ((M158.2 131 4 (Or.inr (by decide))).trans ((M146.2 131 4 (Or.inl (by decide))).trans ((q63 131 4 (by decide)).trans ((q22 131 4 (by decide)).trans z4)))))
        have e185 := congrArg Int32.toInt z181
        have e186 := congrArg Int32.toInt ((M166.2 131 4 (Or.inr (by decide))).trans ((M158.2 131 4 (Or.inr (by decide))).trans ((M146.2 131 4 (Or.inl (by decide))).trans ((q63 131 4 (by decide)).trans ((q22 131 4 (by decide)).trans z4)))))
        have e187 := congrArg Int32.toInt z181
        have e188 := congrArg Int32.toInt ((M166.2 131 11 (Or.inr (by decide))).trans ((M158.2 131 11 (Or.inr (by decide))).trans ((M146.2 131 11 (Or.inl (by decide))).trans ((q63 131 11 (by decide)).trans ((q22 131 11 (by decide)).trans z7)))))
        have e189 := congrArg Int32.toInt z183
        refine r_iconst S dX12_behind_90 (by decide) (fun v190 z191 => ?_)
        have r192 := R_eq z191
        exact r_ret S hr hlk X171 ⟨q173, F179, (R_of r192 rfl), (by rw [z181]; exact R_of q175 rfl), (by rw [z183]; exact R_of q176 rfl), (by have h1_0 := congrArg Int32.toInt z181; have h2_0 := congrArg Int32.toInt z4; omega), (by have h1_0 := congrArg Int32.toInt z181; have h2_0 := congrArg Int32.toInt z4; have h1_1 := congrArg Int32.toInt z183; have h2_1 := congrArg Int32.toInt z7; omega), (by have h1_0 := congrArg Int32.toInt z183; have h2_0 := congrArg Int32.toInt z7; omega), (by rw [((q174 131 41 (by decide)).trans ((M166.2 131 41 (Or.inr (by decide))).trans ((M158.2 131 41 (Or.inr (by decide))).trans ((M146.2 131 41 (Or.inl (by decide))).trans z70))))]; exact R_of r74 rfl), (by rw [((q174 131 42 (by decide)).trans ((M166.2 131 42 (Or.inr (by decide))).trans ((M158.2 131 42 (Or.inr (by decide))).trans ((M146.2 131 42 (Or.inl (by decide))).trans ((q63 131 42 (by decide)).trans ((q22 131 42 (by decide)).trans z13))))))]; exact R_of r14 rfl), (by rw [((q174 131 43 (by decide)).trans ((M166.2 131 43 (Or.inr (by decide))).trans M158.1))]; exact R_of r156 rfl), (by rw [((q174 131 45 (by decide)).trans M166.1)]; exact R_of r164 rfl), (fun _ => (by have n1 := congrArg Int32.toInt ((q63 131 42 (by decide)).trans ((q22 131 42 (by decide)).trans z13)); have n2 := congrArg Int32.toInt ((q63 131 45 (by decide)).trans ((q22 131 45 (by decide)).trans z2)); exact SI_push q66 (fun j => ((q174 135 j (by simp [fz])).trans ((M166.2 135 j (Or.inl (by decide))).trans ((M158.2 135 j (Or.inl (by decide))).trans ((M146.2 135 j (Or.inl (by decide))).trans rfl))))) ((q174 131 41 (by decide)).trans ((M166.2 131 41 (Or.inr (by decide))).trans ((M158.2 131 41 (Or.inr (by decide))).trans ((M146.2 131 41 (Or.inl (by decide))).trans rfl)))) ((q174 131 42 (by decide)).trans ((M166.2 131 42 (Or.inr (by decide))).trans ((M158.2 131 42 (Or.inr (by decide))).trans ((M146.2 131 42 (Or.inl (by decide))).trans ((q63 131 42 (by decide)).trans ((q22 131 42 (by decide)).trans z13)))))) ((q174 131 43 (by decide)).trans ((M166.2 131 43 (Or.inr (by decide))).trans M158.1)) ((q174 131 45 (by decide)).trans M166.1) z72 (fun j hj => ((q174 148 j (by simp [fz])).trans ((M166.2 148 j (Or.inl (by decide))).trans ((M158.2 148 j (Or.inl (by decide))).trans ((M146.2 148 j (Or.inr hj)).trans rfl))))) (((q174 148 v71.toNatClampNeg (by simp [fz])).trans ((M166.2 148 v71.toNatClampNeg (Or.inl (by decide))).trans ((M158.2 148 v71.toNatClampNeg (Or.inl (by decide))).trans rfl))).trans M146.1) (by omega) (Or.inr ⟨by omega, by omega, by omega, by omega⟩)))⟩ (nr_bool (R_of (lo := 0) (hi := 1) r192 rfl)) dX12_behind_91
    ·
      have r193 : R (1) (1) v50 := ⟨by omega, by omega⟩
      have p194 := q53 (by omega)
      have r195 : R (1) (1) v6 := ((q22 131 11 (by decide)).trans z7) ▸ p194
      have r196 : R (1) (1) v6 := ⟨by omega, by omega⟩
      refine r_bipush S dX12_behind_35 (by decide) (fun v197 z198 => ?_)
      have r199 := R_eq z198
      refine r_goto (tgt := 42) S dX12_behind_37 (by decide) ?_
      refine r_kv (q_V (As := [.int v197]) (rest := []) (K := 38) (ci := 10) S X48 (c_X12_joins_21 l G t20 q21 v197 r199 (by rw [((q22 131 45 (by decide)).trans z2)]; exact R_of hf_0 rfl) q25) ck12_428 (Nat.le_of_ble_eq_true rfl) rfl (fun _ => ⟨_, rfl⟩) ⟨_, _, rfl⟩ ⟨Nat.le_of_ble_eq_true rfl, Nat.le_of_ble_eq_true rfl⟩ rfl hl.1 rfl (Nat.le_of_ble_eq_true rfl) dX12_behind_42 ⟨Nat.le_refl 0, Nat.le_refl 0⟩) X48 (fun t202 H lc q200 X201 => ?_)
      unfold po_X12_joins_21 at q200
      obtain ⟨q203, q204, q205, q206, q207⟩ := q200
      have F208 : Fr [(131, 15), (131, 16), (131, 4), (131, 11), (131, 12), (131, 13), (131, 14), (131, 41), (131, 43), (131, 44), (131, 45)] [135, 148, 331] τ t202 := Fr_call F26 q204 (by decide)
      obtain ⟨v209, z210⟩ : ∃ x, t202 131 41 = x := ⟨_, rfl⟩
      rw [z210] at q205
      obtain ⟨v211, z212⟩ : ∃ x, t202 131 43 = x := ⟨_, rfl⟩
      rw [z212] at q206
      have h213 := SI_b q207 z210 ((q204 131 42 (by decide)).trans ((q22 131 42 (by decide)).trans z13)) z212 ((q204 131 45 (by decide)).trans ((q22 131 45 (by decide)).trans z2))
      have r214 : R (0) (39) v209 := ⟨by omega, by omega⟩
      have r215 : R (0) (39) v211 := ⟨by omega, by omega⟩
      refine r_aload_n S dX12_behind_45 rfl (lv_at hl 0 rfl) ?_
      refine r_get (K := 38) (v := .ref (G.2.2.2.1 148)) S X201 (Nat.le_of_ble_eq_true rfl) rfl lk12_84_10 (fun _ => ⟨_, rfl, rfl⟩) dX12_behind_46 ?_
      refine r_aload_n S dX12_behind_49 rfl (lv_at hl 0 rfl) ?_
      refine r_geti (K := 38) S X201 (Nat.le_of_ble_eq_true rfl) rfl lk12_407_10 (fun _ => ⟨_, rfl, rfl⟩) z212 dX12_behind_50 ?_
      refine r_aload_n S dX12_behind_53 rfl (lv_at hl 0 rfl) ?_
      refine lv_ldc2 S.1.1 S.1.2.1 S.1.2.2.2.1 (S.1.2.2.2.2 _ kw50) dX12_behind_54 ?_
      refine lv_topl (fun j216 z217 => ?_)
      refine r_ki (q_V (As := [.long j216]) (rest := [.int v211, .ref (G.2.2.2.1 148)]) (K := 38) (ci := 10) S X201 (c_X12_isWord l G t202 q203 j216) ck12_208 (Nat.le_of_ble_eq_true rfl) rfl (fun _ => ⟨_, rfl⟩) ⟨_, _, rfl⟩ ⟨Nat.le_of_ble_eq_true rfl, Nat.le_of_ble_eq_true rfl⟩ rfl hl.1 rfl (Nat.le_of_ble_eq_true rfl) dX12_behind_57 ⟨Nat.le_refl 0, Nat.le_refl 0⟩) X201 (fun v221 t220 H lc q218 X219 => ?_)
      unfold po_X12_isWord at q218
      obtain ⟨q222, q223, q224⟩ := q218
      rw [q222] at X219
      rw [q222] at q224
      refine r_if_eq (tgt := 68) S dX12_behind_60 (by decide) (fun c225 => ?_) (fun c225 => ?_)
      ·
        have r226 : R (0) (0) v221 := ⟨by omega, by omega⟩
        refine r_bipush S dX12_behind_68 (by decide) (fun v227 z228 => ?_)
        have r229 := R_eq z228
        refine r_ast (n := 45) (K := 55) S X219 (Nat.le_of_ble_eq_true rfl) rfl (fun _ _ => rfl) (ix_of r215 rfl) dX12_behind_70 (fun t230 H lc M231 X232 => ?_)
        have I233 := Inv_mu q203 M231 (R_any v227)
        have F234 : Fr [(131, 15), (131, 16), (131, 4), (131, 11), (131, 12), (131, 13), (131, 14), (131, 41), (131, 43), (131, 44), (131, 45)] [135, 148, 331] τ t230 := Fr_cell F208 M231 (by decide)
        refine r_aload_n S dX12_behind_71 rfl (lv_at hl 0 rfl) ?_
        refine r_dup S dX12_behind_72 rfl ?_
        refine r_geti (K := 38) S X232 (Nat.le_of_ble_eq_true rfl) rfl lk12_407_10 (fun _ => ⟨_, rfl, rfl⟩) ((M231.2 131 43 (Or.inl (by decide))).trans z212) dX12_behind_73 ?_
        refine r_iconst S dX12_behind_76 (by decide) (fun v235 z236 => ?_)
        have r237 := R_eq z236
        refine r_iadd S dX12_behind_77 (fun v238 z239 => ?_)
        obtain ⟨e240, r241⟩ := i_add (lo := 1) (hi := 40) z239 r215 r237 rfl
        refine r_put (K := 38) (ty := .int) S X232 (Nat.le_of_ble_eq_true rfl) rfl lk12_407_10 (fun _ => ⟨_, rfl, Nat.le_of_ble_eq_true rfl, rfl⟩) (fun _ _ _ h => by cases h; exact ⟨rfl, rfl⟩) rfl rfl dX12_behind_78 (fun t242 H lc M243 X244 => ?_)
        have I245 := Inv_mu I233 M243 (show Rg (kd 131) 43 v238 from (R_of (lo := 0) (hi := 45) r241 rfl))
        have F246 : Fr [(131, 15), (131, 16), (131, 4), (131, 11), (131, 12), (131, 13), (131, 14), (131, 41), (131, 43), (131, 44), (131, 45)] [135, 148, 331] τ t242 := Fr_mu F234 M243 (by decide)
        refine r_aload_n S dX12_behind_81 rfl (lv_at hl 0 rfl) ?_
        refine r_iconst S dX12_behind_82 (by decide) (fun v247 z248 => ?_)
        have r249 := R_eq z248
        refine r_put (K := 38) (ty := .boolean) S X244 (Nat.le_of_ble_eq_true rfl) rfl lk12_422_10 (fun _ => ⟨_, rfl, Nat.le_of_ble_eq_true rfl, rfl⟩) (fun _ _ _ h => by cases h; exact ⟨rfl, rfl⟩) (nr_bool (R_of (lo := 0) (hi := 1) r249 rfl)) (ft_bool (R_of (lo := 0) (hi := 1) r249 rfl)) dX12_behind_83 (fun t250 H lc M251 X252 => ?_)
        have I253 := Inv_mu I245 M251 (show Rg (kd 131) 45 v247 from (R_of (lo := 0) (hi := 1) r249 rfl))
        have F254 : Fr [(131, 15), (131, 16), (131, 4), (131, 11), (131, 12), (131, 13), (131, 14), (131, 41), (131, 43), (131, 44), (131, 45)] [135, 148, 331] τ t250 := Fr_mu F246 M251 (by decide)
        refine r_aload_n S dX12_behind_86 rfl (lv_at hl 0 rfl) ?_
        refine r_kv (q_V (As := []) (rest := []) (K := 38) (ci := 10) S X252 (c_X12_skip l G t250 I253 ) ck12_186 (Nat.le_of_ble_eq_true rfl) rfl (fun _ => ⟨_, rfl⟩) ⟨_, _, rfl⟩ ⟨Nat.le_of_ble_eq_true rfl, Nat.le_of_ble_eq_true rfl⟩ rfl hl.1 rfl (Nat.le_of_ble_eq_true rfl) dX12_behind_87 ⟨Nat.le_refl 0, Nat.le_refl 0⟩) X252 (fun t257 H lc q255 X256 => ?_)
        unfold po_X12_skip at q255
        obtain ⟨q258, q259, q260, q261, q262, q263⟩ := q255
        have F264 : Fr [(131, 15), (131, 16), (131, 4), (131, 11), (131, 12), (131, 13), (131, 14), (131, 41), (131, 43), (131, 44), (131, 45)] [135, 148, 331] τ t257 := Fr_call F254 q259 (by decide)
        obtain ⟨v265, z266⟩ : ∃ x, t257 131 4 = x := ⟨_, rfl⟩
        rw [z266] at q260
        obtain ⟨v267, z268⟩ : ∃ x, t257 131 11 = x := ⟨_, rfl⟩
        rw [z268] at q261
        have e269 := congrArg Int32.toInt ((M251.2 131 4 (Or.inr (by decide))).trans ((M243.2 131 4 (Or.inr (by decide))).trans ((M231.2 131 4 (Or.inl (by decide))).trans ((q204 131 4 (by decide)).trans ((q22 131 4 (by decide)).trans z4)))))
        have e270 := congrArg Int32.toInt z266
        have e271 := congrArg Int32.toInt ((M251.2 131 4 (Or.inr (by decide))).trans ((M243.2 131 4 (Or.inr (by decide))).trans ((M231.2 131 4 (Or.inl (by decide))).trans ((q204 131 4 (by decide)).trans ((q22 131 4 (by decide)).trans z4)))))
        have e272 := congrArg Int32.toInt z266
        have e273 := congrArg Int32.toInt ((M251.2 131 11 (Or.inr (by decide))).trans ((M243.2 131 11 (Or.inr (by decide))).trans ((M231.2 131 11 (Or.inl (by decide))).trans ((q204 131 11 (by decide)).trans ((q22 131 11 (by decide)).trans z7)))))
        have e274 := congrArg Int32.toInt z268
        refine r_iconst S dX12_behind_90 (by decide) (fun v275 z276 => ?_)
        have r277 := R_eq z276
        exact r_ret S hr hlk X256 ⟨q258, F264, (R_of r277 rfl), (by rw [z266]; exact R_of q260 rfl), (by rw [z268]; exact R_of q261 rfl), (by have h1_0 := congrArg Int32.toInt z266; have h2_0 := congrArg Int32.toInt z4; omega), (by have h1_0 := congrArg Int32.toInt z266; have h2_0 := congrArg Int32.toInt z4; have h1_1 := congrArg Int32.toInt z268; have h2_1 := congrArg Int32.toInt z7; omega), (by have h1_0 := congrArg Int32.toInt z268; have h2_0 := congrArg Int32.toInt z7; omega), (by rw [((q259 131 41 (by decide)).trans ((M251.2 131 41 (Or.inr (by decide))).trans ((M243.2 131 41 (Or.inr (by decide))).trans ((M231.2 131 41 (Or.inl (by decide))).trans z210))))]; exact R_of r214 rfl), (by rw [((q259 131 42 (by decide)).trans ((M251.2 131 42 (Or.inr (by decide))).trans ((M243.2 131 42 (Or.inr (by decide))).trans ((M231.2 131 42 (Or.inl (by decide))).trans ((q204 131 42 (by decide)).trans ((q22 131 42 (by decide)).trans z13))))))]; exact R_of r14 rfl), (by rw [((q259 131 43 (by decide)).trans ((M251.2 131 43 (Or.inr (by decide))).trans M243.1))]; exact R_of r241 rfl), (by rw [((q259 131 45 (by decide)).trans M251.1)]; exact R_of r249 rfl), (fun _ => (by have n1 := congrArg Int32.toInt ((q204 131 42 (by decide)).trans ((q22 131 42 (by decide)).trans z13)); have n2 := congrArg Int32.toInt ((q204 131 45 (by decide)).trans ((q22 131 45 (by decide)).trans z2)); exact SI_push q207 (fun j => ((q259 135 j (by simp [fz])).trans ((M251.2 135 j (Or.inl (by decide))).trans ((M243.2 135 j (Or.inl (by decide))).trans ((M231.2 135 j (Or.inl (by decide))).trans rfl))))) ((q259 131 41 (by decide)).trans ((M251.2 131 41 (Or.inr (by decide))).trans ((M243.2 131 41 (Or.inr (by decide))).trans ((M231.2 131 41 (Or.inl (by decide))).trans rfl)))) ((q259 131 42 (by decide)).trans ((M251.2 131 42 (Or.inr (by decide))).trans ((M243.2 131 42 (Or.inr (by decide))).trans ((M231.2 131 42 (Or.inl (by decide))).trans ((q204 131 42 (by decide)).trans ((q22 131 42 (by decide)).trans z13)))))) ((q259 131 43 (by decide)).trans ((M251.2 131 43 (Or.inr (by decide))).trans M243.1)) ((q259 131 45 (by decide)).trans M251.1) z212 (fun j hj => ((q259 148 j (by simp [fz])).trans ((M251.2 148 j (Or.inl (by decide))).trans ((M243.2 148 j (Or.inl (by decide))).trans ((M231.2 148 j (Or.inr hj)).trans rfl))))) (((q259 148 v211.toNatClampNeg (by simp [fz])).trans ((M251.2 148 v211.toNatClampNeg (Or.inl (by decide))).trans ((M243.2 148 v211.toNatClampNeg (Or.inl (by decide))).trans rfl))).trans M231.1) (by omega) (Or.inr ⟨by omega, by omega, by omega, by omega⟩)))⟩ (nr_bool (R_of (lo := 0) (hi := 1) r277 rfl)) dX12_behind_91
      ·
        have r278 : R (1) (1) v221 := ⟨by omega, by omega⟩
        have p279 := q224 (by omega)
        have r280 : R (1) (1) v6 := ((q204 131 11 (by decide)).trans ((q22 131 11 (by decide)).trans z7)) ▸ p279
        have r281 : R (1) (1) v6 := ⟨by omega, by omega⟩
        refine r_bipush S dX12_behind_63 (by decide) (fun v282 z283 => ?_)
        have r284 := R_eq z283
        refine r_goto (tgt := 70) S dX12_behind_65 (by decide) ?_
        refine r_ast (n := 45) (K := 55) S X219 (Nat.le_of_ble_eq_true rfl) rfl (fun _ _ => rfl) (ix_of r215 rfl) dX12_behind_70 (fun t285 H lc M286 X287 => ?_)
        have I288 := Inv_mu q203 M286 (R_any v282)
        have F289 : Fr [(131, 15), (131, 16), (131, 4), (131, 11), (131, 12), (131, 13), (131, 14), (131, 41), (131, 43), (131, 44), (131, 45)] [135, 148, 331] τ t285 := Fr_cell F208 M286 (by decide)
        refine r_aload_n S dX12_behind_71 rfl (lv_at hl 0 rfl) ?_
        refine r_dup S dX12_behind_72 rfl ?_
        refine r_geti (K := 38) S X287 (Nat.le_of_ble_eq_true rfl) rfl lk12_407_10 (fun _ => ⟨_, rfl, rfl⟩) ((M286.2 131 43 (Or.inl (by decide))).trans z212) dX12_behind_73 ?_
        refine r_iconst S dX12_behind_76 (by decide) (fun v290 z291 => ?_)
        have r292 := R_eq z291
        refine r_iadd S dX12_behind_77 (fun v293 z294 => ?_)
        obtain ⟨e295, r296⟩ := i_add (lo := 1) (hi := 40) z294 r215 r292 rfl
        refine r_put (K := 38) (ty := .int) S X287 (Nat.le_of_ble_eq_true rfl) rfl lk12_407_10 (fun _ => ⟨_, rfl, Nat.le_of_ble_eq_true rfl, rfl⟩) (fun _ _ _ h => by cases h; exact ⟨rfl, rfl⟩) rfl rfl dX12_behind_78 (fun t297 H lc M298 X299 => ?_)
        have I300 := Inv_mu I288 M298 (show Rg (kd 131) 43 v293 from (R_of (lo := 0) (hi := 45) r296 rfl))
        have F301 : Fr [(131, 15), (131, 16), (131, 4), (131, 11), (131, 12), (131, 13), (131, 14), (131, 41), (131, 43), (131, 44), (131, 45)] [135, 148, 331] τ t297 := Fr_mu F289 M298 (by decide)
        refine r_aload_n S dX12_behind_81 rfl (lv_at hl 0 rfl) ?_
        refine r_iconst S dX12_behind_82 (by decide) (fun v302 z303 => ?_)
        have r304 := R_eq z303
        refine r_put (K := 38) (ty := .boolean) S X299 (Nat.le_of_ble_eq_true rfl) rfl lk12_422_10 (fun _ => ⟨_, rfl, Nat.le_of_ble_eq_true rfl, rfl⟩) (fun _ _ _ h => by cases h; exact ⟨rfl, rfl⟩) (nr_bool (R_of (lo := 0) (hi := 1) r304 rfl)) (ft_bool (R_of (lo := 0) (hi := 1) r304 rfl)) dX12_behind_83 (fun t305 H lc M306 X307 => ?_)
        have I308 := Inv_mu I300 M306 (show Rg (kd 131) 45 v302 from (R_of (lo := 0) (hi := 1) r304 rfl))
        have F309 : Fr [(131, 15), (131, 16), (131, 4), (131, 11), (131, 12), (131, 13), (131, 14), (131, 41), (131, 43), (131, 44), (131, 45)] [135, 148, 331] τ t305 := Fr_mu F301 M306 (by decide)
        refine r_aload_n S dX12_behind_86 rfl (lv_at hl 0 rfl) ?_
        refine r_kv (q_V (As := []) (rest := []) (K := 38) (ci := 10) S X307 (c_X12_skip l G t305 I308 ) ck12_186 (Nat.le_of_ble_eq_true rfl) rfl (fun _ => ⟨_, rfl⟩) ⟨_, _, rfl⟩ ⟨Nat.le_of_ble_eq_true rfl, Nat.le_of_ble_eq_true rfl⟩ rfl hl.1 rfl (Nat.le_of_ble_eq_true rfl) dX12_behind_87 ⟨Nat.le_refl 0, Nat.le_refl 0⟩) X307 (fun t312 H lc q310 X311 => ?_)
        unfold po_X12_skip at q310
        obtain ⟨q313, q314, q315, q316, q317, q318⟩ := q310
        have F319 : Fr [(131, 15), (131, 16), (131, 4), (131, 11), (131, 12), (131, 13), (131, 14), (131, 41), (131, 43), (131, 44), (131, 45)] [135, 148, 331] τ t312 := Fr_call F309 q314 (by decide)
        obtain ⟨v320, z321⟩ : ∃ x, t312 131 4 = x := ⟨_, rfl⟩
        rw [z321] at q315
        obtain ⟨v322, z323⟩ : ∃ x, t312 131 11 = x := ⟨_, rfl⟩
        rw [z323] at q316
        have e324 := congrArg Int32.toInt ((M306.2 131 4 (Or.inr (by decide))).trans ((M298.2 131 4 (Or.inr (by decide))).trans ((M286.2 131 4 (Or.inl (by decide))).trans ((q204 131 4 (by decide)).trans ((q22 131 4 (by decide)).trans z4)))))
        have e325 := congrArg Int32.toInt z321
        have e326 := congrArg Int32.toInt ((M306.2 131 4 (Or.inr (by decide))).trans ((M298.2 131 4 (Or.inr (by decide))).trans ((M286.2 131 4 (Or.inl (by decide))).trans ((q204 131 4 (by decide)).trans ((q22 131 4 (by decide)).trans z4)))))
        have e327 := congrArg Int32.toInt z321
        have e328 := congrArg Int32.toInt ((M306.2 131 11 (Or.inr (by decide))).trans ((M298.2 131 11 (Or.inr (by decide))).trans ((M286.2 131 11 (Or.inl (by decide))).trans ((q204 131 11 (by decide)).trans ((q22 131 11 (by decide)).trans z7)))))
        have e329 := congrArg Int32.toInt z323
        refine r_iconst S dX12_behind_90 (by decide) (fun v330 z331 => ?_)
        have r332 := R_eq z331
        exact r_ret S hr hlk X311 ⟨q313, F319, (R_of r332 rfl), (by rw [z321]; exact R_of q315 rfl), (by rw [z323]; exact R_of q316 rfl), (by have h1_0 := congrArg Int32.toInt z321; have h2_0 := congrArg Int32.toInt z4; omega), (by have h1_0 := congrArg Int32.toInt z321; have h2_0 := congrArg Int32.toInt z4; have h1_1 := congrArg Int32.toInt z323; have h2_1 := congrArg Int32.toInt z7; omega), (by have h1_0 := congrArg Int32.toInt z323; have h2_0 := congrArg Int32.toInt z7; omega), (by rw [((q314 131 41 (by decide)).trans ((M306.2 131 41 (Or.inr (by decide))).trans ((M298.2 131 41 (Or.inr (by decide))).trans ((M286.2 131 41 (Or.inl (by decide))).trans z210))))]; exact R_of r214 rfl), (by rw [((q314 131 42 (by decide)).trans ((M306.2 131 42 (Or.inr (by decide))).trans ((M298.2 131 42 (Or.inr (by decide))).trans ((M286.2 131 42 (Or.inl (by decide))).trans ((q204 131 42 (by decide)).trans ((q22 131 42 (by decide)).trans z13))))))]; exact R_of r14 rfl), (by rw [((q314 131 43 (by decide)).trans ((M306.2 131 43 (Or.inr (by decide))).trans M298.1))]; exact R_of r296 rfl), (by rw [((q314 131 45 (by decide)).trans M306.1)]; exact R_of r304 rfl), (fun _ => (by have n1 := congrArg Int32.toInt ((q204 131 42 (by decide)).trans ((q22 131 42 (by decide)).trans z13)); have n2 := congrArg Int32.toInt ((q204 131 45 (by decide)).trans ((q22 131 45 (by decide)).trans z2)); exact SI_push q207 (fun j => ((q314 135 j (by simp [fz])).trans ((M306.2 135 j (Or.inl (by decide))).trans ((M298.2 135 j (Or.inl (by decide))).trans ((M286.2 135 j (Or.inl (by decide))).trans rfl))))) ((q314 131 41 (by decide)).trans ((M306.2 131 41 (Or.inr (by decide))).trans ((M298.2 131 41 (Or.inr (by decide))).trans ((M286.2 131 41 (Or.inl (by decide))).trans rfl)))) ((q314 131 42 (by decide)).trans ((M306.2 131 42 (Or.inr (by decide))).trans ((M298.2 131 42 (Or.inr (by decide))).trans ((M286.2 131 42 (Or.inl (by decide))).trans ((q204 131 42 (by decide)).trans ((q22 131 42 (by decide)).trans z13)))))) ((q314 131 43 (by decide)).trans ((M306.2 131 43 (Or.inr (by decide))).trans M298.1)) ((q314 131 45 (by decide)).trans M306.1) z212 (fun j hj => ((q314 148 j (by simp [fz])).trans ((M306.2 148 j (Or.inl (by decide))).trans ((M298.2 148 j (Or.inl (by decide))).trans ((M286.2 148 j (Or.inr hj)).trans rfl))))) (((q314 148 v211.toNatClampNeg (by simp [fz])).trans ((M306.2 148 v211.toNatClampNeg (Or.inl (by decide))).trans ((M298.2 148 v211.toNatClampNeg (Or.inl (by decide))).trans rfl))).trans M286.1) (by omega) (Or.inr ⟨by omega, by omega, by omega, by omega⟩)))⟩ (nr_bool (R_of (lo := 0) (hi := 1) r332 rfl)) dX12_behind_91
  ·
    have r333 : R (0) (0) v36 := ⟨by omega, by omega⟩
    refine r_aload_n S dX12_behind_14 rfl (lv_at hl 0 rfl) ?_
    refine lv_ldc2 S.1.1 S.1.2.1 S.1.2.2.2.1 (S.1.2.2.2.2 _ kw51) dX12_behind_15 ?_
    refine lv_topl (fun j334 z335 => ?_)
    refine r_ki (q_V (As := [.long j334]) (rest := []) (K := 38) (ci := 10) S X34 (c_X12_isWord l G t20 q21 j334) ck12_208 (Nat.le_of_ble_eq_true rfl) rfl (fun _ => ⟨_, rfl⟩) ⟨_, _, rfl⟩ ⟨Nat.le_of_ble_eq_true rfl, Nat.le_of_ble_eq_true rfl⟩ rfl hl.1 rfl (Nat.le_of_ble_eq_true rfl) dX12_behind_18 ⟨Nat.le_refl 0, Nat.le_refl 0⟩) X34 (fun v339 t338 H lc q336 X337 => ?_)
    unfold po_X12_isWord at q336
    obtain ⟨q340, q341, q342⟩ := q336
    rw [q340] at X337
    rw [q340] at q342
    refine r_if_eq (tgt := 92) S dX12_behind_21 (by decide) (fun c343 => ?_) (fun c343 => ?_)
    ·
      have r344 : R (0) (0) v339 := ⟨by omega, by omega⟩
      refine r_aload_n S dX12_behind_92 rfl (lv_at hl 0 rfl) ?_
      refine r_bipush S dX12_behind_93 (by decide) (fun v345 z346 => ?_)
      have r347 := R_eq z346
      refine r_kv (q_V (As := [.int v345]) (rest := []) (K := 38) (ci := 10) S X337 (c_X12_joins_22 l G t20 q21 v345 r347 (by rw [((q22 131 45 (by decide)).trans z2)]; exact R_of hf_0 rfl) q25) ck12_428 (Nat.le_of_ble_eq_true rfl) rfl (fun _ => ⟨_, rfl⟩) ⟨_, _, rfl⟩ ⟨Nat.le_of_ble_eq_true rfl, Nat.le_of_ble_eq_true rfl⟩ rfl hl.1 rfl (Nat.le_of_ble_eq_true rfl) dX12_behind_95 ⟨Nat.le_refl 0, Nat.le_refl 0⟩) X337 (fun t350 H lc q348 X349 => ?_)
      unfold po_X12_joins_22 at q348
      obtain ⟨q351, q352, q353, q354, q355, q356⟩ := q348
      have F357 : Fr [(131, 15), (131, 16), (131, 4), (131, 11), (131, 12), (131, 13), (131, 14), (131, 41), (131, 43), (131, 44), (131, 45)] [135, 148, 331] τ t350 := Fr_call F26 q352 (by decide)
      obtain ⟨v358, z359⟩ : ∃ x, t350 131 41 = x := ⟨_, rfl⟩
      rw [z359] at q353
      obtain ⟨v360, z361⟩ : ∃ x, t350 131 43 = x := ⟨_, rfl⟩
      rw [z361] at q354
      have h362 := SI_b q355 z359 ((q352 131 42 (by decide)).trans ((q22 131 42 (by decide)).trans z13)) z361 ((q352 131 45 (by decide)).trans ((q22 131 45 (by decide)).trans z2))
      have r363 : R (0) (39) v358 := ⟨by omega, by omega⟩
      have r364 : R (0) (39) v360 := ⟨by omega, by omega⟩
      refine r_aload_n S dX12_behind_98 rfl (lv_at hl 0 rfl) ?_
      refine r_bipush S dX12_behind_99 (by decide) (fun v365 z366 => ?_)
      have r367 := R_eq z366
      refine r_ki (q_V (As := [.int v365]) (rest := []) (K := 38) (ci := 10) S X349 (c_X12_isSign l G t350 q351 v365 (R_of (lo := -2147483648) (hi := 2147483647) r367 rfl)) ck12_180 (Nat.le_of_ble_eq_true rfl) rfl (fun _ => ⟨_, rfl⟩) ⟨_, _, rfl⟩ ⟨Nat.le_of_ble_eq_true rfl, Nat.le_of_ble_eq_true rfl⟩ rfl hl.1 rfl (Nat.le_of_ble_eq_true rfl) dX12_behind_101 ⟨Nat.le_refl 0, Nat.le_refl 0⟩) X349 (fun v371 t370 H lc q368 X369 => ?_)
      unfold po_X12_isSign at q368
      obtain ⟨q372, q373, q374⟩ := q368
      rw [q372] at X369
      rw [q372] at q374
      refine r_if_eq (tgt := 114) S dX12_behind_104 (by decide) (fun c375 => ?_) (fun c375 => ?_)
      ·
        have r376 : R (0) (0) v371 := ⟨by omega, by omega⟩
        refine r_aload_n S dX12_behind_114 rfl (lv_at hl 0 rfl) ?_
        refine r_iconst S dX12_behind_115 (by decide) (fun v377 z378 => ?_)
        have r379 := R_eq z378
        refine r_ki (q_V (As := [.int v377]) (rest := []) (K := 38) (ci := 10) S X369 (c_X12_bad l G t350 q351 v377 (R_of (lo := -2147483648) (hi := 2147483647) r379 rfl)) ck12_183 (Nat.le_of_ble_eq_true rfl) rfl (fun _ => ⟨_, rfl⟩) ⟨_, _, rfl⟩ ⟨Nat.le_of_ble_eq_true rfl, Nat.le_of_ble_eq_true rfl⟩ rfl hl.1 rfl (Nat.le_of_ble_eq_true rfl) dX12_behind_116 ⟨Nat.le_refl 0, Nat.le_refl 0⟩) X369 (fun v383 t382 H lc q380 X381 => ?_)
        unfold po_X12_bad at q380
        obtain ⟨q384, q385, q386⟩ := q380
        have F387 : Fr [(131, 15), (131, 16), (131, 4), (131, 11), (131, 12), (131, 13), (131, 14), (131, 41), (131, 43), (131, 44), (131, 45)] [135, 148, 331] τ t382 := Fr_call F357 q385 (by decide)
        exact r_ret S hr hlk X381 ⟨q384, F387, (R_of q386 rfl), (by rw [((q385 131 4 (by decide)).trans ((q352 131 4 (by decide)).trans ((q22 131 4 (by decide)).trans z4)))]; exact R_of r5 rfl), (by rw [((q385 131 11 (by decide)).trans ((q352 131 11 (by decide)).trans ((q22 131 11 (by decide)).trans z7)))]; exact R_of r8 rfl), (by have h1_0 := congrArg Int32.toInt ((q385 131 4 (by decide)).trans ((q352 131 4 (by decide)).trans ((q22 131 4 (by decide)).trans z4))); have h2_0 := congrArg Int32.toInt z4; omega), (by have h1_0 := congrArg Int32.toInt ((q385 131 4 (by decide)).trans ((q352 131 4 (by decide)).trans ((q22 131 4 (by decide)).trans z4))); have h2_0 := congrArg Int32.toInt z4; have h1_1 := congrArg Int32.toInt ((q385 131 11 (by decide)).trans ((q352 131 11 (by decide)).trans ((q22 131 11 (by decide)).trans z7))); have h2_1 := congrArg Int32.toInt z7; omega), (by have h1_0 := congrArg Int32.toInt ((q385 131 11 (by decide)).trans ((q352 131 11 (by decide)).trans ((q22 131 11 (by decide)).trans z7))); have h2_0 := congrArg Int32.toInt z7; omega), (by rw [((q385 131 41 (by decide)).trans z359)]; exact R_of r363 rfl), (by rw [((q385 131 42 (by decide)).trans ((q352 131 42 (by decide)).trans ((q22 131 42 (by decide)).trans z13)))]; exact R_of r14 rfl), (by rw [((q385 131 43 (by decide)).trans z361)]; exact R_of r364 rfl), (by rw [((q385 131 45 (by decide)).trans ((q352 131 45 (by decide)).trans ((q22 131 45 (by decide)).trans z2)))]; exact R_of hf_0 rfl), (fun h => by exfalso; omega)⟩ (nr_bool (R_of (lo := 0) (hi := 1) q386 rfl)) dX12_behind_119
      ·
        have r388 : R (1) (1) v371 := ⟨by omega, by omega⟩
        have p389 := q374 (by omega)
        have r390 : R (3) (3) v6 := ((q352 131 11 (by decide)).trans ((q22 131 11 (by decide)).trans z7)) ▸ p389
        have r391 : R (3) (3) v6 := ⟨by omega, by omega⟩
        refine r_aload_n S dX12_behind_107 rfl (lv_at hl 0 rfl) ?_
        refine r_geti (K := 38) S X369 (Nat.le_of_ble_eq_true rfl) rfl lk12_407_10 (fun _ => ⟨_, rfl, rfl⟩) z361 dX12_behind_108 ?_
        refine r_if_ne (tgt := 120) S dX12_behind_111 (by decide) (fun c392 => ?_) (fun c392 => ?_)
        ·
          have r393 : R (1) (39) v360 := ⟨by omega, by omega⟩
          refine r_aload_n S dX12_behind_120 rfl (lv_at hl 0 rfl) ?_
          refine r_dup S dX12_behind_121 rfl ?_
          refine r_geti (K := 38) S X369 (Nat.le_of_ble_eq_true rfl) rfl lk12_407_10 (fun _ => ⟨_, rfl, rfl⟩) z361 dX12_behind_122 ?_
          refine r_iconst S dX12_behind_125 (by decide) (fun v394 z395 => ?_)
          have r396 := R_eq z395
          refine r_isub S dX12_behind_126 (fun v397 z398 => ?_)
          obtain ⟨e399, r400⟩ := i_sub (lo := 0) (hi := 38) z398 r393 r396 rfl
          refine r_put (K := 38) (ty := .int) S X369 (Nat.le_of_ble_eq_true rfl) rfl lk12_407_10 (fun _ => ⟨_, rfl, Nat.le_of_ble_eq_true rfl, rfl⟩) (fun _ _ _ h => by cases h; exact ⟨rfl, rfl⟩) rfl rfl dX12_behind_127 (fun t401 H lc M402 X403 => ?_)
          have I404 := Inv_mu q351 M402 (show Rg (kd 131) 43 v397 from (R_of (lo := 0) (hi := 45) r400 rfl))
          have F405 : Fr [(131, 15), (131, 16), (131, 4), (131, 11), (131, 12), (131, 13), (131, 14), (131, 41), (131, 43), (131, 44), (131, 45)] [135, 148, 331] τ t401 := Fr_mu F357 M402 (by decide)
          refine r_aload_n S dX12_behind_130 rfl (lv_at hl 0 rfl) ?_
          refine r_dup S dX12_behind_131 rfl ?_
          refine r_getn (K := 38) S X403 (Nat.le_of_ble_eq_true rfl) rfl lk12_413_10 (fun _ => ⟨_, rfl, rfl⟩) dX12_behind_132 (fun v406 z407 => ?_)
          have r409 := R_any v406
          refine r_iconst S dX12_behind_135 (by decide) (fun v410 z411 => ?_)
          have r412 := R_eq z411
          refine r_isub S dX12_behind_136 (fun v413 z414 => ?_)
          have r415 := R_any v413
          refine r_put (K := 38) (ty := .int) S X403 (Nat.le_of_ble_eq_true rfl) rfl lk12_413_10 (fun _ => ⟨_, rfl, Nat.le_of_ble_eq_true rfl, rfl⟩) (fun _ _ _ h => by cases h; exact ⟨rfl, rfl⟩) rfl rfl dX12_behind_137 (fun t416 H lc M417 X418 => ?_)
          have I419 := Inv_mu I404 M417 (R_any v413)
          have F420 : Fr [(131, 15), (131, 16), (131, 4), (131, 11), (131, 12), (131, 13), (131, 14), (131, 41), (131, 43), (131, 44), (131, 45)] [135, 148, 331] τ t416 := Fr_mu F405 M417 (by decide)
          refine r_aload_n S dX12_behind_140 rfl (lv_at hl 0 rfl) ?_
          refine r_kv (q_V (As := []) (rest := []) (K := 38) (ci := 10) S X418 (c_X12_skip l G t416 I419 ) ck12_186 (Nat.le_of_ble_eq_true rfl) rfl (fun _ => ⟨_, rfl⟩) ⟨_, _, rfl⟩ ⟨Nat.le_of_ble_eq_true rfl, Nat.le_of_ble_eq_true rfl⟩ rfl hl.1 rfl (Nat.le_of_ble_eq_true rfl) dX12_behind_141 ⟨Nat.le_refl 0, Nat.le_refl 0⟩) X418 (fun t423 H lc q421 X422 => ?_)
          unfold po_X12_skip at q421
          obtain ⟨q424, q425, q426, q427, q428, q429⟩ := q421
          have F430 : Fr [(131, 15), (131, 16), (131, 4), (131, 11), (131, 12), (131, 13), (131, 14), (131, 41), (131, 43), (131, 44), (131, 45)] [135, 148, 331] τ t423 := Fr_call F420 q425 (by decide)
          obtain ⟨v431, z432⟩ : ∃ x, t423 131 4 = x := ⟨_, rfl⟩
          rw [z432] at q426
          obtain ⟨v433, z434⟩ : ∃ x, t423 131 11 = x := ⟨_, rfl⟩
          rw [z434] at q427
          have e435 := congrArg Int32.toInt ((M417.2 131 4 (Or.inr (by decide))).trans ((M402.2 131 4 (Or.inr (by decide))).trans ((q352 131 4 (by decide)).trans ((q22 131 4 (by decide)).trans z4))))
          have e436 := congrArg Int32.toInt z432
          have e437 := congrArg Int32.toInt ((M417.2 131 4 (Or.inr (by decide))).trans ((M402.2 131 4 (Or.inr (by decide))).trans ((q352 131 4 (by decide)).trans ((q22 131 4 (by decide)).trans z4))))
          have e438 := congrArg Int32.toInt z432
          have e439 := congrArg Int32.toInt ((M417.2 131 11 (Or.inr (by decide))).trans ((M402.2 131 11 (Or.inr (by decide))).trans ((q352 131 11 (by decide)).trans ((q22 131 11 (by decide)).trans z7))))
          have e440 := congrArg Int32.toInt z434
          refine r_iconst S dX12_behind_144 (by decide) (fun v441 z442 => ?_)
          have r443 := R_eq z442
          exact r_ret S hr hlk X422 ⟨q424, F430, (R_of r443 rfl), (by rw [z432]; exact R_of q426 rfl), (by rw [z434]; exact R_of q427 rfl), (by have h1_0 := congrArg Int32.toInt z432; have h2_0 := congrArg Int32.toInt z4; omega), (by have h1_0 := congrArg Int32.toInt z432; have h2_0 := congrArg Int32.toInt z4; have h1_1 := congrArg Int32.toInt z434; have h2_1 := congrArg Int32.toInt z7; omega), (by have h1_0 := congrArg Int32.toInt z434; have h2_0 := congrArg Int32.toInt z7; omega), (by rw [((q425 131 41 (by decide)).trans ((M417.2 131 41 (Or.inr (by decide))).trans ((M402.2 131 41 (Or.inr (by decide))).trans z359)))]; exact R_of r363 rfl), (by rw [((q425 131 42 (by decide)).trans ((M417.2 131 42 (Or.inr (by decide))).trans ((M402.2 131 42 (Or.inr (by decide))).trans ((q352 131 42 (by decide)).trans ((q22 131 42 (by decide)).trans z13)))))]; exact R_of r14 rfl), (by rw [((q425 131 43 (by decide)).trans ((M417.2 131 43 (Or.inr (by decide))).trans M402.1))]; exact R_of r400 rfl), (by rw [((q425 131 45 (by decide)).trans ((M417.2 131 45 (Or.inr (by decide))).trans ((M402.2 131 45 (Or.inr (by decide))).trans ((q352 131 45 (by decide)).trans ((q22 131 45 (by decide)).trans z2)))))]; exact R_of hf_0 rfl), (fun _ => SI_close q355 (fun j => ((q425 135 j (by simp [fz])).trans ((M417.2 135 j (Or.inl (by decide))).trans ((M402.2 135 j (Or.inl (by decide))).trans rfl)))) (fun j => ((q425 148 j (by simp [fz])).trans ((M417.2 148 j (Or.inl (by decide))).trans ((M402.2 148 j (Or.inl (by decide))).trans rfl)))) ((q425 131 41 (by decide)).trans ((M417.2 131 41 (Or.inr (by decide))).trans ((M402.2 131 41 (Or.inr (by decide))).trans rfl))) ((q425 131 42 (by decide)).trans ((M417.2 131 42 (Or.inr (by decide))).trans ((M402.2 131 42 (Or.inr (by decide))).trans rfl))) ((q425 131 43 (by decide)).trans ((M417.2 131 43 (Or.inr (by decide))).trans M402.1)) ((q425 131 45 (by decide)).trans ((M417.2 131 45 (Or.inr (by decide))).trans ((M402.2 131 45 (Or.inr (by decide))).trans rfl))) z361 (by omega) (by omega) (by have q := q356; rw [z361] at q; exact q (by omega)))⟩ (nr_bool (R_of (lo := 0) (hi := 1) r443 rfl)) dX12_behind_145
        ·
          have r444 : R (0) (0) v360 := ⟨by omega, by omega⟩
          refine r_aload_n S dX12_behind_114 rfl (lv_at hl 0 rfl) ?_
          refine r_iconst S dX12_behind_115 (by decide) (fun v445 z446 => ?_)
          have r447 := R_eq z446
          refine r_ki (q_V (As := [.int v445]) (rest := []) (K := 38) (ci := 10) S X369 (c_X12_bad l G t350 q351 v445 (R_of (lo := -2147483648) (hi := 2147483647) r447 rfl)) ck12_183 (Nat.le_of_ble_eq_true rfl) rfl (fun _ => ⟨_, rfl⟩) ⟨_, _, rfl⟩ ⟨Nat.le_of_ble_eq_true rfl, Nat.le_of_ble_eq_true rfl⟩ rfl hl.1 rfl (Nat.le_of_ble_eq_true rfl) dX12_behind_116 ⟨Nat.le_refl 0, Nat.le_refl 0⟩) X369 (fun v451 t450 H lc q448 X449 => ?_)
          unfold po_X12_bad at q448
          obtain ⟨q452, q453, q454⟩ := q448
          have F455 : Fr [(131, 15), (131, 16), (131, 4), (131, 11), (131, 12), (131, 13), (131, 14), (131, 41), (131, 43), (131, 44), (131, 45)] [135, 148, 331] τ t450 := Fr_call F357 q453 (by decide)
          exact r_ret S hr hlk X449 ⟨q452, F455, (R_of q454 rfl), (by rw [((q453 131 4 (by decide)).trans ((q352 131 4 (by decide)).trans ((q22 131 4 (by decide)).trans z4)))]; exact R_of r5 rfl), (by rw [((q453 131 11 (by decide)).trans ((q352 131 11 (by decide)).trans ((q22 131 11 (by decide)).trans z7)))]; exact R_of r391 rfl), (by have h1_0 := congrArg Int32.toInt ((q453 131 4 (by decide)).trans ((q352 131 4 (by decide)).trans ((q22 131 4 (by decide)).trans z4))); have h2_0 := congrArg Int32.toInt z4; omega), (by have h1_0 := congrArg Int32.toInt ((q453 131 4 (by decide)).trans ((q352 131 4 (by decide)).trans ((q22 131 4 (by decide)).trans z4))); have h2_0 := congrArg Int32.toInt z4; have h1_1 := congrArg Int32.toInt ((q453 131 11 (by decide)).trans ((q352 131 11 (by decide)).trans ((q22 131 11 (by decide)).trans z7))); have h2_1 := congrArg Int32.toInt z7; omega), (by have h1_0 := congrArg Int32.toInt ((q453 131 11 (by decide)).trans ((q352 131 11 (by decide)).trans ((q22 131 11 (by decide)).trans z7))); have h2_0 := congrArg Int32.toInt z7; omega), (by rw [((q453 131 41 (by decide)).trans z359)]; exact R_of r363 rfl), (by rw [((q453 131 42 (by decide)).trans ((q352 131 42 (by decide)).trans ((q22 131 42 (by decide)).trans z13)))]; exact R_of r14 rfl), (by rw [((q453 131 43 (by decide)).trans z361)]; exact R_of r444 rfl), (by rw [((q453 131 45 (by decide)).trans ((q352 131 45 (by decide)).trans ((q22 131 45 (by decide)).trans z2)))]; exact R_of hf_0 rfl), (fun h => by exfalso; omega)⟩ (nr_bool (R_of (lo := 0) (hi := 1) q454 rfl)) dX12_behind_119
    ·
      have r456 : R (1) (1) v339 := ⟨by omega, by omega⟩
      have p457 := q342 (by omega)
      have r458 : R (1) (1) v6 := ((q22 131 11 (by decide)).trans z7) ▸ p457
      have r459 : R (1) (1) v6 := ⟨by omega, by omega⟩
      refine r_aload_n S dX12_behind_24 rfl (lv_at hl 0 rfl) ?_
      refine r_aload_n S dX12_behind_25 rfl (lv_at hl 0 rfl) ?_
      refine lv_ldc2 S.1.1 S.1.2.1 S.1.2.2.2.1 (S.1.2.2.2.2 _ kw50) dX12_behind_26 ?_
      refine lv_topl (fun j460 z461 => ?_)
      refine r_ki (q_V (As := [.long j460]) (rest := [.ref (G.2.2.2.1 131)]) (K := 38) (ci := 10) S X337 (c_X12_isWord l G t20 q21 j460) ck12_208 (Nat.le_of_ble_eq_true rfl) rfl (fun _ => ⟨_, rfl⟩) ⟨_, _, rfl⟩ ⟨Nat.le_of_ble_eq_true rfl, Nat.le_of_ble_eq_true rfl⟩ rfl hl.1 rfl (Nat.le_of_ble_eq_true rfl) dX12_behind_29 ⟨Nat.le_refl 0, Nat.le_refl 0⟩) X337 (fun v465 t464 H lc q462 X463 => ?_)
      unfold po_X12_isWord at q462
      obtain ⟨q466, q467, q468⟩ := q462
      rw [q466] at X463
      rw [q466] at q468
      refine r_if_eq (tgt := 40) S dX12_behind_32 (by decide) (fun c469 => ?_) (fun c469 => ?_)
      ·
        have r470 : R (0) (0) v465 := ⟨by omega, by omega⟩
        refine r_bipush S dX12_behind_40 (by decide) (fun v471 z472 => ?_)
        have r473 := R_eq z472
        refine r_kv (q_V (As := [.int v471]) (rest := []) (K := 38) (ci := 10) S X463 (c_X12_joins_22 l G t20 q21 v471 r473 (by rw [((q22 131 45 (by decide)).trans z2)]; exact R_of hf_0 rfl) q25) ck12_428 (Nat.le_of_ble_eq_true rfl) rfl (fun _ => ⟨_, rfl⟩) ⟨_, _, rfl⟩ ⟨Nat.le_of_ble_eq_true rfl, Nat.le_of_ble_eq_true rfl⟩ rfl hl.1 rfl (Nat.le_of_ble_eq_true rfl) dX12_behind_42 ⟨Nat.le_refl 0, Nat.le_refl 0⟩) X463 (fun t476 H lc q474 X475 => ?_)
        unfold po_X12_joins_22 at q474
        obtain ⟨q477, q478, q479, q480, q481, q482⟩ := q474
        have F483 : Fr [(131, 15), (131, 16), (131, 4), (131, 11), (131, 12), (131, 13), (131, 14), (131, 41), (131, 43), (131, 44), (131, 45)] [135, 148, 331] τ t476 := Fr_call F26 q478 (by decide)
        obtain ⟨v484, z485⟩ : ∃ x, t476 131 41 = x := ⟨_, rfl⟩
        rw [z485] at q479
        obtain ⟨v486, z487⟩ : ∃ x, t476 131 43 = x := ⟨_, rfl⟩
        rw [z487] at q480
        have h488 := SI_b q481 z485 ((q478 131 42 (by decide)).trans ((q22 131 42 (by decide)).trans z13)) z487 ((q478 131 45 (by decide)).trans ((q22 131 45 (by decide)).trans z2))
        have r489 : R (0) (39) v484 := ⟨by omega, by omega⟩
        have r490 : R (0) (39) v486 := ⟨by omega, by omega⟩
        refine r_aload_n S dX12_behind_45 rfl (lv_at hl 0 rfl) ?_
        refine r_get (K := 38) (v := .ref (G.2.2.2.1 148)) S X475 (Nat.le_of_ble_eq_true rfl) rfl lk12_84_10 (fun _ => ⟨_, rfl, rfl⟩) dX12_behind_46 ?_
        refine r_aload_n S dX12_behind_49 rfl (lv_at hl 0 rfl) ?_
        refine r_geti (K := 38) S X475 (Nat.le_of_ble_eq_true rfl) rfl lk12_407_10 (fun _ => ⟨_, rfl, rfl⟩) z487 dX12_behind_50 ?_
        refine r_aload_n S dX12_behind_53 rfl (lv_at hl 0 rfl) ?_
        refine lv_ldc2 S.1.1 S.1.2.1 S.1.2.2.2.1 (S.1.2.2.2.2 _ kw50) dX12_behind_54 ?_
        refine lv_topl (fun j491 z492 => ?_)
        refine r_ki (q_V (As := [.long j491]) (rest := [.int v486, .ref (G.2.2.2.1 148)]) (K := 38) (ci := 10) S X475 (c_X12_isWord l G t476 q477 j491) ck12_208 (Nat.le_of_ble_eq_true rfl) rfl (fun _ => ⟨_, rfl⟩) ⟨_, _, rfl⟩ ⟨Nat.le_of_ble_eq_true rfl, Nat.le_of_ble_eq_true rfl⟩ rfl hl.1 rfl (Nat.le_of_ble_eq_true rfl) dX12_behind_57 ⟨Nat.le_refl 0, Nat.le_refl 0⟩) X475 (fun v496 t495 H lc q493 X494 => ?_)
        unfold po_X12_isWord at q493
        obtain ⟨q497, q498, q499⟩ := q493
        rw [q497] at X494
        rw [q497] at q499
        refine r_if_eq (tgt := 68) S dX12_behind_60 (by decide) (fun c500 => ?_) (fun c500 => ?_)
        ·
          have r501 : R (0) (0) v496 := ⟨by omega, by omega⟩
          refine r_bipush S dX12_behind_68 (by decide) (fun v502 z503 => ?_)
          have r504 := R_eq z503
          refine r_ast (n := 45) (K := 55) S X494 (Nat.le_of_ble_eq_true rfl) rfl (fun _ _ => rfl) (ix_of r490 rfl) dX12_behind_70 (fun t505 H lc M506 X507 => ?_)
          have I508 := Inv_mu q477 M506 (R_any v502)
          have F509 : Fr [(131, 15), (131, 16), (131, 4), (131, 11), (131, 12), (131, 13), (131, 14), (131, 41), (131, 43), (131, 44), (131, 45)] [135, 148, 331] τ t505 := Fr_cell F483 M506 (by decide)
          refine r_aload_n S dX12_behind_71 rfl (lv_at hl 0 rfl) ?_
          refine r_dup S dX12_behind_72 rfl ?_
          refine r_geti (K := 38) S X507 (Nat.le_of_ble_eq_true rfl) rfl lk12_407_10 (fun _ => ⟨_, rfl, rfl⟩) ((M506.2 131 43 (Or.inl (by decide))).trans z487) dX12_behind_73 ?_
          refine r_iconst S dX12_behind_76 (by decide) (fun v510 z511 => ?_)
          have r512 := R_eq z511
          refine r_iadd S dX12_behind_77 (fun v513 z514 => ?_)
          obtain ⟨e515, r516⟩ := i_add (lo := 1) (hi := 40) z514 r490 r512 rfl
          refine r_put (K := 38) (ty := .int) S X507 (Nat.le_of_ble_eq_true rfl) rfl lk12_407_10 (fun _ => ⟨_, rfl, Nat.le_of_ble_eq_true rfl, rfl⟩) (fun _ _ _ h => by cases h; exact ⟨rfl, rfl⟩) rfl rfl dX12_behind_78 (fun t517 H lc M518 X519 => ?_)
          have I520 := Inv_mu I508 M518 (show Rg (kd 131) 43 v513 from (R_of (lo := 0) (hi := 45) r516 rfl))
          have F521 : Fr [(131, 15), (131, 16), (131, 4), (131, 11), (131, 12), (131, 13), (131, 14), (131, 41), (131, 43), (131, 44), (131, 45)] [135, 148, 331] τ t517 := Fr_mu F509 M518 (by decide)
          refine r_aload_n S dX12_behind_81 rfl (lv_at hl 0 rfl) ?_
          refine r_iconst S dX12_behind_82 (by decide) (fun v522 z523 => ?_)
          have r524 := R_eq z523
          refine r_put (K := 38) (ty := .boolean) S X519 (Nat.le_of_ble_eq_true rfl) rfl lk12_422_10 (fun _ => ⟨_, rfl, Nat.le_of_ble_eq_true rfl, rfl⟩) (fun _ _ _ h => by cases h; exact ⟨rfl, rfl⟩) (nr_bool (R_of (lo := 0) (hi := 1) r524 rfl)) (ft_bool (R_of (lo := 0) (hi := 1) r524 rfl)) dX12_behind_83 (fun t525 H lc M526 X527 => ?_)
          have I528 := Inv_mu I520 M526 (show Rg (kd 131) 45 v522 from (R_of (lo := 0) (hi := 1) r524 rfl))
          have F529 : Fr [(131, 15), (131, 16), (131, 4), (131, 11), (131, 12), (131, 13), (131, 14), (131, 41), (131, 43), (131, 44), (131, 45)] [135, 148, 331] τ t525 := Fr_mu F521 M526 (by decide)
          refine r_aload_n S dX12_behind_86 rfl (lv_at hl 0 rfl) ?_
          refine r_kv (q_V (As := []) (rest := []) (K := 38) (ci := 10) S X527 (c_X12_skip l G t525 I528 ) ck12_186 (Nat.le_of_ble_eq_true rfl) rfl (fun _ => ⟨_, rfl⟩) ⟨_, _, rfl⟩ ⟨Nat.le_of_ble_eq_true rfl, Nat.le_of_ble_eq_true rfl⟩ rfl hl.1 rfl (Nat.le_of_ble_eq_true rfl) dX12_behind_87 ⟨Nat.le_refl 0, Nat.le_refl 0⟩) X527 (fun t532 H lc q530 X531 => ?_)
          unfold po_X12_skip at q530
          obtain ⟨q533, q534, q535, q536, q537, q538⟩ := q530
          have F539 : Fr [(131, 15), (131, 16), (131, 4), (131, 11), (131, 12), (131, 13), (131, 14), (131, 41), (131, 43), (131, 44), (131, 45)] [135, 148, 331] τ t532 := Fr_call F529 q534 (by decide)
          obtain ⟨v540, z541⟩ : ∃ x, t532 131 4 = x := ⟨_, rfl⟩
          rw [z541] at q535
          obtain ⟨v542, z543⟩ : ∃ x, t532 131 11 = x := ⟨_, rfl⟩
          rw [z543] at q536
          have e544 := congrArg Int32.toInt ((M526.2 131 4 (Or.inr (by decide))).trans ((M518.2 131 4 (Or.inr (by decide))).trans ((M506.2 131 4 (Or.inl (by decide))).trans ((q478 131 4 (by decide)).trans ((q22 131 4 (by decide)).trans z4)))))
          have e545 := congrArg Int32.toInt z541
          have e546 := congrArg Int32.toInt ((M526.2 131 4 (Or.inr (by decide))).trans ((M518.2 131 4 (Or.inr (by decide))).trans ((M506.2 131 4 (Or.inl (by decide))).trans ((q478 131 4 (by decide)).trans ((q22 131 4 (by decide)).trans z4)))))
          have e547 := congrArg Int32.toInt z541
          have e548 := congrArg Int32.toInt ((M526.2 131 11 (Or.inr (by decide))).trans ((M518.2 131 11 (Or.inr (by decide))).trans ((M506.2 131 11 (Or.inl (by decide))).trans ((q478 131 11 (by decide)).trans ((q22 131 11 (by decide)).trans z7)))))
          have e549 := congrArg Int32.toInt z543
          refine r_iconst S dX12_behind_90 (by decide) (fun v550 z551 => ?_)
          have r552 := R_eq z551
          exact r_ret S hr hlk X531 ⟨q533, F539, (R_of r552 rfl), (by rw [z541]; exact R_of q535 rfl), (by rw [z543]; exact R_of q536 rfl), (by have h1_0 := congrArg Int32.toInt z541; have h2_0 := congrArg Int32.toInt z4; omega), (by have h1_0 := congrArg Int32.toInt z541; have h2_0 := congrArg Int32.toInt z4; have h1_1 := congrArg Int32.toInt z543; have h2_1 := congrArg Int32.toInt z7; omega), (by have h1_0 := congrArg Int32.toInt z543; have h2_0 := congrArg Int32.toInt z7; omega), (by rw [((q534 131 41 (by decide)).trans ((M526.2 131 41 (Or.inr (by decide))).trans ((M518.2 131 41 (Or.inr (by decide))).trans ((M506.2 131 41 (Or.inl (by decide))).trans z485))))]; exact R_of r489 rfl), (by rw [((q534 131 42 (by decide)).trans ((M526.2 131 42 (Or.inr (by decide))).trans ((M518.2 131 42 (Or.inr (by decide))).trans ((M506.2 131 42 (Or.inl (by decide))).trans ((q478 131 42 (by decide)).trans ((q22 131 42 (by decide)).trans z13))))))]; exact R_of r14 rfl), (by rw [((q534 131 43 (by decide)).trans ((M526.2 131 43 (Or.inr (by decide))).trans M518.1))]; exact R_of r516 rfl), (by rw [((q534 131 45 (by decide)).trans M526.1)]; exact R_of r524 rfl), (fun _ => (by have n1 := congrArg Int32.toInt ((q478 131 42 (by decide)).trans ((q22 131 42 (by decide)).trans z13)); have n2 := congrArg Int32.toInt ((q478 131 45 (by decide)).trans ((q22 131 45 (by decide)).trans z2)); exact SI_push q481 (fun j => ((q534 135 j (by simp [fz])).trans ((M526.2 135 j (Or.inl (by decide))).trans ((M518.2 135 j (Or.inl (by decide))).trans ((M506.2 135 j (Or.inl (by decide))).trans rfl))))) ((q534 131 41 (by decide)).trans ((M526.2 131 41 (Or.inr (by decide))).trans ((M518.2 131 41 (Or.inr (by decide))).trans ((M506.2 131 41 (Or.inl (by decide))).trans rfl)))) ((q534 131 42 (by decide)).trans ((M526.2 131 42 (Or.inr (by decide))).trans ((M518.2 131 42 (Or.inr (by decide))).trans ((M506.2 131 42 (Or.inl (by decide))).trans ((q478 131 42 (by decide)).trans ((q22 131 42 (by decide)).trans z13)))))) ((q534 131 43 (by decide)).trans ((M526.2 131 43 (Or.inr (by decide))).trans M518.1)) ((q534 131 45 (by decide)).trans M526.1) z487 (fun j hj => ((q534 148 j (by simp [fz])).trans ((M526.2 148 j (Or.inl (by decide))).trans ((M518.2 148 j (Or.inl (by decide))).trans ((M506.2 148 j (Or.inr hj)).trans rfl))))) (((q534 148 v486.toNatClampNeg (by simp [fz])).trans ((M526.2 148 v486.toNatClampNeg (Or.inl (by decide))).trans ((M518.2 148 v486.toNatClampNeg (Or.inl (by decide))).trans rfl))).trans M506.1) (by omega) (Or.inr ⟨by omega, by omega, by omega, by omega⟩)))⟩ (nr_bool (R_of (lo := 0) (hi := 1) r552 rfl)) dX12_behind_91
        ·
          have r553 : R (1) (1) v496 := ⟨by omega, by omega⟩
          have p554 := q499 (by omega)
          have r555 : R (1) (1) v6 := ((q478 131 11 (by decide)).trans ((q22 131 11 (by decide)).trans z7)) ▸ p554
          have r556 : R (1) (1) v6 := ⟨by omega, by omega⟩
          refine r_bipush S dX12_behind_63 (by decide) (fun v557 z558 => ?_)
          have r559 := R_eq z558
          refine r_goto (tgt := 70) S dX12_behind_65 (by decide) ?_
          refine r_ast (n := 45) (K := 55) S X494 (Nat.le_of_ble_eq_true rfl) rfl (fun _ _ => rfl) (ix_of r490 rfl) dX12_behind_70 (fun t560 H lc M561 X562 => ?_)
          have I563 := Inv_mu q477 M561 (R_any v557)
          have F564 : Fr [(131, 15), (131, 16), (131, 4), (131, 11), (131, 12), (131, 13), (131, 14), (131, 41), (131, 43), (131, 44), (131, 45)] [135, 148, 331] τ t560 := Fr_cell F483 M561 (by decide)
          refine r_aload_n S dX12_behind_71 rfl (lv_at hl 0 rfl) ?_
          refine r_dup S dX12_behind_72 rfl ?_
          refine r_geti (K := 38) S X562 (Nat.le_of_ble_eq_true rfl) rfl lk12_407_10 (fun _ => ⟨_, rfl, rfl⟩) ((M561.2 131 43 (Or.inl (by decide))).trans z487) dX12_behind_73 ?_
          refine r_iconst S dX12_behind_76 (by decide) (fun v565 z566 => ?_)
          have r567 := R_eq z566
          refine r_iadd S dX12_behind_77 (fun v568 z569 => ?_)
          obtain ⟨e570, r571⟩ := i_add (lo := 1) (hi := 40) z569 r490 r567 rfl
          refine r_put (K := 38) (ty := .int) S X562 (Nat.le_of_ble_eq_true rfl) rfl lk12_407_10 (fun _ => ⟨_, rfl, Nat.le_of_ble_eq_true rfl, rfl⟩) (fun _ _ _ h => by cases h; exact ⟨rfl, rfl⟩) rfl rfl dX12_behind_78 (fun t572 H lc M573 X574 => ?_)
          have I575 := Inv_mu I563 M573 (show Rg (kd 131) 43 v568 from (R_of (lo := 0) (hi := 45) r571 rfl))
          have F576 : Fr [(131, 15), (131, 16), (131, 4), (131, 11), (131, 12), (131, 13), (131, 14), (131, 41), (131, 43), (131, 44), (131, 45)] [135, 148, 331] τ t572 := Fr_mu F564 M573 (by decide)
          refine r_aload_n S dX12_behind_81 rfl (lv_at hl 0 rfl) ?_
          refine r_iconst S dX12_behind_82 (by decide) (fun v577 z578 => ?_)
          have r579 := R_eq z578
          refine r_put (K := 38) (ty := .boolean) S X574 (Nat.le_of_ble_eq_true rfl) rfl lk12_422_10 (fun _ => ⟨_, rfl, Nat.le_of_ble_eq_true rfl, rfl⟩) (fun _ _ _ h => by cases h; exact ⟨rfl, rfl⟩) (nr_bool (R_of (lo := 0) (hi := 1) r579 rfl)) (ft_bool (R_of (lo := 0) (hi := 1) r579 rfl)) dX12_behind_83 (fun t580 H lc M581 X582 => ?_)
          have I583 := Inv_mu I575 M581 (show Rg (kd 131) 45 v577 from (R_of (lo := 0) (hi := 1) r579 rfl))
          have F584 : Fr [(131, 15), (131, 16), (131, 4), (131, 11), (131, 12), (131, 13), (131, 14), (131, 41), (131, 43), (131, 44), (131, 45)] [135, 148, 331] τ t580 := Fr_mu F576 M581 (by decide)
          refine r_aload_n S dX12_behind_86 rfl (lv_at hl 0 rfl) ?_
          refine r_kv (q_V (As := []) (rest := []) (K := 38) (ci := 10) S X582 (c_X12_skip l G t580 I583 ) ck12_186 (Nat.le_of_ble_eq_true rfl) rfl (fun _ => ⟨_, rfl⟩) ⟨_, _, rfl⟩ ⟨Nat.le_of_ble_eq_true rfl, Nat.le_of_ble_eq_true rfl⟩ rfl hl.1 rfl (Nat.le_of_ble_eq_true rfl) dX12_behind_87 ⟨Nat.le_refl 0, Nat.le_refl 0⟩) X582 (fun t587 H lc q585 X586 => ?_)
          unfold po_X12_skip at q585
          obtain ⟨q588, q589, q590, q591, q592, q593⟩ := q585
          have F594 : Fr [(131, 15), (131, 16), (131, 4), (131, 11), (131, 12), (131, 13), (131, 14), (131, 41), (131, 43), (131, 44), (131, 45)] [135, 148, 331] τ t587 := Fr_call F584 q589 (by decide)
          obtain ⟨v595, z596⟩ : ∃ x, t587 131 4 = x := ⟨_, rfl⟩
          rw [z596] at q590
          obtain ⟨v597, z598⟩ : ∃ x, t587 131 11 = x := ⟨_, rfl⟩
          rw [z598] at q591
          have e599 := congrArg Int32.toInt ((M581.2 131 4 (Or.inr (by decide))).trans ((M573.2 131 4 (Or.inr (by decide))).trans ((M561.2 131 4 (Or.inl (by decide))).trans ((q478 131 4 (by decide)).trans ((q22 131 4 (by decide)).trans z4)))))
          have e600 := congrArg Int32.toInt z596
          have e601 := congrArg Int32.toInt ((M581.2 131 4 (Or.inr (by decide))).trans ((M573.2 131 4 (Or.inr (by decide))).trans ((M561.2 131 4 (Or.inl (by decide))).trans ((q478 131 4 (by decide)).trans ((q22 131 4 (by decide)).trans z4)))))
          have e602 := congrArg Int32.toInt z596
          have e603 := congrArg Int32.toInt ((M581.2 131 11 (Or.inr (by decide))).trans ((M573.2 131 11 (Or.inr (by decide))).trans ((M561.2 131 11 (Or.inl (by decide))).trans ((q478 131 11 (by decide)).trans ((q22 131 11 (by decide)).trans z7)))))
          have e604 := congrArg Int32.toInt z598
          refine r_iconst S dX12_behind_90 (by decide) (fun v605 z606 => ?_)
          have r607 := R_eq z606
          exact r_ret S hr hlk X586 ⟨q588, F594, (R_of r607 rfl), (by rw [z596]; exact R_of q590 rfl), (by rw [z598]; exact R_of q591 rfl), (by have h1_0 := congrArg Int32.toInt z596; have h2_0 := congrArg Int32.toInt z4; omega), (by have h1_0 := congrArg Int32.toInt z596; have h2_0 := congrArg Int32.toInt z4; have h1_1 := congrArg Int32.toInt z598; have h2_1 := congrArg Int32.toInt z7; omega), (by have h1_0 := congrArg Int32.toInt z598; have h2_0 := congrArg Int32.toInt z7; omega), (by rw [((q589 131 41 (by decide)).trans ((M581.2 131 41 (Or.inr (by decide))).trans ((M573.2 131 41 (Or.inr (by decide))).trans ((M561.2 131 41 (Or.inl (by decide))).trans z485))))]; exact R_of r489 rfl), (by rw [((q589 131 42 (by decide)).trans ((M581.2 131 42 (Or.inr (by decide))).trans ((M573.2 131 42 (Or.inr (by decide))).trans ((M561.2 131 42 (Or.inl (by decide))).trans ((q478 131 42 (by decide)).trans ((q22 131 42 (by decide)).trans z13))))))]; exact R_of r14 rfl), (by rw [((q589 131 43 (by decide)).trans ((M581.2 131 43 (Or.inr (by decide))).trans M573.1))]; exact R_of r571 rfl), (by rw [((q589 131 45 (by decide)).trans M581.1)]; exact R_of r579 rfl), (fun _ => (by have n1 := congrArg Int32.toInt ((q478 131 42 (by decide)).trans ((q22 131 42 (by decide)).trans z13)); have n2 := congrArg Int32.toInt ((q478 131 45 (by decide)).trans ((q22 131 45 (by decide)).trans z2)); exact SI_push q481 (fun j => ((q589 135 j (by simp [fz])).trans ((M581.2 135 j (Or.inl (by decide))).trans ((M573.2 135 j (Or.inl (by decide))).trans ((M561.2 135 j (Or.inl (by decide))).trans rfl))))) ((q589 131 41 (by decide)).trans ((M581.2 131 41 (Or.inr (by decide))).trans ((M573.2 131 41 (Or.inr (by decide))).trans ((M561.2 131 41 (Or.inl (by decide))).trans rfl)))) ((q589 131 42 (by decide)).trans ((M581.2 131 42 (Or.inr (by decide))).trans ((M573.2 131 42 (Or.inr (by decide))).trans ((M561.2 131 42 (Or.inl (by decide))).trans ((q478 131 42 (by decide)).trans ((q22 131 42 (by decide)).trans z13)))))) ((q589 131 43 (by decide)).trans ((M581.2 131 43 (Or.inr (by decide))).trans M573.1)) ((q589 131 45 (by decide)).trans M581.1) z487 (fun j hj => ((q589 148 j (by simp [fz])).trans ((M581.2 148 j (Or.inl (by decide))).trans ((M573.2 148 j (Or.inl (by decide))).trans ((M561.2 148 j (Or.inr hj)).trans rfl))))) (((q589 148 v486.toNatClampNeg (by simp [fz])).trans ((M581.2 148 v486.toNatClampNeg (Or.inl (by decide))).trans ((M573.2 148 v486.toNatClampNeg (Or.inl (by decide))).trans rfl))).trans M561.1) (by omega) (Or.inr ⟨by omega, by omega, by omega, by omega⟩)))⟩ (nr_bool (R_of (lo := 0) (hi := 1) r607 rfl)) dX12_behind_91
      ·
        have r608 : R (1) (1) v465 := ⟨by omega, by omega⟩
        have p609 := q468 (by omega)
        have r610 : R (1) (1) v6 := ((q22 131 11 (by decide)).trans z7) ▸ p609
        have r611 : R (1) (1) v6 := ⟨by omega, by omega⟩
        refine r_bipush S dX12_behind_35 (by decide) (fun v612 z613 => ?_)
        have r614 := R_eq z613
        refine r_goto (tgt := 42) S dX12_behind_37 (by decide) ?_
        refine r_kv (q_V (As := [.int v612]) (rest := []) (K := 38) (ci := 10) S X463 (c_X12_joins_21 l G t20 q21 v612 r614 (by rw [((q22 131 45 (by decide)).trans z2)]; exact R_of hf_0 rfl) q25) ck12_428 (Nat.le_of_ble_eq_true rfl) rfl (fun _ => ⟨_, rfl⟩) ⟨_, _, rfl⟩ ⟨Nat.le_of_ble_eq_true rfl, Nat.le_of_ble_eq_true rfl⟩ rfl hl.1 rfl (Nat.le_of_ble_eq_true rfl) dX12_behind_42 ⟨Nat.le_refl 0, Nat.le_refl 0⟩) X463 (fun t617 H lc q615 X616 => ?_)
        unfold po_X12_joins_21 at q615
        obtain ⟨q618, q619, q620, q621, q622⟩ := q615
        have F623 : Fr [(131, 15), (131, 16), (131, 4), (131, 11), (131, 12), (131, 13), (131, 14), (131, 41), (131, 43), (131, 44), (131, 45)] [135, 148, 331] τ t617 := Fr_call F26 q619 (by decide)
        obtain ⟨v624, z625⟩ : ∃ x, t617 131 41 = x := ⟨_, rfl⟩
        rw [z625] at q620
        obtain ⟨v626, z627⟩ : ∃ x, t617 131 43 = x := ⟨_, rfl⟩
        rw [z627] at q621
        have h628 := SI_b q622 z625 ((q619 131 42 (by decide)).trans ((q22 131 42 (by decide)).trans z13)) z627 ((q619 131 45 (by decide)).trans ((q22 131 45 (by decide)).trans z2))
        have r629 : R (0) (39) v624 := ⟨by omega, by omega⟩
        have r630 : R (0) (39) v626 := ⟨by omega, by omega⟩
        refine r_aload_n S dX12_behind_45 rfl (lv_at hl 0 rfl) ?_
        refine r_get (K := 38) (v := .ref (G.2.2.2.1 148)) S X616 (Nat.le_of_ble_eq_true rfl) rfl lk12_84_10 (fun _ => ⟨_, rfl, rfl⟩) dX12_behind_46 ?_
        refine r_aload_n S dX12_behind_49 rfl (lv_at hl 0 rfl) ?_
        refine r_geti (K := 38) S X616 (Nat.le_of_ble_eq_true rfl) rfl lk12_407_10 (fun _ => ⟨_, rfl, rfl⟩) z627 dX12_behind_50 ?_
        refine r_aload_n S dX12_behind_53 rfl (lv_at hl 0 rfl) ?_
        refine lv_ldc2 S.1.1 S.1.2.1 S.1.2.2.2.1 (S.1.2.2.2.2 _ kw50) dX12_behind_54 ?_
        refine lv_topl (fun j631 z632 => ?_)
        refine r_ki (q_V (As := [.long j631]) (rest := [.int v626, .ref (G.2.2.2.1 148)]) (K := 38) (ci := 10) S X616 (c_X12_isWord l G t617 q618 j631) ck12_208 (Nat.le_of_ble_eq_true rfl) rfl (fun _ => ⟨_, rfl⟩) ⟨_, _, rfl⟩ ⟨Nat.le_of_ble_eq_true rfl, Nat.le_of_ble_eq_true rfl⟩ rfl hl.1 rfl (Nat.le_of_ble_eq_true rfl) dX12_behind_57 ⟨Nat.le_refl 0, Nat.le_refl 0⟩) X616 (fun v636 t635 H lc q633 X634 => ?_)
        unfold po_X12_isWord at q633
        obtain ⟨q637, q638, q639⟩ := q633
        rw [q637] at X634
        rw [q637] at q639
        refine r_if_eq (tgt := 68) S dX12_behind_60 (by decide) (fun c640 => ?_) (fun c640 => ?_)
        ·
          have r641 : R (0) (0) v636 := ⟨by omega, by omega⟩
          refine r_bipush S dX12_behind_68 (by decide) (fun v642 z643 => ?_)
          have r644 := R_eq z643
          refine r_ast (n := 45) (K := 55) S X634 (Nat.le_of_ble_eq_true rfl) rfl (fun _ _ => rfl) (ix_of r630 rfl) dX12_behind_70 (fun t645 H lc M646 X647 => ?_)
          have I648 := Inv_mu q618 M646 (R_any v642)
          have F649 : Fr [(131, 15), (131, 16), (131, 4), (131, 11), (131, 12), (131, 13), (131, 14), (131, 41), (131, 43), (131, 44), (131, 45)] [135, 148, 331] τ t645 := Fr_cell F623 M646 (by decide)
          refine r_aload_n S dX12_behind_71 rfl (lv_at hl 0 rfl) ?_
          refine r_dup S dX12_behind_72 rfl ?_
          refine r_geti (K := 38) S X647 (Nat.le_of_ble_eq_true rfl) rfl lk12_407_10 (fun _ => ⟨_, rfl, rfl⟩) ((M646.2 131 43 (Or.inl (by decide))).trans z627) dX12_behind_73 ?_
          refine r_iconst S dX12_behind_76 (by decide) (fun v650 z651 => ?_)
          have r652 := R_eq z651
          refine r_iadd S dX12_behind_77 (fun v653 z654 => ?_)
          obtain ⟨e655, r656⟩ := i_add (lo := 1) (hi := 40) z654 r630 r652 rfl
          refine r_put (K := 38) (ty := .int) S X647 (Nat.le_of_ble_eq_true rfl) rfl lk12_407_10 (fun _ => ⟨_, rfl, Nat.le_of_ble_eq_true rfl, rfl⟩) (fun _ _ _ h => by cases h; exact ⟨rfl, rfl⟩) rfl rfl dX12_behind_78 (fun t657 H lc M658 X659 => ?_)
          have I660 := Inv_mu I648 M658 (show Rg (kd 131) 43 v653 from (R_of (lo := 0) (hi := 45) r656 rfl))
          have F661 : Fr [(131, 15), (131, 16), (131, 4), (131, 11), (131, 12), (131, 13), (131, 14), (131, 41), (131, 43), (131, 44), (131, 45)] [135, 148, 331] τ t657 := Fr_mu F649 M658 (by decide)
          refine r_aload_n S dX12_behind_81 rfl (lv_at hl 0 rfl) ?_
          refine r_iconst S dX12_behind_82 (by decide) (fun v662 z663 => ?_)
          have r664 := R_eq z663
          refine r_put (K := 38) (ty := .boolean) S X659 (Nat.le_of_ble_eq_true rfl) rfl lk12_422_10 (fun _ => ⟨_, rfl, Nat.le_of_ble_eq_true rfl, rfl⟩) (fun _ _ _ h => by cases h; exact ⟨rfl, rfl⟩) (nr_bool (R_of (lo := 0) (hi := 1) r664 rfl)) (ft_bool (R_of (lo := 0) (hi := 1) r664 rfl)) dX12_behind_83 (fun t665 H lc M666 X667 => ?_)
          have I668 := Inv_mu I660 M666 (show Rg (kd 131) 45 v662 from (R_of (lo := 0) (hi := 1) r664 rfl))
          have F669 : Fr [(131, 15), (131, 16), (131, 4), (131, 11), (131, 12), (131, 13), (131, 14), (131, 41), (131, 43), (131, 44), (131, 45)] [135, 148, 331] τ t665 := Fr_mu F661 M666 (by decide)
          refine r_aload_n S dX12_behind_86 rfl (lv_at hl 0 rfl) ?_
          refine r_kv (q_V (As := []) (rest := []) (K := 38) (ci := 10) S X667 (c_X12_skip l G t665 I668 ) ck12_186 (Nat.le_of_ble_eq_true rfl) rfl (fun _ => ⟨_, rfl⟩) ⟨_, _, rfl⟩ ⟨Nat.le_of_ble_eq_true rfl, Nat.le_of_ble_eq_true rfl⟩ rfl hl.1 rfl (Nat.le_of_ble_eq_true rfl) dX12_behind_87 ⟨Nat.le_refl 0, Nat.le_refl 0⟩) X667 (fun t672 H lc q670 X671 => ?_)
          unfold po_X12_skip at q670
          obtain ⟨q673, q674, q675, q676, q677, q678⟩ := q670
          have F679 : Fr [(131, 15), (131, 16), (131, 4), (131, 11), (131, 12), (131, 13), (131, 14), (131, 41), (131, 43), (131, 44), (131, 45)] [135, 148, 331] τ t672 := Fr_call F669 q674 (by decide)
          obtain ⟨v680, z681⟩ : ∃ x, t672 131 4 = x := ⟨_, rfl⟩
          rw [z681] at q675
          obtain ⟨v682, z683⟩ : ∃ x, t672 131 11 = x := ⟨_, rfl⟩
          rw [z683] at q676
          have e684 := congrArg Int32.toInt ((M666.2 131 4 (Or.inr (by decide))).trans ((M658.2 131 4 (Or.inr (by decide))).trans ((M646.2 131 4 (Or.inl (by decide))).trans ((q619 131 4 (by decide)).trans ((q22 131 4 (by decide)).trans z4)))))
          have e685 := congrArg Int32.toInt z681
          have e686 := congrArg Int32.toInt ((M666.2 131 4 (Or.inr (by decide))).trans ((M658.2 131 4 (Or.inr (by decide))).trans ((M646.2 131 4 (Or.inl (by decide))).trans ((q619 131 4 (by decide)).trans ((q22 131 4 (by decide)).trans z4)))))
          have e687 := congrArg Int32.toInt z681
          have e688 := congrArg Int32.toInt ((M666.2 131 11 (Or.inr (by decide))).trans ((M658.2 131 11 (Or.inr (by decide))).trans ((M646.2 131 11 (Or.inl (by decide))).trans ((q619 131 11 (by decide)).trans ((q22 131 11 (by decide)).trans z7)))))
          have e689 := congrArg Int32.toInt z683
          refine r_iconst S dX12_behind_90 (by decide) (fun v690 z691 => ?_)
          have r692 := R_eq z691
          exact r_ret S hr hlk X671 ⟨q673, F679, (R_of r692 rfl), (by rw [z681]; exact R_of q675 rfl), (by rw [z683]; exact R_of q676 rfl), (by have h1_0 := congrArg Int32.toInt z681; have h2_0 := congrArg Int32.toInt z4; omega), (by have h1_0 := congrArg Int32.toInt z681; have h2_0 := congrArg Int32.toInt z4; have h1_1 := congrArg Int32.toInt z683; have h2_1 := congrArg Int32.toInt z7; omega), (by have h1_0 := congrArg Int32.toInt z683; have h2_0 := congrArg Int32.toInt z7; omega), (by rw [((q674 131 41 (by decide)).trans ((M666.2 131 41 (Or.inr (by decide))).trans ((M658.2 131 41 (Or.inr (by decide))).trans ((M646.2 131 41 (Or.inl (by decide))).trans z625))))]; exact R_of r629 rfl), (by rw [((q674 131 42 (by decide)).trans ((M666.2 131 42 (Or.inr (by decide))).trans ((M658.2 131 42 (Or.inr (by decide))).trans ((M646.2 131 42 (Or.inl (by decide))).trans ((q619 131 42 (by decide)).trans ((q22 131 42 (by decide)).trans z13))))))]; exact R_of r14 rfl), (by rw [((q674 131 43 (by decide)).trans ((M666.2 131 43 (Or.inr (by decide))).trans M658.1))]; exact R_of r656 rfl), (by rw [((q674 131 45 (by decide)).trans M666.1)]; exact R_of r664 rfl), (fun _ => (by have n1 := congrArg Int32.toInt ((q619 131 42 (by decide)).trans ((q22 131 42 (by decide)).trans z13)); have n2 := congrArg Int32.toInt ((q619 131 45 (by decide)).trans ((q22 131 45 (by decide)).trans z2)); exact SI_push q622 (fun j => ((q674 135 j (by simp [fz])).trans ((M666.2 135 j (Or.inl (by decide))).trans ((M658.2 135 j (Or.inl (by decide))).trans ((M646.2 135 j (Or.inl (by decide))).trans rfl))))) ((q674 131 41 (by decide)).trans ((M666.2 131 41 (Or.inr (by decide))).trans ((M658.2 131 41 (Or.inr (by decide))).trans ((M646.2 131 41 (Or.inl (by decide))).trans rfl)))) ((q674 131 42 (by decide)).trans ((M666.2 131 42 (Or.inr (by decide))).trans ((M658.2 131 42 (Or.inr (by decide))).trans ((M646.2 131 42 (Or.inl (by decide))).trans ((q619 131 42 (by decide)).trans ((q22 131 42 (by decide)).trans z13)))))) ((q674 131 43 (by decide)).trans ((M666.2 131 43 (Or.inr (by decide))).trans M658.1)) ((q674 131 45 (by decide)).trans M666.1) z627 (fun j hj => ((q674 148 j (by simp [fz])).trans ((M666.2 148 j (Or.inl (by decide))).trans ((M658.2 148 j (Or.inl (by decide))).trans ((M646.2 148 j (Or.inr hj)).trans rfl))))) (((q674 148 v626.toNatClampNeg (by simp [fz])).trans ((M666.2 148 v626.toNatClampNeg (Or.inl (by decide))).trans ((M658.2 148 v626.toNatClampNeg (Or.inl (by decide))).trans rfl))).trans M646.1) (by omega) (Or.inr ⟨by omega, by omega, by omega, by omega⟩)))⟩ (nr_bool (R_of (lo := 0) (hi := 1) r692 rfl)) dX12_behind_91
        ·
          have r693 : R (1) (1) v636 := ⟨by omega, by omega⟩
          have p694 := q639 (by omega)
          have r695 : R (1) (1) v6 := ((q619 131 11 (by decide)).trans ((q22 131 11 (by decide)).trans z7)) ▸ p694
          have r696 : R (1) (1) v6 := ⟨by omega, by omega⟩
          refine r_bipush S dX12_behind_63 (by decide) (fun v697 z698 => ?_)
          have r699 := R_eq z698
          refine r_goto (tgt := 70) S dX12_behind_65 (by decide) ?_
          refine r_ast (n := 45) (K := 55) S X634 (Nat.le_of_ble_eq_true rfl) rfl (fun _ _ => rfl) (ix_of r630 rfl) dX12_behind_70 (fun t700 H lc M701 X702 => ?_)
          have I703 := Inv_mu q618 M701 (R_any v697)
          have F704 : Fr [(131, 15), (131, 16), (131, 4), (131, 11), (131, 12), (131, 13), (131, 14), (131, 41), (131, 43), (131, 44), (131, 45)] [135, 148, 331] τ t700 := Fr_cell F623 M701 (by decide)
          refine r_aload_n S dX12_behind_71 rfl (lv_at hl 0 rfl) ?_
          refine r_dup S dX12_behind_72 rfl ?_
          refine r_geti (K := 38) S X702 (Nat.le_of_ble_eq_true rfl) rfl lk12_407_10 (fun _ => ⟨_, rfl, rfl⟩) ((M701.2 131 43 (Or.inl (by decide))).trans z627) dX12_behind_73 ?_
          refine r_iconst S dX12_behind_76 (by decide) (fun v705 z706 => ?_)
          have r707 := R_eq z706
          refine r_iadd S dX12_behind_77 (fun v708 z709 => ?_)
          obtain ⟨e710, r711⟩ := i_add (lo := 1) (hi := 40) z709 r630 r707 rfl
          refine r_put (K := 38) (ty := .int) S X702 (Nat.le_of_ble_eq_true rfl) rfl lk12_407_10 (fun _ => ⟨_, rfl, Nat.le_of_ble_eq_true rfl, rfl⟩) (fun _ _ _ h => by cases h; exact ⟨rfl, rfl⟩) rfl rfl dX12_behind_78 (fun t712 H lc M713 X714 => ?_)
          have I715 := Inv_mu I703 M713 (show Rg (kd 131) 43 v708 from (R_of (lo := 0) (hi := 45) r711 rfl))
          have F716 : Fr [(131, 15), (131, 16), (131, 4), (131, 11), (131, 12), (131, 13), (131, 14), (131, 41), (131, 43), (131, 44), (131, 45)] [135, 148, 331] τ t712 := Fr_mu F704 M713 (by decide)
          refine r_aload_n S dX12_behind_81 rfl (lv_at hl 0 rfl) ?_
          refine r_iconst S dX12_behind_82 (by decide) (fun v717 z718 => ?_)
          have r719 := R_eq z718
          refine r_put (K := 38) (ty := .boolean) S X714 (Nat.le_of_ble_eq_true rfl) rfl lk12_422_10 (fun _ => ⟨_, rfl, Nat.le_of_ble_eq_true rfl, rfl⟩) (fun _ _ _ h => by cases h; exact ⟨rfl, rfl⟩) (nr_bool (R_of (lo := 0) (hi := 1) r719 rfl)) (ft_bool (R_of (lo := 0) (hi := 1) r719 rfl)) dX12_behind_83 (fun t720 H lc M721 X722 => ?_)
          have I723 := Inv_mu I715 M721 (show Rg (kd 131) 45 v717 from (R_of (lo := 0) (hi := 1) r719 rfl))
          have F724 : Fr [(131, 15), (131, 16), (131, 4), (131, 11), (131, 12), (131, 13), (131, 14), (131, 41), (131, 43), (131, 44), (131, 45)] [135, 148, 331] τ t720 := Fr_mu F716 M721 (by decide)
          refine r_aload_n S dX12_behind_86 rfl (lv_at hl 0 rfl) ?_
          refine r_kv (q_V (As := []) (rest := []) (K := 38) (ci := 10) S X722 (c_X12_skip l G t720 I723 ) ck12_186 (Nat.le_of_ble_eq_true rfl) rfl (fun _ => ⟨_, rfl⟩) ⟨_, _, rfl⟩ ⟨Nat.le_of_ble_eq_true rfl, Nat.le_of_ble_eq_true rfl⟩ rfl hl.1 rfl (Nat.le_of_ble_eq_true rfl) dX12_behind_87 ⟨Nat.le_refl 0, Nat.le_refl 0⟩) X722 (fun t727 H lc q725 X726 => ?_)
          unfold po_X12_skip at q725
          obtain ⟨q728, q729, q730, q731, q732, q733⟩ := q725
          have F734 : Fr [(131, 15), (131, 16), (131, 4), (131, 11), (131, 12), (131, 13), (131, 14), (131, 41), (131, 43), (131, 44), (131, 45)] [135, 148, 331] τ t727 := Fr_call F724 q729 (by decide)
          obtain ⟨v735, z736⟩ : ∃ x, t727 131 4 = x := ⟨_, rfl⟩
          rw [z736] at q730
          obtain ⟨v737, z738⟩ : ∃ x, t727 131 11 = x := ⟨_, rfl⟩
          rw [z738] at q731
          have e739 := congrArg Int32.toInt ((M721.2 131 4 (Or.inr (by decide))).trans ((M713.2 131 4 (Or.inr (by decide))).trans ((M701.2 131 4 (Or.inl (by decide))).trans ((q619 131 4 (by decide)).trans ((q22 131 4 (by decide)).trans z4)))))
          have e740 := congrArg Int32.toInt z736
          have e741 := congrArg Int32.toInt ((M721.2 131 4 (Or.inr (by decide))).trans ((M713.2 131 4 (Or.inr (by decide))).trans ((M701.2 131 4 (Or.inl (by decide))).trans ((q619 131 4 (by decide)).trans ((q22 131 4 (by decide)).trans z4)))))
          have e742 := congrArg Int32.toInt z736
          have e743 := congrArg Int32.toInt ((M721.2 131 11 (Or.inr (by decide))).trans ((M713.2 131 11 (Or.inr (by decide))).trans ((M701.2 131 11 (Or.inl (by decide))).trans ((q619 131 11 (by decide)).trans ((q22 131 11 (by decide)).trans z7)))))
          have e744 := congrArg Int32.toInt z738
          refine r_iconst S dX12_behind_90 (by decide) (fun v745 z746 => ?_)
          have r747 := R_eq z746
          exact r_ret S hr hlk X726 ⟨q728, F734, (R_of r747 rfl), (by rw [z736]; exact R_of q730 rfl), (by rw [z738]; exact R_of q731 rfl), (by have h1_0 := congrArg Int32.toInt z736; have h2_0 := congrArg Int32.toInt z4; omega), (by have h1_0 := congrArg Int32.toInt z736; have h2_0 := congrArg Int32.toInt z4; have h1_1 := congrArg Int32.toInt z738; have h2_1 := congrArg Int32.toInt z7; omega), (by have h1_0 := congrArg Int32.toInt z738; have h2_0 := congrArg Int32.toInt z7; omega), (by rw [((q729 131 41 (by decide)).trans ((M721.2 131 41 (Or.inr (by decide))).trans ((M713.2 131 41 (Or.inr (by decide))).trans ((M701.2 131 41 (Or.inl (by decide))).trans z625))))]; exact R_of r629 rfl), (by rw [((q729 131 42 (by decide)).trans ((M721.2 131 42 (Or.inr (by decide))).trans ((M713.2 131 42 (Or.inr (by decide))).trans ((M701.2 131 42 (Or.inl (by decide))).trans ((q619 131 42 (by decide)).trans ((q22 131 42 (by decide)).trans z13))))))]; exact R_of r14 rfl), (by rw [((q729 131 43 (by decide)).trans ((M721.2 131 43 (Or.inr (by decide))).trans M713.1))]; exact R_of r711 rfl), (by rw [((q729 131 45 (by decide)).trans M721.1)]; exact R_of r719 rfl), (fun _ => (by have n1 := congrArg Int32.toInt ((q619 131 42 (by decide)).trans ((q22 131 42 (by decide)).trans z13)); have n2 := congrArg Int32.toInt ((q619 131 45 (by decide)).trans ((q22 131 45 (by decide)).trans z2)); exact SI_push q622 (fun j => ((q729 135 j (by simp [fz])).trans ((M721.2 135 j (Or.inl (by decide))).trans ((M713.2 135 j (Or.inl (by decide))).trans ((M701.2 135 j (Or.inl (by decide))).trans rfl))))) ((q729 131 41 (by decide)).trans ((M721.2 131 41 (Or.inr (by decide))).trans ((M713.2 131 41 (Or.inr (by decide))).trans ((M701.2 131 41 (Or.inl (by decide))).trans rfl)))) ((q729 131 42 (by decide)).trans ((M721.2 131 42 (Or.inr (by decide))).trans ((M713.2 131 42 (Or.inr (by decide))).trans ((M701.2 131 42 (Or.inl (by decide))).trans ((q619 131 42 (by decide)).trans ((q22 131 42 (by decide)).trans z13)))))) ((q729 131 43 (by decide)).trans ((M721.2 131 43 (Or.inr (by decide))).trans M713.1)) ((q729 131 45 (by decide)).trans M721.1) z627 (fun j hj => ((q729 148 j (by simp [fz])).trans ((M721.2 148 j (Or.inl (by decide))).trans ((M713.2 148 j (Or.inl (by decide))).trans ((M701.2 148 j (Or.inr hj)).trans rfl))))) (((q729 148 v626.toNatClampNeg (by simp [fz])).trans ((M721.2 148 v626.toNatClampNeg (Or.inl (by decide))).trans ((M713.2 148 v626.toNatClampNeg (Or.inl (by decide))).trans rfl))).trans M701.1) (by omega) (Or.inr ⟨by omega, by omega, by omega, by omega⟩)))⟩ (nr_bool (R_of (lo := 0) (hi := 1) r747 rfl)) dX12_behind_91
def po_X12_sentence (τ : Tau)     (r : Int32) (u : Tau) : Prop := Inv u ∧ Fr [(131, 0), (131, 15), (131, 16), (131, 4), (131, 11), (131, 12), (131, 13), (131, 14), (131, 2), (131, 3), (131, 5), (131, 41), (131, 42), (131, 43), (131, 44), (131, 45)] [135, 148, 133, 331] τ u ∧ R (0) (0) (u 131 2) ∧ PF u
set_option maxHeartbeats 4000000 in
set_option maxRecDepth 100000 in
theorem c_X12_sentence (l : Launch) (G : Gx) (τ : Tau) (hI : Inv τ) (hp_0 : PF τ) : Ci l G yX12_sentence cX12_sentence 3 (some .int) 3 67 [.ref (G.2.2.2.1 131)] τ (po_X12_sentence τ    ) := by
  unfold Ci
  refine C_of (own := RX12) (by decide) rfl (Nat.le_of_ble_eq_true rfl) ?_
  intro p e s m below meth c ls S hr hlk X hl
  have hl : lv_has ls 3 [(0, .ref (G.2.2.2.1 131))] := hl
  refine r_aload_n S dX12_sentence_0 rfl (lv_at hl 0 rfl) ?_
  refine r_iconst S dX12_sentence_1 (by decide) (fun v1 z2 => ?_)
  have r3 := R_eq z2
  refine r_put (K := 38) (ty := .int) S X (Nat.le_of_ble_eq_true rfl) rfl lk12_1_10 (fun _ => ⟨_, rfl, Nat.le_of_ble_eq_true rfl, rfl⟩) (fun _ _ _ h => by cases h; exact ⟨rfl, rfl⟩) rfl rfl dX12_sentence_2 (fun t4 H lc M5 X6 => ?_)
  have I7 := Inv_mu hI M5 (R_any v1)
  have F8 : Fr [(131, 0), (131, 15), (131, 16), (131, 4), (131, 11), (131, 12), (131, 13), (131, 14), (131, 2), (131, 3), (131, 5), (131, 41), (131, 42), (131, 43), (131, 44), (131, 45)] [135, 148, 133, 331] τ t4 := Fr_mu Fr_rfl M5 (by decide)
  refine r_aload_n S dX12_sentence_5 rfl (lv_at hl 0 rfl) ?_
  refine r_sipush S dX12_sentence_6 (by decide) (fun v9 z10 => ?_)
  have r11 := R_eq z10
  refine r_kv (q_V (As := [.int v9]) (rest := []) (K := 38) (ci := 10) S X6 (c_X12_taken l G t4 I7 v9 (R_of (lo := 0) (hi := 940) r11 rfl)) ck12_237 (Nat.le_of_ble_eq_true rfl) rfl (fun _ => ⟨_, rfl⟩) ⟨_, _, rfl⟩ ⟨Nat.le_of_ble_eq_true rfl, Nat.le_of_ble_eq_true rfl⟩ rfl hl.1 rfl (Nat.le_of_ble_eq_true rfl) dX12_sentence_9 ⟨Nat.le_refl 0, Nat.le_refl 0⟩) X6 (fun t14 H lc q12 X13 => ?_)
  unfold po_X12_taken at q12
  obtain ⟨q15, q16, q17⟩ := q12
  have F18 : Fr [(131, 0), (131, 15), (131, 16), (131, 4), (131, 11), (131, 12), (131, 13), (131, 14), (131, 2), (131, 3), (131, 5), (131, 41), (131, 42), (131, 43), (131, 44), (131, 45)] [135, 148, 133, 331] τ t14 := Fr_call F8 q16 (by decide)
  obtain ⟨v19, z20⟩ : ∃ x, t14 131 2 = x := ⟨_, rfl⟩
  rw [z20] at q17
  refine r_aload_n S dX12_sentence_12 rfl (lv_at hl 0 rfl) ?_
  refine r_iconst S dX12_sentence_13 (by decide) (fun v21 z22 => ?_)
  have r23 := R_eq z22
  refine r_put (K := 38) (ty := .int) S X13 (Nat.le_of_ble_eq_true rfl) rfl lk12_174_10 (fun _ => ⟨_, rfl, Nat.le_of_ble_eq_true rfl, rfl⟩) (fun _ _ _ h => by cases h; exact ⟨rfl, rfl⟩) rfl rfl dX12_sentence_14 (fun t24 H lc M25 X26 => ?_)
  have I27 := Inv_mu q15 M25 (R_any v21)
  have F28 : Fr [(131, 0), (131, 15), (131, 16), (131, 4), (131, 11), (131, 12), (131, 13), (131, 14), (131, 2), (131, 3), (131, 5), (131, 41), (131, 42), (131, 43), (131, 44), (131, 45)] [135, 148, 133, 331] τ t24 := Fr_mu F18 M25 (by decide)
  refine r_aload_n S dX12_sentence_17 rfl (lv_at hl 0 rfl) ?_
  refine r_iconst S dX12_sentence_18 (by decide) (fun v29 z30 => ?_)
  have r31 := R_eq z30
  refine r_put (K := 38) (ty := .int) S X26 (Nat.le_of_ble_eq_true rfl) rfl lk12_404_10 (fun _ => ⟨_, rfl, Nat.le_of_ble_eq_true rfl, rfl⟩) (fun _ _ _ h => by cases h; exact ⟨rfl, rfl⟩) rfl rfl dX12_sentence_19 (fun t32 H lc M33 X34 => ?_)
  have I35 := Inv_mu I27 M33 (show Rg (kd 131) 41 v29 from (R_of (lo := 0) (hi := 53) r31 rfl))
  have F36 : Fr [(131, 0), (131, 15), (131, 16), (131, 4), (131, 11), (131, 12), (131, 13), (131, 14), (131, 2), (131, 3), (131, 5), (131, 41), (131, 42), (131, 43), (131, 44), (131, 45)] [135, 148, 133, 331] τ t32 := Fr_mu F28 M33 (by decide)
  refine r_aload_n S dX12_sentence_22 rfl (lv_at hl 0 rfl) ?_
  refine r_iconst S dX12_sentence_23 (by decide) (fun v37 z38 => ?_)
  have r39 := R_eq z38
  refine r_put (K := 38) (ty := .int) S X34 (Nat.le_of_ble_eq_true rfl) rfl lk12_419_10 (fun _ => ⟨_, rfl, Nat.le_of_ble_eq_true rfl, rfl⟩) (fun _ _ _ h => by cases h; exact ⟨rfl, rfl⟩) rfl rfl dX12_sentence_24 (fun t40 H lc M41 X42 => ?_)
  have I43 := Inv_mu I35 M41 (show Rg (kd 131) 42 v37 from (R_of (lo := 0) (hi := 20) r39 rfl))
  have F44 : Fr [(131, 0), (131, 15), (131, 16), (131, 4), (131, 11), (131, 12), (131, 13), (131, 14), (131, 2), (131, 3), (131, 5), (131, 41), (131, 42), (131, 43), (131, 44), (131, 45)] [135, 148, 133, 331] τ t40 := Fr_mu F36 M41 (by decide)
  refine r_aload_n S dX12_sentence_27 rfl (lv_at hl 0 rfl) ?_
  refine r_iconst S dX12_sentence_28 (by decide) (fun v45 z46 => ?_)
  have r47 := R_eq z46
  refine r_put (K := 38) (ty := .int) S X42 (Nat.le_of_ble_eq_true rfl) rfl lk12_407_10 (fun _ => ⟨_, rfl, Nat.le_of_ble_eq_true rfl, rfl⟩) (fun _ _ _ h => by cases h; exact ⟨rfl, rfl⟩) rfl rfl dX12_sentence_29 (fun t48 H lc M49 X50 => ?_)
  have I51 := Inv_mu I43 M49 (show Rg (kd 131) 43 v45 from (R_of (lo := 0) (hi := 45) r47 rfl))
  have F52 : Fr [(131, 0), (131, 15), (131, 16), (131, 4), (131, 11), (131, 12), (131, 13), (131, 14), (131, 2), (131, 3), (131, 5), (131, 41), (131, 42), (131, 43), (131, 44), (131, 45)] [135, 148, 133, 331] τ t48 := Fr_mu F44 M49 (by decide)
  refine r_aload_n S dX12_sentence_32 rfl (lv_at hl 0 rfl) ?_
  refine r_iconst S dX12_sentence_33 (by decide) (fun v53 z54 => ?_)
  have r55 := R_eq z54
  refine r_put (K := 38) (ty := .int) S X50 (Nat.le_of_ble_eq_true rfl) rfl lk12_413_10 (fun _ => ⟨_, rfl, Nat.le_of_ble_eq_true rfl, rfl⟩) (fun _ _ _ h => by cases h; exact ⟨rfl, rfl⟩) rfl rfl dX12_sentence_34 (fun t56 H lc M57 X58 => ?_)
  have I59 := Inv_mu I51 M57 (R_any v53)
  have F60 : Fr [(131, 0), (131, 15), (131, 16), (131, 4), (131, 11), (131, 12), (131, 13), (131, 14), (131, 2), (131, 3), (131, 5), (131, 41), (131, 42), (131, 43), (131, 44), (131, 45)] [135, 148, 133, 331] τ t56 := Fr_mu F52 M57 (by decide)
  refine r_aload_n S dX12_sentence_37 rfl (lv_at hl 0 rfl) ?_
  refine r_iconst S dX12_sentence_38 (by decide) (fun v61 z62 => ?_)
  have r63 := R_eq z62
  refine r_put (K := 38) (ty := .boolean) S X58 (Nat.le_of_ble_eq_true rfl) rfl lk12_422_10 (fun _ => ⟨_, rfl, Nat.le_of_ble_eq_true rfl, rfl⟩) (fun _ _ _ h => by cases h; exact ⟨rfl, rfl⟩) (nr_bool (R_of (lo := 0) (hi := 1) r63 rfl)) (ft_bool (R_of (lo := 0) (hi := 1) r63 rfl)) dX12_sentence_39 (fun t64 H lc M65 X66 => ?_)
  have I67 := Inv_mu I59 M65 (show Rg (kd 131) 45 v61 from (R_of (lo := 0) (hi := 1) r63 rfl))
  have F68 : Fr [(131, 0), (131, 15), (131, 16), (131, 4), (131, 11), (131, 12), (131, 13), (131, 14), (131, 2), (131, 3), (131, 5), (131, 41), (131, 42), (131, 43), (131, 44), (131, 45)] [135, 148, 133, 331] τ t64 := Fr_mu F60 M65 (by decide)
  refine r_aload_n S dX12_sentence_42 rfl (lv_at hl 0 rfl) ?_
  refine r_kv (q_V (As := []) (rest := []) (K := 38) (ci := 10) S X66 (c_X12_skip l G t64 I67 ) ck12_186 (Nat.le_of_ble_eq_true rfl) rfl (fun _ => ⟨_, rfl⟩) ⟨_, _, rfl⟩ ⟨Nat.le_of_ble_eq_true rfl, Nat.le_of_ble_eq_true rfl⟩ rfl hl.1 rfl (Nat.le_of_ble_eq_true rfl) dX12_sentence_43 ⟨Nat.le_refl 0, Nat.le_refl 0⟩) X66 (fun t71 H lc q69 X70 => ?_)
  unfold po_X12_skip at q69
  obtain ⟨q72, q73, q74, q75, q76, q77⟩ := q69
  have F78 : Fr [(131, 0), (131, 15), (131, 16), (131, 4), (131, 11), (131, 12), (131, 13), (131, 14), (131, 2), (131, 3), (131, 5), (131, 41), (131, 42), (131, 43), (131, 44), (131, 45)] [135, 148, 133, 331] τ t71 := Fr_call F68 q73 (by decide)
  obtain ⟨v79, z80⟩ : ∃ x, t71 131 4 = x := ⟨_, rfl⟩
  rw [z80] at q74
  obtain ⟨v81, z82⟩ : ∃ x, t71 131 11 = x := ⟨_, rfl⟩
  rw [z82] at q75
  have e83 := congrArg Int32.toInt z80
  have e84 := congrArg Int32.toInt z80
  have e85 := congrArg Int32.toInt z82
  refine r_iconst S dX12_sentence_46 (by decide) (fun v86 z87 => ?_)
  have r88 := R_eq z87
  refine r_istore_n (lv' := [(1, .int v86), (0, .ref (G.2.2.2.1 131))]) S dX12_sentence_47 rfl hl (by decide) rfl (fun ls hl => ?_)
  have L530 : ∀ (n : Nat) (t506 : Tau) (H : Heap) (lc : List Loc) (ls : Array Slot) (i504 : Int32) (f512 : Int32) (f515 : Int32) (f518 : Int32) (f521 : Int32) (f524 : Int32) (f527 : Int32), Xd G s H lc t506 → Inv t506 → Fr [(131, 0), (131, 15), (131, 16), (131, 4), (131, 11), (131, 12), (131, 13), (131, 14), (131, 2), (131, 3), (131, 5), (131, 41), (131, 42), (131, 43), (131, 44), (131, 45)] [135, 148, 133, 331] τ t506 → R (0) (1) i504 → t506 131 0 = v1 → t506 131 2 = v19 → t506 131 41 = f512 → R (0) (53) f512 → t506 131 42 = f515 → R (0) (20) f515 → t506 131 43 = f518 → R (0) (45) f518 → t506 131 45 = f521 → R (0) (1) f521 → t506 131 4 = f524 → R (0) (940) f524 → t506 131 11 = f527 → R (0) (4) f527 → SI t506 → PF t506 → lv_has ls 3 [(0, .ref (G.2.2.2.1 131)), (1, .int i504)] → (2 * (940 - f524.toInt) + (if 1 ≤ f527.toInt ∧ f527.toInt ≤ 3 then 1 else 0) + i504.toInt).toNat < n → W p l e (Rm 3 67) s m ([.ref (G.2.2.2.1 131)] : List Value).toArray below meth c H lc 0 0 (MQ below (va_Qi (po_X12_sentence τ    ) (Bs G) G.2.2.2.2) ([.ref (G.2.2.2.1 131)] : List Value).toArray s 0 0 G.2.2.2.2) (F0 m 48 ls []) := by
    intro n
    induction n with
    | zero => intros; omega
    | succ n ih533 =>
      intro t506 H lc ls i504 f512 f515 f518 f521 f524 f527 X509 I507 F508 r505 z510 z511 z514 r513 z517 r516 z520 r519 z523 r522 z526 r525 z529 r528 x531 x532 hl hm
      refine r_iload_n S dX12_sentence_48 rfl (lv_at hl 1 rfl) ?_
      refine r_if_eq (tgt := 132) S dX12_sentence_49 (by decide) (fun c534 => ?_) (fun c534 => ?_)
      ·
        have r535 : R (0) (0) i504 := ⟨by omega, by omega⟩
        refine r_aload_n S dX12_sentence_132 rfl (lv_at hl 0 rfl) ?_
        refine r_get (K := 38) (v := .ref (G.2.2.2.1 133)) S X509 (Nat.le_of_ble_eq_true rfl) rfl lk12_33_10 (fun _ => ⟨_, rfl, rfl⟩) dX12_sentence_133 ?_
        refine r_sipush S dX12_sentence_136 (by decide) (fun v536 z537 => ?_)
        have r538 := R_eq z537
        refine r_aload_n S dX12_sentence_139 rfl (lv_at hl 0 rfl) ?_
        refine r_geti (K := 38) S X509 (Nat.le_of_ble_eq_true rfl) rfl lk12_404_10 (fun _ => ⟨_, rfl, rfl⟩) z514 dX12_sentence_140 ?_
        refine r_ast (n := 513) (K := 40) S X509 (Nat.le_of_ble_eq_true rfl) rfl (fun _ _ => rfl) (ix_of r538 rfl) dX12_sentence_143 (fun t539 H lc M540 X541 => ?_)
        have I542 := Inv_mu I507 M540 (show Rg (kd 133) _ f512 from wrs (K := 40) (a := 332) (n := 1) (R_of r538 rfl) (R_of (lo := 0) (hi := 53) r513 rfl) (by decide +kernel))
        have F543 : Fr [(131, 0), (131, 15), (131, 16), (131, 4), (131, 11), (131, 12), (131, 13), (131, 14), (131, 2), (131, 3), (131, 5), (131, 41), (131, 42), (131, 43), (131, 44), (131, 45)] [135, 148, 133, 331] τ t539 := Fr_cell F508 M540 (by decide)
        refine r_iconst S dX12_sentence_144 (by decide) (fun v544 z545 => ?_)
        have r546 := R_eq z545
        refine r_istore_n (lv' := [(2, .int v544), (0, .ref (G.2.2.2.1 131)), (1, .int i504)]) S dX12_sentence_145 rfl hl (by decide) rfl (fun ls hl => ?_)
        have L1599 : ∀ (n : Nat) (t1586 : Tau) (H : Heap) (lc : List Loc) (ls : Array Slot) (i1584 : Int32), Xd G s H lc t1586 → Inv t1586 → Fr [(131, 0), (131, 15), (131, 16), (131, 4), (131, 11), (131, 12), (131, 13), (131, 14), (131, 2), (131, 3), (131, 5), (131, 41), (131, 42), (131, 43), (131, 44), (131, 45)] [135, 148, 133, 331] τ t1586 → R (0) (160) i1584 → t1586 131 0 = v1 → t1586 131 2 = v19 → t1586 131 41 = f512 → t1586 131 42 = f515 → t1586 131 43 = f518 → t1586 131 45 = f521 → t1586 131 4 = f524 → t1586 131 11 = f527 → t1586 133 332 = f512 → (∀ j : Nat, (j : Int) < i1584.toInt → t1586 133 (333 + j) = t1586 135 j) → SI t1586 → lv_has ls 3 [(0, .ref (G.2.2.2.1 131)), (2, .int i1584)] → (160 - i1584.toInt).toNat < n → W p l e (Rm 3 67) s m ([.ref (G.2.2.2.1 131)] : List Value).toArray below meth c H lc 0 0 (MQ below (va_Qi (po_X12_sentence τ    ) (Bs G) G.2.2.2.2) ([.ref (G.2.2.2.1 131)] : List Value).toArray s 0 0 G.2.2.2.2) (F0 m 146 ls []) := by
          intro n
          induction n with
          | zero => intros; omega
          | succ n ih1602 =>
            intro t1586 H lc ls i1584 X1589 I1587 F1588 r1585 z1590 z1591 z1592 z1593 z1594 z1595 z1596 z1597 z1598 x1600 x1601 hl hm
            refine r_iload_n S dX12_sentence_146 rfl (lv_at hl 1 rfl) ?_
            refine r_iconst S dX12_sentence_147 (by decide) (fun v1603 z1604 => ?_)
            have r1605 := R_eq z1604
            refine r_aload_n S dX12_sentence_148 rfl (lv_at hl 0 rfl) ?_
            refine r_geti (K := 38) S X1589 (Nat.le_of_ble_eq_true rfl) rfl lk12_404_10 (fun _ => ⟨_, rfl, rfl⟩) z1592 dX12_sentence_149 ?_
            refine r_imul S dX12_sentence_152 (fun v1606 z1607 => ?_)
            obtain ⟨e1608, r1609⟩ := i_mul (lo := 0) (hi := 159) z1607 r1605 r513 rfl rfl
            have e1610 : v1606.toInt = 3 * f512.toInt := by rw [e1608, show v1603.toInt = 3 by omega]
            refine r_icmp_ge (tgt := 178) S dX12_sentence_153 (by decide) (fun c1611 => ?_) (fun c1611 => ?_)
            ·
              refine r_aload_n S dX12_sentence_178 rfl (lv_at hl 0 rfl) ?_
              refine r_geti (K := 38) S X1589 (Nat.le_of_ble_eq_true rfl) rfl lk12_419_10 (fun _ => ⟨_, rfl, rfl⟩) z1593 dX12_sentence_179 ?_
              exact r_ret S hr hlk X1589 ⟨I1587, F1588, (by rw [z1591]; exact R_of q17 rfl), (PF_mk x1601 z1592 z1593 z1594 z1595 (by omega) (by omega) z1598 x1600 (by omega))⟩ rfl dX12_sentence_182
            ·
              have r1612 : R (0) (158) i1584 := ⟨by omega, by omega⟩
              have r1613 : R (1) (159) v1606 := ⟨by omega, by omega⟩
              have r1614 : R (1) (53) f512 := ⟨by omega, by omega⟩
              refine r_aload_n S dX12_sentence_156 rfl (lv_at hl 0 rfl) ?_
              refine r_get (K := 38) (v := .ref (G.2.2.2.1 133)) S X1589 (Nat.le_of_ble_eq_true rfl) rfl lk12_33_10 (fun _ => ⟨_, rfl, rfl⟩) dX12_sentence_157 ?_
              refine r_sipush S dX12_sentence_160 (by decide) (fun v1615 z1616 => ?_)
              have r1617 := R_eq z1616
              refine r_iload_n S dX12_sentence_163 rfl (lv_at hl 1 rfl) ?_
              refine r_iadd S dX12_sentence_164 (fun v1618 z1619 => ?_)
              obtain ⟨e1620, r1621⟩ := i_add (lo := 333) (hi := 491) z1619 r1617 r1612 rfl
              refine r_aload_n S dX12_sentence_165 rfl (lv_at hl 0 rfl) ?_
              refine r_get (K := 38) (v := .ref (G.2.2.2.1 135)) S X1589 (Nat.le_of_ble_eq_true rfl) rfl lk12_40_10 (fun _ => ⟨_, rfl, rfl⟩) dX12_sentence_166 ?_
              refine r_iload_n S dX12_sentence_169 rfl (lv_at hl 1 rfl) ?_
              refine r_aldn (n := 160) (K := 42) S X1589 (Nat.le_of_ble_eq_true rfl) rfl (fun _ => rfl) (ix_of r1612 rfl) dX12_sentence_170 (fun v1622 z1623 => ?_)
              have r1625 := R_any v1622
              refine r_ast (n := 513) (K := 40) S X1589 (Nat.le_of_ble_eq_true rfl) rfl (fun _ _ => rfl) (ix_of r1621 rfl) dX12_sentence_171 (fun t1626 H lc M1627 X1628 => ?_)
              have I1629 := Inv_mu I1587 M1627 (show Rg (kd 133) _ v1622 from wrs (K := 40) (a := 333) (n := 159) (R_of r1621 rfl) (R_of (lo := -2147483648) (hi := 2147483647) r1625 rfl) (by decide +kernel))
              have F1630 : Fr [(131, 0), (131, 15), (131, 16), (131, 4), (131, 11), (131, 12), (131, 13), (131, 14), (131, 2), (131, 3), (131, 5), (131, 41), (131, 42), (131, 43), (131, 44), (131, 45)] [135, 148, 133, 331] τ t1626 := Fr_cell F1588 M1627 (by decide)
              refine r_iinc (k := 1) S dX12_sentence_172 hl rfl (by decide) (by decide) (fun v1631 d1632 ls z1633 z1634 hl => ?_)
              obtain ⟨e1635, r1636⟩ := i_add (lo := 1) (hi := 159) z1633 r1612 (R_eq z1634) rfl
              have hl : lv_has ls 3 [(2, .int v1631), (0, .ref (G.2.2.2.1 131))] := hl
              refine r_goto (tgt := 146) S dX12_sentence_175 (by decide) ?_
              exact ih1602 t1626 _ _ _ v1631 X1628 I1629 F1630 (R_of r1636 rfl) ((M1627.2 131 0 (Or.inl (by decide))).trans z1590) ((M1627.2 131 2 (Or.inl (by decide))).trans z1591) ((M1627.2 131 41 (Or.inl (by decide))).trans z1592) ((M1627.2 131 42 (Or.inl (by decide))).trans z1593) ((M1627.2 131 43 (Or.inl (by decide))).trans z1594) ((M1627.2 131 45 (Or.inl (by decide))).trans z1595) ((M1627.2 131 4 (Or.inl (by decide))).trans z1596) ((M1627.2 131 11 (Or.inl (by decide))).trans z1597) ((M1627.2 133 332 (Or.inr (ixne r1621 rfl))).trans z1598) (cp_step x1600 M1627 (by decide) (by omega) (by omega) z1623 (by omega)) (SI_eq x1601 (fun j => ((M1627.2 135 j (Or.inl (by decide))).trans rfl)) (fun j => ((M1627.2 148 j (Or.inl (by decide))).trans rfl)) ((M1627.2 131 41 (Or.inl (by decide))).trans rfl) ((M1627.2 131 42 (Or.inl (by decide))).trans rfl) ((M1627.2 131 43 (Or.inl (by decide))).trans rfl) ((M1627.2 131 45 (Or.inl (by decide))).trans rfl)) (lv_sub hl [1, 0] rfl) (by omega)
        exact L1599 _ t539 _ _ _ v544 X541 I542 F543 (R_of r546 rfl) ((M540.2 131 0 (Or.inl (by decide))).trans z510) ((M540.2 131 2 (Or.inl (by decide))).trans z511) ((M540.2 131 41 (Or.inl (by decide))).trans z514) ((M540.2 131 42 (Or.inl (by decide))).trans z517) ((M540.2 131 43 (Or.inl (by decide))).trans z520) ((M540.2 131 45 (Or.inl (by decide))).trans z523) ((M540.2 131 4 (Or.inl (by decide))).trans z526) ((M540.2 131 11 (Or.inl (by decide))).trans z529) (zc (by omega) M540.1) (fun j hj => by exfalso; omega) (SI_eq x531 (fun j => ((M540.2 135 j (Or.inl (by decide))).trans rfl)) (fun j => ((M540.2 148 j (Or.inl (by decide))).trans rfl)) ((M540.2 131 41 (Or.inl (by decide))).trans rfl) ((M540.2 131 42 (Or.inl (by decide))).trans rfl) ((M540.2 131 43 (Or.inl (by decide))).trans rfl) ((M540.2 131 45 (Or.inl (by decide))).trans rfl)) (lv_sub hl [1, 0] rfl) (Nat.lt_succ_self _)
      ·
        have r1637 : R (1) (1) i504 := ⟨by omega, by omega⟩
        refine r_aload_n S dX12_sentence_52 rfl (lv_at hl 0 rfl) ?_
        refine r_geti (K := 38) S X509 (Nat.le_of_ble_eq_true rfl) rfl lk12_422_10 (fun _ => ⟨_, rfl, rfl⟩) z523 dX12_sentence_53 ?_
        refine r_if_eq (tgt := 101) S dX12_sentence_56 (by decide) (fun c1638 => ?_) (fun c1638 => ?_)
        ·
          have r1639 : R (0) (0) f521 := ⟨by omega, by omega⟩
          refine r_aload_n S dX12_sentence_101 rfl (lv_at hl 0 rfl) ?_
          refine r_geti (K := 38) S X509 (Nat.le_of_ble_eq_true rfl) rfl lk12_422_10 (fun _ => ⟨_, rfl, rfl⟩) z523 dX12_sentence_102 ?_
          refine r_if_eq (tgt := 118) S dX12_sentence_105 (by decide) (fun c1640 => ?_) (fun c1640 => ?_)
          ·
            refine r_aload_n S dX12_sentence_118 rfl (lv_at hl 0 rfl) ?_
            refine r_ki (q_V (As := []) (rest := []) (K := 38) (ci := 10) S X509 (c_X12_operand l G t506 I507 (by rw [z523]; exact R_of r1639 rfl) x531) ck12_434 (Nat.le_of_ble_eq_true rfl) rfl (fun _ => ⟨_, rfl⟩) ⟨_, _, rfl⟩ ⟨Nat.le_of_ble_eq_true rfl, Nat.le_of_ble_eq_true rfl⟩ rfl hl.1 rfl (Nat.le_of_ble_eq_true rfl) dX12_sentence_119 ⟨Nat.le_refl 0, Nat.le_refl 0⟩) X509 (fun v1644 t1643 H lc q1641 X1642 => ?_)
            unfold po_X12_operand at q1641
            obtain ⟨q1645, q1646, q1647, q1648, q1649, q1650, q1651, q1652, q1653, q1654, q1655, q1656, q1657⟩ := q1641
            have F1658 : Fr [(131, 0), (131, 15), (131, 16), (131, 4), (131, 11), (131, 12), (131, 13), (131, 14), (131, 2), (131, 3), (131, 5), (131, 41), (131, 42), (131, 43), (131, 44), (131, 45)] [135, 148, 133, 331] τ t1643 := Fr_call F508 q1646 (by decide)
            obtain ⟨v1659, z1660⟩ : ∃ x, t1643 131 4 = x := ⟨_, rfl⟩
            rw [z1660] at q1648
            obtain ⟨v1661, z1662⟩ : ∃ x, t1643 131 11 = x := ⟨_, rfl⟩
            rw [z1662] at q1649
            have e1663 := congrArg Int32.toInt z526
            have e1664 := congrArg Int32.toInt z1660
            have e1665 := congrArg Int32.toInt z526
            have e1666 := congrArg Int32.toInt z1660
            have e1667 := congrArg Int32.toInt z529
            have e1668 := congrArg Int32.toInt z1662
            have e1669 := congrArg Int32.toInt z529
            have e1670 := congrArg Int32.toInt z1662
            obtain ⟨v1671, z1672⟩ : ∃ x, t1643 131 41 = x := ⟨_, rfl⟩
            rw [z1672] at q1653
            obtain ⟨v1673, z1674⟩ : ∃ x, t1643 131 42 = x := ⟨_, rfl⟩
            rw [z1674] at q1654
            obtain ⟨v1675, z1676⟩ : ∃ x, t1643 131 43 = x := ⟨_, rfl⟩
            rw [z1676] at q1655
            obtain ⟨v1677, z1678⟩ : ∃ x, t1643 131 45 = x := ⟨_, rfl⟩
            rw [z1678] at q1656
            refine r_if_ne (tgt := 48) S dX12_sentence_122 (by decide) (fun c1679 => ?_) (fun c1679 => ?_)
            ·
              have r1680 : R (1) (1) v1644 := ⟨by omega, by omega⟩
              exact ih533 t1643 _ _ _ i504 v1671 v1673 v1675 v1677 v1659 v1661 X1642 q1645 F1658 (R_of r1637 rfl) ((q1646 131 0 (by decide)).trans z510) ((q1646 131 2 (by decide)).trans z511) z1672 ⟨by omega, by omega⟩ z1674 ⟨by omega, by omega⟩ z1676 ⟨by omega, by omega⟩ z1678 ⟨by omega, by omega⟩ z1660 ⟨by omega, by omega⟩ z1662 ⟨by omega, by omega⟩ (q1657 (by omega)) (PF_eq x532 (fun j _ => ((q1646 133 j (by simp [fz])).trans rfl))) (lv_sub hl [0, 1] rfl) (by omega)
            ·
              have r1681 : R (0) (0) v1644 := ⟨by omega, by omega⟩
              refine r_iconst S dX12_sentence_125 (by decide) (fun v1682 z1683 => ?_)
              have r1684 := R_eq z1683
              refine r_aload_n S dX12_sentence_126 rfl (lv_at hl 0 rfl) ?_
              refine r_getn (K := 38) S X1642 (Nat.le_of_ble_eq_true rfl) rfl lk12_177_10 (fun _ => ⟨_, rfl, rfl⟩) dX12_sentence_127 (fun v1685 z1686 => ?_)
              have r1688 := R_any v1685
              refine r_isub S dX12_sentence_130 (fun v1689 z1690 => ?_)
              obtain ⟨e1691, r1692⟩ := i_sub (lo := -2147483648) (hi := 2147483647) z1690 r1684 r1688 rfl
              exact r_ret S hr hlk X1642 ⟨q1645, F1658, (by rw [((q1646 131 2 (by decide)).trans z511)]; exact R_of q17 rfl), (PF_eq x532 (fun j _ => ((q1646 133 j (by simp [fz])).trans rfl)))⟩ rfl dX12_sentence_131
          ·
            exfalso; omega
        ·
          have r1693 : R (1) (1) f521 := ⟨by omega, by omega⟩
          refine r_aload_n S dX12_sentence_59 rfl (lv_at hl 0 rfl) ?_
          refine r_geti (K := 38) S X509 (Nat.le_of_ble_eq_true rfl) rfl lk12_157_10 (fun _ => ⟨_, rfl, rfl⟩) z529 dX12_sentence_60 ?_
          refine r_if_ne (tgt := 101) S dX12_sentence_63 (by decide) (fun c1694 => ?_) (fun c1694 => ?_)
          ·
            have r1695 : R (1) (4) f527 := ⟨by omega, by omega⟩
            refine r_aload_n S dX12_sentence_101 rfl (lv_at hl 0 rfl) ?_
            refine r_geti (K := 38) S X509 (Nat.le_of_ble_eq_true rfl) rfl lk12_422_10 (fun _ => ⟨_, rfl, rfl⟩) z523 dX12_sentence_102 ?_
            refine r_if_eq (tgt := 118) S dX12_sentence_105 (by decide) (fun c1696 => ?_) (fun c1696 => ?_)
            ·
              exfalso; omega
            ·
              refine r_aload_n S dX12_sentence_108 rfl (lv_at hl 0 rfl) ?_
              refine r_ki (q_V (As := []) (rest := []) (K := 38) (ci := 10) S X509 (c_X12_behind l G t506 I507 (by rw [z523]; exact R_of r1693 rfl) x531) ck12_431 (Nat.le_of_ble_eq_true rfl) rfl (fun _ => ⟨_, rfl⟩) ⟨_, _, rfl⟩ ⟨Nat.le_of_ble_eq_true rfl, Nat.le_of_ble_eq_true rfl⟩ rfl hl.1 rfl (Nat.le_of_ble_eq_true rfl) dX12_sentence_109 ⟨Nat.le_refl 0, Nat.le_refl 0⟩) X509 (fun v1700 t1699 H lc q1697 X1698 => ?_)
              unfold po_X12_behind at q1697
              obtain ⟨q1701, q1702, q1703, q1704, q1705, q1706, q1707, q1708, q1709, q1710, q1711, q1712, q1713⟩ := q1697
              have F1714 : Fr [(131, 0), (131, 15), (131, 16), (131, 4), (131, 11), (131, 12), (131, 13), (131, 14), (131, 2), (131, 3), (131, 5), (131, 41), (131, 42), (131, 43), (131, 44), (131, 45)] [135, 148, 133, 331] τ t1699 := Fr_call F508 q1702 (by decide)
              obtain ⟨v1715, z1716⟩ : ∃ x, t1699 131 4 = x := ⟨_, rfl⟩
              rw [z1716] at q1704
              obtain ⟨v1717, z1718⟩ : ∃ x, t1699 131 11 = x := ⟨_, rfl⟩
              rw [z1718] at q1705
              have e1719 := congrArg Int32.toInt z526
              have e1720 := congrArg Int32.toInt z1716
              have e1721 := congrArg Int32.toInt z526
              have e1722 := congrArg Int32.toInt z1716
              have e1723 := congrArg Int32.toInt z529
              have e1724 := congrArg Int32.toInt z1718
              have e1725 := congrArg Int32.toInt z529
              have e1726 := congrArg Int32.toInt z1718
              obtain ⟨v1727, z1728⟩ : ∃ x, t1699 131 41 = x := ⟨_, rfl⟩
              rw [z1728] at q1709
              obtain ⟨v1729, z1730⟩ : ∃ x, t1699 131 42 = x := ⟨_, rfl⟩
              rw [z1730] at q1710
              obtain ⟨v1731, z1732⟩ : ∃ x, t1699 131 43 = x := ⟨_, rfl⟩
              rw [z1732] at q1711
              obtain ⟨v1733, z1734⟩ : ∃ x, t1699 131 45 = x := ⟨_, rfl⟩
              rw [z1734] at q1712
              refine r_if_ne (tgt := 48) S dX12_sentence_112 (by decide) (fun c1735 => ?_) (fun c1735 => ?_)
              ·
                have r1736 : R (1) (1) v1700 := ⟨by omega, by omega⟩
                exact ih533 t1699 _ _ _ i504 v1727 v1729 v1731 v1733 v1715 v1717 X1698 q1701 F1714 (R_of r1637 rfl) ((q1702 131 0 (by decide)).trans z510) ((q1702 131 2 (by decide)).trans z511) z1728 ⟨by omega, by omega⟩ z1730 ⟨by omega, by omega⟩ z1732 ⟨by omega, by omega⟩ z1734 ⟨by omega, by omega⟩ z1716 ⟨by omega, by omega⟩ z1718 ⟨by omega, by omega⟩ (q1713 (by omega)) (PF_eq x532 (fun j _ => ((q1702 133 j (by simp [fz])).trans rfl))) (lv_sub hl [0, 1] rfl) (by omega)
              ·
                have r1737 : R (0) (0) v1700 := ⟨by omega, by omega⟩
                refine r_goto (tgt := 125) S dX12_sentence_115 (by decide) ?_
                refine r_iconst S dX12_sentence_125 (by decide) (fun v1738 z1739 => ?_)
                have r1740 := R_eq z1739
                refine r_aload_n S dX12_sentence_126 rfl (lv_at hl 0 rfl) ?_
                refine r_getn (K := 38) S X1698 (Nat.le_of_ble_eq_true rfl) rfl lk12_177_10 (fun _ => ⟨_, rfl, rfl⟩) dX12_sentence_127 (fun v1741 z1742 => ?_)
                have r1744 := R_any v1741
                refine r_isub S dX12_sentence_130 (fun v1745 z1746 => ?_)
                obtain ⟨e1747, r1748⟩ := i_sub (lo := -2147483648) (hi := 2147483647) z1746 r1740 r1744 rfl
                exact r_ret S hr hlk X1698 ⟨q1701, F1714, (by rw [((q1702 131 2 (by decide)).trans z511)]; exact R_of q17 rfl), (PF_eq x532 (fun j _ => ((q1702 133 j (by simp [fz])).trans rfl)))⟩ rfl dX12_sentence_131
          ·
            have r1749 : R (0) (0) f527 := ⟨by omega, by omega⟩
            refine r_aload_n S dX12_sentence_66 rfl (lv_at hl 0 rfl) ?_
            refine r_kv (q_V (As := []) (rest := []) (K := 38) (ci := 10) S X509 (c_X12_nots l G t506 I507 (by rw [z523]; exact R_of r1693 rfl) x531) ck12_425 (Nat.le_of_ble_eq_true rfl) rfl (fun _ => ⟨_, rfl⟩) ⟨_, _, rfl⟩ ⟨Nat.le_of_ble_eq_true rfl, Nat.le_of_ble_eq_true rfl⟩ rfl hl.1 rfl (Nat.le_of_ble_eq_true rfl) dX12_sentence_67 ⟨Nat.le_refl 0, Nat.le_refl 0⟩) X509 (fun t1752 H lc q1750 X1751 => ?_)
            unfold po_X12_nots at q1750
            obtain ⟨q1753, q1754, q1755, q1756, q1757⟩ := q1750
            have F1758 : Fr [(131, 0), (131, 15), (131, 16), (131, 4), (131, 11), (131, 12), (131, 13), (131, 14), (131, 2), (131, 3), (131, 5), (131, 41), (131, 42), (131, 43), (131, 44), (131, 45)] [135, 148, 133, 331] τ t1752 := Fr_call F508 q1754 (by decide)
            obtain ⟨v1759, z1760⟩ : ∃ x, t1752 131 41 = x := ⟨_, rfl⟩
            rw [z1760] at q1755
            obtain ⟨v1761, z1762⟩ : ∃ x, t1752 131 43 = x := ⟨_, rfl⟩
            rw [z1762] at q1756
            refine r_aload_n S dX12_sentence_70 rfl (lv_at hl 0 rfl) ?_
            refine r_bipush S dX12_sentence_71 (by decide) (fun v1763 z1764 => ?_)
            have r1765 := R_eq z1764
            refine r_kv (q_V (As := [.int v1763]) (rest := []) (K := 38) (ci := 10) S X1751 (c_X12_joins_22 l G t1752 q1753 v1763 r1765 (by rw [((q1754 131 45 (by decide)).trans z523)]; exact R_of r1693 rfl) q1757) ck12_428 (Nat.le_of_ble_eq_true rfl) rfl (fun _ => ⟨_, rfl⟩) ⟨_, _, rfl⟩ ⟨Nat.le_of_ble_eq_true rfl, Nat.le_of_ble_eq_true rfl⟩ rfl hl.1 rfl (Nat.le_of_ble_eq_true rfl) dX12_sentence_73 ⟨Nat.le_refl 0, Nat.le_refl 0⟩) X1751 (fun t1768 H lc q1766 X1767 => ?_)
            unfold po_X12_joins_22 at q1766
            obtain ⟨q1769, q1770, q1771, q1772, q1773, q1774⟩ := q1766
            have F1775 : Fr [(131, 0), (131, 15), (131, 16), (131, 4), (131, 11), (131, 12), (131, 13), (131, 14), (131, 2), (131, 3), (131, 5), (131, 41), (131, 42), (131, 43), (131, 44), (131, 45)] [135, 148, 133, 331] τ t1768 := Fr_call F1758 q1770 (by decide)
            obtain ⟨v1776, z1777⟩ : ∃ x, t1768 131 41 = x := ⟨_, rfl⟩
            rw [z1777] at q1771
            obtain ⟨v1778, z1779⟩ : ∃ x, t1768 131 43 = x := ⟨_, rfl⟩
            rw [z1779] at q1772
            refine r_aload_n S dX12_sentence_76 rfl (lv_at hl 0 rfl) ?_
            refine r_geti (K := 38) S X1767 (Nat.le_of_ble_eq_true rfl) rfl lk12_407_10 (fun _ => ⟨_, rfl, rfl⟩) z1779 dX12_sentence_77 ?_
            refine r_if_le (tgt := 96) S dX12_sentence_80 (by decide) (fun c1780 => ?_) (fun c1780 => ?_)
            ·
              have r1781 : R (0) (0) v1778 := ⟨by omega, by omega⟩
              refine r_iconst S dX12_sentence_96 (by decide) (fun v1782 z1783 => ?_)
              have r1784 := R_eq z1783
              refine r_istore_n (lv' := [(1, .int v1782), (0, .ref (G.2.2.2.1 131))]) S dX12_sentence_97 rfl hl (by decide) rfl (fun ls hl => ?_)
              refine r_goto (tgt := 48) S dX12_sentence_98 (by decide) ?_
              exact ih533 t1768 _ _ _ v1782 v1776 f515 v1778 f521 f524 f527 X1767 q1769 F1775 (R_of r1784 rfl) ((q1770 131 0 (by decide)).trans ((q1754 131 0 (by decide)).trans z510)) ((q1770 131 2 (by decide)).trans ((q1754 131 2 (by decide)).trans z511)) z1777 ⟨by omega, by omega⟩ ((q1770 131 42 (by decide)).trans ((q1754 131 42 (by decide)).trans z517)) ⟨by omega, by omega⟩ z1779 ⟨by omega, by omega⟩ ((q1770 131 45 (by decide)).trans ((q1754 131 45 (by decide)).trans z523)) ⟨by omega, by omega⟩ ((q1770 131 4 (by decide)).trans ((q1754 131 4 (by decide)).trans z526)) ⟨by omega, by omega⟩ ((q1770 131 11 (by decide)).trans ((q1754 131 11 (by decide)).trans z529)) ⟨by omega, by omega⟩ q1773 (PF_eq x532 (fun j _ => ((q1770 133 j (by simp [fz])).trans ((q1754 133 j (by simp [fz])).trans rfl)))) (lv_sub hl [1, 0] rfl) (by omega)
            ·
              have r1785 : R (1) (45) v1778 := ⟨by omega, by omega⟩
              refine r_aload_n S dX12_sentence_83 rfl (lv_at hl 0 rfl) ?_
              refine r_iconst S dX12_sentence_84 (by decide) (fun v1786 z1787 => ?_)
              have r1788 := R_eq z1787
              refine r_ki (q_V (As := [.int v1786]) (rest := []) (K := 38) (ci := 10) S X1767 (c_X12_bad l G t1768 q1769 v1786 (R_of (lo := -2147483648) (hi := 2147483647) r1788 rfl)) ck12_183 (Nat.le_of_ble_eq_true rfl) rfl (fun _ => ⟨_, rfl⟩) ⟨_, _, rfl⟩ ⟨Nat.le_of_ble_eq_true rfl, Nat.le_of_ble_eq_true rfl⟩ rfl hl.1 rfl (Nat.le_of_ble_eq_true rfl) dX12_sentence_85 ⟨Nat.le_refl 0, Nat.le_refl 0⟩) X1767 (fun v1792 t1791 H lc q1789 X1790 => ?_)
              unfold po_X12_bad at q1789
              obtain ⟨q1793, q1794, q1795⟩ := q1789
              have F1796 : Fr [(131, 0), (131, 15), (131, 16), (131, 4), (131, 11), (131, 12), (131, 13), (131, 14), (131, 2), (131, 3), (131, 5), (131, 41), (131, 42), (131, 43), (131, 44), (131, 45)] [135, 148, 133, 331] τ t1791 := Fr_call F1775 q1794 (by decide)
              refine r_pop S dX12_sentence_88 rfl ?_
              refine r_iconst S dX12_sentence_89 (by decide) (fun v1797 z1798 => ?_)
              have r1799 := R_eq z1798
              refine r_aload_n S dX12_sentence_90 rfl (lv_at hl 0 rfl) ?_
              refine r_getn (K := 38) S X1790 (Nat.le_of_ble_eq_true rfl) rfl lk12_177_10 (fun _ => ⟨_, rfl, rfl⟩) dX12_sentence_91 (fun v1800 z1801 => ?_)
              have r1803 := R_any v1800
              refine r_isub S dX12_sentence_94 (fun v1804 z1805 => ?_)
              obtain ⟨e1806, r1807⟩ := i_sub (lo := -2147483648) (hi := 2147483647) z1805 r1799 r1803 rfl
              exact r_ret S hr hlk X1790 ⟨q1793, F1796, (by rw [((q1794 131 2 (by decide)).trans ((q1770 131 2 (by decide)).trans ((q1754 131 2 (by decide)).trans z511)))]; exact R_of q17 rfl), (PF_eq x532 (fun j _ => ((q1794 133 j (by simp [fz])).trans ((q1770 133 j (by simp [fz])).trans ((q1754 133 j (by simp [fz])).trans rfl)))))⟩ rfl dX12_sentence_95
  exact L530 _ t71 _ _ _ v86 v29 v37 v45 v61 v79 v81 X70 q72 F78 (R_of r88 rfl) ((q73 131 0 (by decide)).trans ((M65.2 131 0 (Or.inr (by decide))).trans ((M57.2 131 0 (Or.inr (by decide))).trans ((M49.2 131 0 (Or.inr (by decide))).trans ((M41.2 131 0 (Or.inr (by decide))).trans ((M33.2 131 0 (Or.inr (by decide))).trans ((M25.2 131 0 (Or.inr (by decide))).trans ((q16 131 0 (by decide)).trans M5.1)))))))) ((q73 131 2 (by decide)).trans ((M65.2 131 2 (Or.inr (by decide))).trans ((M57.2 131 2 (Or.inr (by decide))).trans ((M49.2 131 2 (Or.inr (by decide))).trans ((M41.2 131 2 (Or.inr (by decide))).trans ((M33.2 131 2 (Or.inr (by decide))).trans ((M25.2 131 2 (Or.inr (by decide))).trans z20))))))) ((q73 131 41 (by decide)).trans ((M65.2 131 41 (Or.inr (by decide))).trans ((M57.2 131 41 (Or.inr (by decide))).trans ((M49.2 131 41 (Or.inr (by decide))).trans ((M41.2 131 41 (Or.inr (by decide))).trans M33.1))))) ⟨by omega, by omega⟩ ((q73 131 42 (by decide)).trans ((M65.2 131 42 (Or.inr (by decide))).trans ((M57.2 131 42 (Or.inr (by decide))).trans ((M49.2 131 42 (Or.inr (by decide))).trans M41.1)))) ⟨by omega, by omega⟩ ((q73 131 43 (by decide)).trans ((M65.2 131 43 (Or.inr (by decide))).trans ((M57.2 131 43 (Or.inr (by decide))).trans M49.1))) ⟨by omega, by omega⟩ ((q73 131 45 (by decide)).trans M65.1) ⟨by omega, by omega⟩ z80 ⟨by omega, by omega⟩ z82 ⟨by omega, by omega⟩ (SI_0 ((q73 131 41 (by decide)).trans ((M65.2 131 41 (Or.inr (by decide))).trans ((M57.2 131 41 (Or.inr (by decide))).trans ((M49.2 131 41 (Or.inr (by decide))).trans ((M41.2 131 41 (Or.inr (by decide))).trans M33.1))))) ((q73 131 42 (by decide)).trans ((M65.2 131 42 (Or.inr (by decide))).trans ((M57.2 131 42 (Or.inr (by decide))).trans ((M49.2 131 42 (Or.inr (by decide))).trans M41.1)))) ((q73 131 43 (by decide)).trans ((M65.2 131 43 (Or.inr (by decide))).trans ((M57.2 131 43 (Or.inr (by decide))).trans M49.1))) ((q73 131 45 (by decide)).trans M65.1) (by omega) (by omega) (by omega) (by omega)) (PF_eq hp_0 (fun j _ => ((q73 133 j (by simp [fz])).trans ((M65.2 133 j (Or.inl (by decide))).trans ((M57.2 133 j (Or.inl (by decide))).trans ((M49.2 133 j (Or.inl (by decide))).trans ((M41.2 133 j (Or.inl (by decide))).trans ((M33.2 133 j (Or.inl (by decide))).trans ((M25.2 133 j (Or.inl (by decide))).trans ((q16 133 j (by simp [fz])).trans ((M5.2 133 j (Or.inl (by decide))).trans rfl))))))))))) (lv_sub hl [1, 0] rfl) (Nat.lt_succ_self _)
def po_X12_isLeaf (τ : Tau)  (a0 a1 a2 a3 : Int32)   (r : Int32) (u : Tau) : Prop := u = τ ∧ R (0) (1) r
set_option maxHeartbeats 4000000 in
set_option maxRecDepth 100000 in
theorem c_X12_isLeaf (l : Launch) (G : Gx) (τ : Tau) (hI : Inv τ) (a0 : Int32) (a1 : Int32) (a2 : Int32) (a3 : Int32) (h_a0 : R (0) (9) a0) (h_a1 : R (-2147483648) (2147483647) a1) (h_a2 : R (-2147483648) (2147483647) a2) (h_a3 : R (-2147483648) (2147483647) a3) (hp_0 : (a1.toInt = 4 ∨ a1.toInt = 5 → 0 ≤ a3.toInt ∧ a3.toInt ≤ 8)) : Ci l G yX12_isLeaf cX12_isLeaf 7 (some .boolean) 3 66 [.ref (G.2.2.2.1 131), .int a0, .int a1, .int a2, .int a3] τ (po_X12_isLeaf τ  a0 a1 a2 a3  ) := by
  unfold Ci
  refine C_of (own := RX12) (by decide) rfl (Nat.le_of_ble_eq_true rfl) ?_
  intro p e s m below meth c ls S hr hlk X hl
  have hl : lv_has ls 7 [(0, .ref (G.2.2.2.1 131)), (1, .int a0), (2, .int a1), (3, .int a2), (4, .int a3)] := hl
  refine r_iload_n S dX12_isLeaf_0 rfl (lv_at hl 2 rfl) ?_
  rcases (show (a1.toInt < 0 ∨ 5 < a1.toInt) ∨ a1.toInt = 0 ∨ a1.toInt = 1 ∨ a1.toInt = 2 ∨ a1.toInt = 3 ∨ a1.toInt = 4 ∨ a1.toInt = 5 by omega) with c1 | c1 | c1 | c1 | c1 | c1 | c1
  ·
    refine lv_tableOut (tgt := 133) S.1.1 S.1.2.1 dX12_isLeaf_1 c1 (by decide) ?_
    refine r_aload_n S dX12_isLeaf_133 rfl (lv_at hl 0 rfl) ?_
    refine r_get (K := 38) (v := .ref (G.2.2.2.1 133)) S X (Nat.le_of_ble_eq_true rfl) rfl lk12_33_10 (fun _ => ⟨_, rfl, rfl⟩) dX12_isLeaf_134 ?_
    refine r_iconst S dX12_isLeaf_137 (by decide) (fun v2 z3 => ?_)
    have r4 := R_eq z3
    refine r_aldn (n := 513) (K := 40) S X (Nat.le_of_ble_eq_true rfl) rfl (fun _ => rfl) (ix_of r4 rfl) dX12_isLeaf_138 (fun v5 z6 => ?_)
    have r7 : R (0) (9) v5 := rds (K := 40) (a := 0) (n := 1) hI rfl z6 (R_of r4 rfl) (by decide +kernel)
    refine r_if_ne (tgt := 146) S dX12_isLeaf_139 (by decide) (fun c8 => ?_) (fun c8 => ?_)
    ·
      have r9 : R (1) (9) v5 := ⟨by omega, by omega⟩
      refine r_aload_n S dX12_isLeaf_146 rfl (lv_at hl 0 rfl) ?_
      refine r_iload_n S dX12_isLeaf_147 rfl (lv_at hl 1 rfl) ?_
      refine r_aload_n S dX12_isLeaf_148 rfl (lv_at hl 0 rfl) ?_
      refine r_get (K := 38) (v := .ref (G.2.2.2.1 133)) S X (Nat.le_of_ble_eq_true rfl) rfl lk12_33_10 (fun _ => ⟨_, rfl, rfl⟩) dX12_isLeaf_149 ?_
      refine r_bipush S dX12_isLeaf_152 (by decide) (fun v10 z11 => ?_)
      have r12 := R_eq z11
      refine r_aldn (n := 513) (K := 40) S X (Nat.le_of_ble_eq_true rfl) rfl (fun _ => rfl) (ix_of r12 rfl) dX12_isLeaf_154 (fun v13 z14 => ?_)
      have r15 : R (0) (8) v13 := rds (K := 40) (a := 126) (n := 1) hI rfl z14 (R_of r12 rfl) (by decide +kernel)
      refine r_ki (q_V (As := [.int a0, .int v13]) (rest := []) (K := 38) (ci := 10) S X (c_X12_saysOf l G τ hI a0 v13 h_a0 r15) ck12_269 (Nat.le_of_ble_eq_true rfl) rfl (fun _ => ⟨_, rfl⟩) ⟨_, _, rfl⟩ ⟨Nat.le_of_ble_eq_true rfl, Nat.le_of_ble_eq_true rfl⟩ rfl hl.1 rfl (Nat.le_of_ble_eq_true rfl) dX12_isLeaf_155 ⟨Nat.le_refl 0, Nat.le_refl 0⟩) X (fun v19 t18 H lc q16 X17 => ?_)
      unfold po_X12_saysOf at q16
      obtain ⟨q20, q21⟩ := q16
      rw [q20] at X17
      refine r_ki (q_S (As := [.int v19]) (rest := []) S X17 (c_X12_sizeOf_9 l G τ hI v19 q21) ck12_275 ⟨Nat.le_of_ble_eq_true rfl, Nat.le_of_ble_eq_true rfl⟩ rfl hl.1 rfl (Nat.le_of_ble_eq_true rfl) dX12_isLeaf_158 ⟨Nat.le_refl 0, Nat.le_refl 0⟩) X17 (fun v25 t24 H lc q22 X23 => ?_)
      unfold po_X12_sizeOf_9 at q22
      obtain ⟨q26, q27⟩ := q22
      rw [q26] at X23
      refine r_istore (lv' := [(5, .int v25), (0, .ref (G.2.2.2.1 131)), (1, .int a0), (2, .int a1), (3, .int a2), (4, .int a3)]) S dX12_isLeaf_161 hl (by decide) rfl (fun ls hl => ?_)
      refine r_iload_n S dX12_isLeaf_163 rfl (lv_at hl 3 rfl) ?_
      refine r_bipush S dX12_isLeaf_164 (by decide) (fun v28 z29 => ?_)
      have r30 := R_eq z29
      refine r_icmp_ne (tgt := 174) S dX12_isLeaf_166 (by decide) (fun c31 => ?_) (fun c31 => ?_)
      ·
        refine r_iload_n S dX12_isLeaf_174 rfl (lv_at hl 3 rfl) ?_
        refine r_bipush S dX12_isLeaf_175 (by decide) (fun v32 z33 => ?_)
        have r34 := R_eq z33
        refine r_icmp_ne (tgt := 191) S dX12_isLeaf_177 (by decide) (fun c35 => ?_) (fun c35 => ?_)
        ·
          refine r_iload_n S dX12_isLeaf_191 rfl (lv_at hl 3 rfl) ?_
          refine r_bipush S dX12_isLeaf_192 (by decide) (fun v36 z37 => ?_)
          have r38 := R_eq z37
          refine r_icmp_ne (tgt := 210) S dX12_isLeaf_194 (by decide) (fun c39 => ?_) (fun c39 => ?_)
          ·
            refine r_iload_n S dX12_isLeaf_210 rfl (lv_at hl 2 rfl) ?_
            refine r_istore (lv' := [(6, .int a0), (5, .int v25), (0, .ref (G.2.2.2.1 131)), (1, .int a0), (2, .int a1), (3, .int a2), (4, .int a3)]) S dX12_isLeaf_211 hl (by decide) rfl (fun ls hl => ?_)
            refine r_iload_n S dX12_isLeaf_213 rfl (lv_at hl 5 rfl) ?_
            refine r_bipush S dX12_isLeaf_214 (by decide) (fun v40 z41 => ?_)
            have r42 := R_eq z41
            refine r_icmp_ne (tgt := 234) S dX12_isLeaf_216 (by decide) (fun c43 => ?_) (fun c43 => ?_)
            ·
              refine r_iload_n S dX12_isLeaf_234 rfl (lv_at hl 5 rfl) ?_
              refine r_bipush S dX12_isLeaf_235 (by decide) (fun v44 z45 => ?_)
              have r46 := R_eq z45
              refine r_icmp_ne (tgt := 255) S dX12_isLeaf_237 (by decide) (fun c47 => ?_) (fun c47 => ?_)
              ·
                refine r_iload S dX12_isLeaf_255 (lv_at hl 0 rfl) ?_
                refine r_iload S dX12_isLeaf_257 (lv_at hl 6 rfl) ?_
                refine r_icmp_le (tgt := 266) S dX12_isLeaf_259 (by decide) (fun c48 => ?_) (fun c48 => ?_)
                ·
                  have r49 : R (0) (2147483647) a3 := ⟨by omega, by omega⟩
                  refine r_iconst S dX12_isLeaf_266 (by decide) (fun v50 z51 => ?_)
                  have r52 := R_eq z51
                  exact r_ret S hr hlk X23 ⟨rfl, (R_of r52 rfl)⟩ (nr_bool (R_of (lo := 0) (hi := 1) r52 rfl)) dX12_isLeaf_267
                ·
                  have r53 : R (-2147483648) (8) a3 := ⟨by omega, by omega⟩
                  refine r_iconst S dX12_isLeaf_262 (by decide) (fun v54 z55 => ?_)
                  have r56 := R_eq z55
                  refine r_goto (tgt := 267) S dX12_isLeaf_263 (by decide) ?_
                  exact r_ret S hr hlk X23 ⟨rfl, (R_of r56 rfl)⟩ (nr_bool (R_of (lo := 0) (hi := 1) r56 rfl)) dX12_isLeaf_267
              ·
                have r57 : R (61) (61) a2 := ⟨by omega, by omega⟩
                refine r_iload S dX12_isLeaf_240 (lv_at hl 0 rfl) ?_
                refine r_iload S dX12_isLeaf_242 (lv_at hl 6 rfl) ?_
                refine r_icmp_ne (tgt := 251) S dX12_isLeaf_244 (by decide) (fun c58 => ?_) (fun c58 => ?_)
                ·
                  refine r_iconst S dX12_isLeaf_251 (by decide) (fun v59 z60 => ?_)
                  have r61 := R_eq z60
                  refine r_goto (tgt := 267) S dX12_isLeaf_252 (by decide) ?_
                  exact r_ret S hr hlk X23 ⟨rfl, (R_of r61 rfl)⟩ (nr_bool (R_of (lo := 0) (hi := 1) r61 rfl)) dX12_isLeaf_267
                ·
                  have r62 : R (0) (9) a3 := ⟨by omega, by omega⟩
                  refine r_iconst S dX12_isLeaf_247 (by decide) (fun v63 z64 => ?_)
                  have r65 := R_eq z64
                  refine r_goto (tgt := 267) S dX12_isLeaf_248 (by decide) ?_
                  exact r_ret S hr hlk X23 ⟨rfl, (R_of r65 rfl)⟩ (nr_bool (R_of (lo := 0) (hi := 1) r65 rfl)) dX12_isLeaf_267
            ·
              have r66 : R (60) (60) a2 := ⟨by omega, by omega⟩
              refine r_iload S dX12_isLeaf_219 (lv_at hl 0 rfl) ?_
              refine r_iload S dX12_isLeaf_221 (lv_at hl 6 rfl) ?_
              refine r_icmp_ge (tgt := 230) S dX12_isLeaf_223 (by decide) (fun c67 => ?_) (fun c67 => ?_)
              ·
                have r68 : R (-2147483648) (9) a3 := ⟨by omega, by omega⟩
                refine r_iconst S dX12_isLeaf_230 (by decide) (fun v69 z70 => ?_)
                have r71 := R_eq z70
                refine r_goto (tgt := 267) S dX12_isLeaf_231 (by decide) ?_
                exact r_ret S hr hlk X23 ⟨rfl, (R_of r71 rfl)⟩ (nr_bool (R_of (lo := 0) (hi := 1) r71 rfl)) dX12_isLeaf_267
              ·
                have r72 : R (1) (2147483647) a3 := ⟨by omega, by omega⟩
                refine r_iconst S dX12_isLeaf_226 (by decide) (fun v73 z74 => ?_)
                have r75 := R_eq z74
                refine r_goto (tgt := 267) S dX12_isLeaf_227 (by decide) ?_
                exact r_ret S hr hlk X23 ⟨rfl, (R_of r75 rfl)⟩ (nr_bool (R_of (lo := 0) (hi := 1) r75 rfl)) dX12_isLeaf_267
          ·
            have r76 : R (8) (8) a1 := ⟨by omega, by omega⟩
            refine r_aload_n S dX12_isLeaf_197 rfl (lv_at hl 1 rfl) ?_
            refine r_get (K := 38) (v := .ref (G.2.2.2.1 133)) S X23 (Nat.le_of_ble_eq_true rfl) rfl lk12_33_10 (fun _ => ⟨_, rfl, rfl⟩) dX12_isLeaf_198 ?_
            refine r_sipush S dX12_isLeaf_201 (by decide) (fun v77 z78 => ?_)
            have r79 := R_eq z78
            refine r_iload_n S dX12_isLeaf_204 rfl (lv_at hl 2 rfl) ?_
            refine r_iadd S dX12_isLeaf_205 (fun v80 z81 => ?_)
            obtain ⟨e82, r83⟩ := i_add (lo := 132) (hi := 141) z81 r79 h_a0 rfl
            refine r_aldn (n := 513) (K := 40) S X23 (Nat.le_of_ble_eq_true rfl) rfl (fun _ => rfl) (ix_of r83 rfl) dX12_isLeaf_206 (fun v84 z85 => ?_)
            have r87 := R_any v84
            have g88 : Rg 40 v80.toNatClampNeg v84 := rd hI rfl z85
            refine r_goto (tgt := 211) S dX12_isLeaf_207 (by decide) ?_
            refine r_istore (lv' := [(6, .int v84), (5, .int v25), (0, .ref (G.2.2.2.1 131)), (1, .int a0), (2, .int a1), (3, .int a2), (4, .int a3)]) S dX12_isLeaf_211 hl (by decide) rfl (fun ls hl => ?_)
            refine r_iload_n S dX12_isLeaf_213 rfl (lv_at hl 5 rfl) ?_
            refine r_bipush S dX12_isLeaf_214 (by decide) (fun v89 z90 => ?_)
            have r91 := R_eq z90
            refine r_icmp_ne (tgt := 234) S dX12_isLeaf_216 (by decide) (fun c92 => ?_) (fun c92 => ?_)
            ·
              refine r_iload_n S dX12_isLeaf_234 rfl (lv_at hl 5 rfl) ?_
              refine r_bipush S dX12_isLeaf_235 (by decide) (fun v93 z94 => ?_)
              have r95 := R_eq z94
              refine r_icmp_ne (tgt := 255) S dX12_isLeaf_237 (by decide) (fun c96 => ?_) (fun c96 => ?_)
              ·
                refine r_iload S dX12_isLeaf_255 (lv_at hl 0 rfl) ?_
                refine r_iload S dX12_isLeaf_257 (lv_at hl 6 rfl) ?_
                refine r_icmp_le (tgt := 266) S dX12_isLeaf_259 (by decide) (fun c97 => ?_) (fun c97 => ?_)
                ·
                  refine r_iconst S dX12_isLeaf_266 (by decide) (fun v98 z99 => ?_)
                  have r100 := R_eq z99
                  exact r_ret S hr hlk X23 ⟨rfl, (R_of r100 rfl)⟩ (nr_bool (R_of (lo := 0) (hi := 1) r100 rfl)) dX12_isLeaf_267
                ·
                  have r101 : R (-2147483648) (2147483646) a3 := ⟨by omega, by omega⟩
                  have r102 : R (-2147483647) (2147483647) v84 := ⟨by omega, by omega⟩
                  refine r_iconst S dX12_isLeaf_262 (by decide) (fun v103 z104 => ?_)
                  have r105 := R_eq z104
                  refine r_goto (tgt := 267) S dX12_isLeaf_263 (by decide) ?_
                  exact r_ret S hr hlk X23 ⟨rfl, (R_of r105 rfl)⟩ (nr_bool (R_of (lo := 0) (hi := 1) r105 rfl)) dX12_isLeaf_267
              ·
                have r106 : R (61) (61) a2 := ⟨by omega, by omega⟩
                refine r_iload S dX12_isLeaf_240 (lv_at hl 0 rfl) ?_
                refine r_iload S dX12_isLeaf_242 (lv_at hl 6 rfl) ?_
                refine r_icmp_ne (tgt := 251) S dX12_isLeaf_244 (by decide) (fun c107 => ?_) (fun c107 => ?_)
                ·
                  refine r_iconst S dX12_isLeaf_251 (by decide) (fun v108 z109 => ?_)
                  have r110 := R_eq z109
                  refine r_goto (tgt := 267) S dX12_isLeaf_252 (by decide) ?_
                  exact r_ret S hr hlk X23 ⟨rfl, (R_of r110 rfl)⟩ (nr_bool (R_of (lo := 0) (hi := 1) r110 rfl)) dX12_isLeaf_267
                ·
                  refine r_iconst S dX12_isLeaf_247 (by decide) (fun v111 z112 => ?_)
                  have r113 := R_eq z112
                  refine r_goto (tgt := 267) S dX12_isLeaf_248 (by decide) ?_
                  exact r_ret S hr hlk X23 ⟨rfl, (R_of r113 rfl)⟩ (nr_bool (R_of (lo := 0) (hi := 1) r113 rfl)) dX12_isLeaf_267
            ·
              have r114 : R (60) (60) a2 := ⟨by omega, by omega⟩
              refine r_iload S dX12_isLeaf_219 (lv_at hl 0 rfl) ?_
              refine r_iload S dX12_isLeaf_221 (lv_at hl 6 rfl) ?_
              refine r_icmp_ge (tgt := 230) S dX12_isLeaf_223 (by decide) (fun c115 => ?_) (fun c115 => ?_)
              ·
                refine r_iconst S dX12_isLeaf_230 (by decide) (fun v116 z117 => ?_)
                have r118 := R_eq z117
                refine r_goto (tgt := 267) S dX12_isLeaf_231 (by decide) ?_
                exact r_ret S hr hlk X23 ⟨rfl, (R_of r118 rfl)⟩ (nr_bool (R_of (lo := 0) (hi := 1) r118 rfl)) dX12_isLeaf_267
              ·
                have r119 : R (-2147483648) (2147483646) v84 := ⟨by omega, by omega⟩
                have r120 : R (-2147483647) (2147483647) a3 := ⟨by omega, by omega⟩
                refine r_iconst S dX12_isLeaf_226 (by decide) (fun v121 z122 => ?_)
                have r123 := R_eq z122
                refine r_goto (tgt := 267) S dX12_isLeaf_227 (by decide) ?_
                exact r_ret S hr hlk X23 ⟨rfl, (R_of r123 rfl)⟩ (nr_bool (R_of (lo := 0) (hi := 1) r123 rfl)) dX12_isLeaf_267
        ·
          have r124 : R (7) (7) a1 := ⟨by omega, by omega⟩
          refine r_aload_n S dX12_isLeaf_180 rfl (lv_at hl 1 rfl) ?_
          refine r_get (K := 38) (v := .ref (G.2.2.2.1 133)) S X23 (Nat.le_of_ble_eq_true rfl) rfl lk12_33_10 (fun _ => ⟨_, rfl, rfl⟩) dX12_isLeaf_181 ?_
          refine r_iconst S dX12_isLeaf_184 (by decide) (fun v125 z126 => ?_)
          have r127 := R_eq z126
          refine r_iload_n S dX12_isLeaf_185 rfl (lv_at hl 2 rfl) ?_
          refine r_iadd S dX12_isLeaf_186 (fun v128 z129 => ?_)
          obtain ⟨e130, r131⟩ := i_add (lo := 5) (hi := 14) z129 r127 h_a0 rfl
          refine r_aldn (n := 513) (K := 40) S X23 (Nat.le_of_ble_eq_true rfl) rfl (fun _ => rfl) (ix_of r131 rfl) dX12_isLeaf_187 (fun v132 z133 => ?_)
          have r134 : R (0) (20) v132 := rds (K := 40) (a := 5) (n := 10) hI rfl z133 (R_of r131 rfl) (by decide +kernel)
          have g135 : Rg 40 v128.toNatClampNeg v132 := rd hI rfl z133
          refine r_goto (tgt := 211) S dX12_isLeaf_188 (by decide) ?_
          refine r_istore (lv' := [(6, .int v132), (5, .int v25), (0, .ref (G.2.2.2.1 131)), (1, .int a0), (2, .int a1), (3, .int a2), (4, .int a3)]) S dX12_isLeaf_211 hl (by decide) rfl (fun ls hl => ?_)
          refine r_iload_n S dX12_isLeaf_213 rfl (lv_at hl 5 rfl) ?_
          refine r_bipush S dX12_isLeaf_214 (by decide) (fun v136 z137 => ?_)
          have r138 := R_eq z137
          refine r_icmp_ne (tgt := 234) S dX12_isLeaf_216 (by decide) (fun c139 => ?_) (fun c139 => ?_)
          ·
            refine r_iload_n S dX12_isLeaf_234 rfl (lv_at hl 5 rfl) ?_
            refine r_bipush S dX12_isLeaf_235 (by decide) (fun v140 z141 => ?_)
            have r142 := R_eq z141
            refine r_icmp_ne (tgt := 255) S dX12_isLeaf_237 (by decide) (fun c143 => ?_) (fun c143 => ?_)
            ·
              refine r_iload S dX12_isLeaf_255 (lv_at hl 0 rfl) ?_
              refine r_iload S dX12_isLeaf_257 (lv_at hl 6 rfl) ?_
              refine r_icmp_le (tgt := 266) S dX12_isLeaf_259 (by decide) (fun c144 => ?_) (fun c144 => ?_)
              ·
                have r145 : R (0) (2147483647) a3 := ⟨by omega, by omega⟩
                refine r_iconst S dX12_isLeaf_266 (by decide) (fun v146 z147 => ?_)
                have r148 := R_eq z147
                exact r_ret S hr hlk X23 ⟨rfl, (R_of r148 rfl)⟩ (nr_bool (R_of (lo := 0) (hi := 1) r148 rfl)) dX12_isLeaf_267
              ·
                have r149 : R (-2147483648) (19) a3 := ⟨by omega, by omega⟩
                refine r_iconst S dX12_isLeaf_262 (by decide) (fun v150 z151 => ?_)
                have r152 := R_eq z151
                refine r_goto (tgt := 267) S dX12_isLeaf_263 (by decide) ?_
                exact r_ret S hr hlk X23 ⟨rfl, (R_of r152 rfl)⟩ (nr_bool (R_of (lo := 0) (hi := 1) r152 rfl)) dX12_isLeaf_267
            ·
              have r153 : R (61) (61) a2 := ⟨by omega, by omega⟩
              refine r_iload S dX12_isLeaf_240 (lv_at hl 0 rfl) ?_
              refine r_iload S dX12_isLeaf_242 (lv_at hl 6 rfl) ?_
              refine r_icmp_ne (tgt := 251) S dX12_isLeaf_244 (by decide) (fun c154 => ?_) (fun c154 => ?_)
              ·
                refine r_iconst S dX12_isLeaf_251 (by decide) (fun v155 z156 => ?_)
                have r157 := R_eq z156
                refine r_goto (tgt := 267) S dX12_isLeaf_252 (by decide) ?_
                exact r_ret S hr hlk X23 ⟨rfl, (R_of r157 rfl)⟩ (nr_bool (R_of (lo := 0) (hi := 1) r157 rfl)) dX12_isLeaf_267
              ·
                have r158 : R (0) (20) a3 := ⟨by omega, by omega⟩
                refine r_iconst S dX12_isLeaf_247 (by decide) (fun v159 z160 => ?_)
                have r161 := R_eq z160
                refine r_goto (tgt := 267) S dX12_isLeaf_248 (by decide) ?_
                exact r_ret S hr hlk X23 ⟨rfl, (R_of r161 rfl)⟩ (nr_bool (R_of (lo := 0) (hi := 1) r161 rfl)) dX12_isLeaf_267
          ·
            have r162 : R (60) (60) a2 := ⟨by omega, by omega⟩
            refine r_iload S dX12_isLeaf_219 (lv_at hl 0 rfl) ?_
            refine r_iload S dX12_isLeaf_221 (lv_at hl 6 rfl) ?_
            refine r_icmp_ge (tgt := 230) S dX12_isLeaf_223 (by decide) (fun c163 => ?_) (fun c163 => ?_)
            ·
              have r164 : R (-2147483648) (20) a3 := ⟨by omega, by omega⟩
              refine r_iconst S dX12_isLeaf_230 (by decide) (fun v165 z166 => ?_)
              have r167 := R_eq z166
              refine r_goto (tgt := 267) S dX12_isLeaf_231 (by decide) ?_
              exact r_ret S hr hlk X23 ⟨rfl, (R_of r167 rfl)⟩ (nr_bool (R_of (lo := 0) (hi := 1) r167 rfl)) dX12_isLeaf_267
            ·
              have r168 : R (1) (2147483647) a3 := ⟨by omega, by omega⟩
              refine r_iconst S dX12_isLeaf_226 (by decide) (fun v169 z170 => ?_)
              have r171 := R_eq z170
              refine r_goto (tgt := 267) S dX12_isLeaf_227 (by decide) ?_
              exact r_ret S hr hlk X23 ⟨rfl, (R_of r171 rfl)⟩ (nr_bool (R_of (lo := 0) (hi := 1) r171 rfl)) dX12_isLeaf_267
      ·
        have r172 : R (6) (6) a1 := ⟨by omega, by omega⟩
        refine r_iload S dX12_isLeaf_169 (lv_at hl 0 rfl) ?_
        refine r_goto (tgt := 211) S dX12_isLeaf_171 (by decide) ?_
        refine r_istore (lv' := [(6, .int v25), (5, .int v25), (0, .ref (G.2.2.2.1 131)), (1, .int a0), (2, .int a1), (3, .int a2), (4, .int a3)]) S dX12_isLeaf_211 hl (by decide) rfl (fun ls hl => ?_)
        refine r_iload_n S dX12_isLeaf_213 rfl (lv_at hl 5 rfl) ?_
        refine r_bipush S dX12_isLeaf_214 (by decide) (fun v173 z174 => ?_)
        have r175 := R_eq z174
        refine r_icmp_ne (tgt := 234) S dX12_isLeaf_216 (by decide) (fun c176 => ?_) (fun c176 => ?_)
        ·
          refine r_iload_n S dX12_isLeaf_234 rfl (lv_at hl 5 rfl) ?_
          refine r_bipush S dX12_isLeaf_235 (by decide) (fun v177 z178 => ?_)
          have r179 := R_eq z178
          refine r_icmp_ne (tgt := 255) S dX12_isLeaf_237 (by decide) (fun c180 => ?_) (fun c180 => ?_)
          ·
            refine r_iload S dX12_isLeaf_255 (lv_at hl 0 rfl) ?_
            refine r_iload S dX12_isLeaf_257 (lv_at hl 6 rfl) ?_
            refine r_icmp_le (tgt := 266) S dX12_isLeaf_259 (by decide) (fun c181 => ?_) (fun c181 => ?_)
            ·
              have r182 : R (0) (2147483647) a3 := ⟨by omega, by omega⟩
              refine r_iconst S dX12_isLeaf_266 (by decide) (fun v183 z184 => ?_)
              have r185 := R_eq z184
              exact r_ret S hr hlk X23 ⟨rfl, (R_of r185 rfl)⟩ (nr_bool (R_of (lo := 0) (hi := 1) r185 rfl)) dX12_isLeaf_267
            ·
              have r186 : R (-2147483648) (8) a3 := ⟨by omega, by omega⟩
              refine r_iconst S dX12_isLeaf_262 (by decide) (fun v187 z188 => ?_)
              have r189 := R_eq z188
              refine r_goto (tgt := 267) S dX12_isLeaf_263 (by decide) ?_
              exact r_ret S hr hlk X23 ⟨rfl, (R_of r189 rfl)⟩ (nr_bool (R_of (lo := 0) (hi := 1) r189 rfl)) dX12_isLeaf_267
          ·
            have r190 : R (61) (61) a2 := ⟨by omega, by omega⟩
            refine r_iload S dX12_isLeaf_240 (lv_at hl 0 rfl) ?_
            refine r_iload S dX12_isLeaf_242 (lv_at hl 6 rfl) ?_
            refine r_icmp_ne (tgt := 251) S dX12_isLeaf_244 (by decide) (fun c191 => ?_) (fun c191 => ?_)
            ·
              refine r_iconst S dX12_isLeaf_251 (by decide) (fun v192 z193 => ?_)
              have r194 := R_eq z193
              refine r_goto (tgt := 267) S dX12_isLeaf_252 (by decide) ?_
              exact r_ret S hr hlk X23 ⟨rfl, (R_of r194 rfl)⟩ (nr_bool (R_of (lo := 0) (hi := 1) r194 rfl)) dX12_isLeaf_267
            ·
              have r195 : R (0) (9) a3 := ⟨by omega, by omega⟩
              refine r_iconst S dX12_isLeaf_247 (by decide) (fun v196 z197 => ?_)
              have r198 := R_eq z197
              refine r_goto (tgt := 267) S dX12_isLeaf_248 (by decide) ?_
              exact r_ret S hr hlk X23 ⟨rfl, (R_of r198 rfl)⟩ (nr_bool (R_of (lo := 0) (hi := 1) r198 rfl)) dX12_isLeaf_267
        ·
          have r199 : R (60) (60) a2 := ⟨by omega, by omega⟩
          refine r_iload S dX12_isLeaf_219 (lv_at hl 0 rfl) ?_
          refine r_iload S dX12_isLeaf_221 (lv_at hl 6 rfl) ?_
          refine r_icmp_ge (tgt := 230) S dX12_isLeaf_223 (by decide) (fun c200 => ?_) (fun c200 => ?_)
          ·
            have r201 : R (-2147483648) (9) a3 := ⟨by omega, by omega⟩
            refine r_iconst S dX12_isLeaf_230 (by decide) (fun v202 z203 => ?_)
            have r204 := R_eq z203
            refine r_goto (tgt := 267) S dX12_isLeaf_231 (by decide) ?_
            exact r_ret S hr hlk X23 ⟨rfl, (R_of r204 rfl)⟩ (nr_bool (R_of (lo := 0) (hi := 1) r204 rfl)) dX12_isLeaf_267
          ·
            have r205 : R (1) (2147483647) a3 := ⟨by omega, by omega⟩
            refine r_iconst S dX12_isLeaf_226 (by decide) (fun v206 z207 => ?_)
            have r208 := R_eq z207
            refine r_goto (tgt := 267) S dX12_isLeaf_227 (by decide) ?_
            exact r_ret S hr hlk X23 ⟨rfl, (R_of r208 rfl)⟩ (nr_bool (R_of (lo := 0) (hi := 1) r208 rfl)) dX12_isLeaf_267
    ·
      have r209 : R (0) (0) v5 := ⟨by omega, by omega⟩
      refine r_iconst S dX12_isLeaf_142 (by decide) (fun v210 z211 => ?_)
      have r212 := R_eq z211
      refine r_goto (tgt := 161) S dX12_isLeaf_143 (by decide) ?_
      refine r_istore (lv' := [(5, .int v210), (0, .ref (G.2.2.2.1 131)), (1, .int a0), (2, .int a1), (3, .int a2), (4, .int a3)]) S dX12_isLeaf_161 hl (by decide) rfl (fun ls hl => ?_)
      refine r_iload_n S dX12_isLeaf_163 rfl (lv_at hl 3 rfl) ?_
      refine r_bipush S dX12_isLeaf_164 (by decide) (fun v213 z214 => ?_)
      have r215 := R_eq z214
      refine r_icmp_ne (tgt := 174) S dX12_isLeaf_166 (by decide) (fun c216 => ?_) (fun c216 => ?_)
      ·
        refine r_iload_n S dX12_isLeaf_174 rfl (lv_at hl 3 rfl) ?_
        refine r_bipush S dX12_isLeaf_175 (by decide) (fun v217 z218 => ?_)
        have r219 := R_eq z218
        refine r_icmp_ne (tgt := 191) S dX12_isLeaf_177 (by decide) (fun c220 => ?_) (fun c220 => ?_)
        ·
          refine r_iload_n S dX12_isLeaf_191 rfl (lv_at hl 3 rfl) ?_
          refine r_bipush S dX12_isLeaf_192 (by decide) (fun v221 z222 => ?_)
          have r223 := R_eq z222
          refine r_icmp_ne (tgt := 210) S dX12_isLeaf_194 (by decide) (fun c224 => ?_) (fun c224 => ?_)
          ·
            refine r_iload_n S dX12_isLeaf_210 rfl (lv_at hl 2 rfl) ?_
            refine r_istore (lv' := [(6, .int a0), (5, .int v210), (0, .ref (G.2.2.2.1 131)), (1, .int a0), (2, .int a1), (3, .int a2), (4, .int a3)]) S dX12_isLeaf_211 hl (by decide) rfl (fun ls hl => ?_)
            refine r_iload_n S dX12_isLeaf_213 rfl (lv_at hl 5 rfl) ?_
            refine r_bipush S dX12_isLeaf_214 (by decide) (fun v225 z226 => ?_)
            have r227 := R_eq z226
            refine r_icmp_ne (tgt := 234) S dX12_isLeaf_216 (by decide) (fun c228 => ?_) (fun c228 => ?_)
            ·
              refine r_iload_n S dX12_isLeaf_234 rfl (lv_at hl 5 rfl) ?_
              refine r_bipush S dX12_isLeaf_235 (by decide) (fun v229 z230 => ?_)
              have r231 := R_eq z230
              refine r_icmp_ne (tgt := 255) S dX12_isLeaf_237 (by decide) (fun c232 => ?_) (fun c232 => ?_)
              ·
                refine r_iload S dX12_isLeaf_255 (lv_at hl 0 rfl) ?_
                refine r_iload S dX12_isLeaf_257 (lv_at hl 6 rfl) ?_
                refine r_icmp_le (tgt := 266) S dX12_isLeaf_259 (by decide) (fun c233 => ?_) (fun c233 => ?_)
                ·
                  have r234 : R (0) (2147483647) a3 := ⟨by omega, by omega⟩
                  refine r_iconst S dX12_isLeaf_266 (by decide) (fun v235 z236 => ?_)
                  have r237 := R_eq z236
                  exact r_ret S hr hlk X ⟨rfl, (R_of r237 rfl)⟩ (nr_bool (R_of (lo := 0) (hi := 1) r237 rfl)) dX12_isLeaf_267
                ·
                  have r238 : R (-2147483648) (8) a3 := ⟨by omega, by omega⟩
                  refine r_iconst S dX12_isLeaf_262 (by decide) (fun v239 z240 => ?_)
                  have r241 := R_eq z240
                  refine r_goto (tgt := 267) S dX12_isLeaf_263 (by decide) ?_
                  exact r_ret S hr hlk X ⟨rfl, (R_of r241 rfl)⟩ (nr_bool (R_of (lo := 0) (hi := 1) r241 rfl)) dX12_isLeaf_267
              ·
                have r242 : R (61) (61) a2 := ⟨by omega, by omega⟩
                refine r_iload S dX12_isLeaf_240 (lv_at hl 0 rfl) ?_
                refine r_iload S dX12_isLeaf_242 (lv_at hl 6 rfl) ?_
                refine r_icmp_ne (tgt := 251) S dX12_isLeaf_244 (by decide) (fun c243 => ?_) (fun c243 => ?_)
                ·
                  refine r_iconst S dX12_isLeaf_251 (by decide) (fun v244 z245 => ?_)
                  have r246 := R_eq z245
                  refine r_goto (tgt := 267) S dX12_isLeaf_252 (by decide) ?_
                  exact r_ret S hr hlk X ⟨rfl, (R_of r246 rfl)⟩ (nr_bool (R_of (lo := 0) (hi := 1) r246 rfl)) dX12_isLeaf_267
                ·
                  have r247 : R (0) (9) a3 := ⟨by omega, by omega⟩
                  refine r_iconst S dX12_isLeaf_247 (by decide) (fun v248 z249 => ?_)
                  have r250 := R_eq z249
                  refine r_goto (tgt := 267) S dX12_isLeaf_248 (by decide) ?_
                  exact r_ret S hr hlk X ⟨rfl, (R_of r250 rfl)⟩ (nr_bool (R_of (lo := 0) (hi := 1) r250 rfl)) dX12_isLeaf_267
            ·
              have r251 : R (60) (60) a2 := ⟨by omega, by omega⟩
              refine r_iload S dX12_isLeaf_219 (lv_at hl 0 rfl) ?_
              refine r_iload S dX12_isLeaf_221 (lv_at hl 6 rfl) ?_
              refine r_icmp_ge (tgt := 230) S dX12_isLeaf_223 (by decide) (fun c252 => ?_) (fun c252 => ?_)
              ·
                have r253 : R (-2147483648) (9) a3 := ⟨by omega, by omega⟩
                refine r_iconst S dX12_isLeaf_230 (by decide) (fun v254 z255 => ?_)
                have r256 := R_eq z255
                refine r_goto (tgt := 267) S dX12_isLeaf_231 (by decide) ?_
                exact r_ret S hr hlk X ⟨rfl, (R_of r256 rfl)⟩ (nr_bool (R_of (lo := 0) (hi := 1) r256 rfl)) dX12_isLeaf_267
              ·
                have r257 : R (1) (2147483647) a3 := ⟨by omega, by omega⟩
                refine r_iconst S dX12_isLeaf_226 (by decide) (fun v258 z259 => ?_)
                have r260 := R_eq z259
                refine r_goto (tgt := 267) S dX12_isLeaf_227 (by decide) ?_
                exact r_ret S hr hlk X ⟨rfl, (R_of r260 rfl)⟩ (nr_bool (R_of (lo := 0) (hi := 1) r260 rfl)) dX12_isLeaf_267
          ·
            have r261 : R (8) (8) a1 := ⟨by omega, by omega⟩
            refine r_aload_n S dX12_isLeaf_197 rfl (lv_at hl 1 rfl) ?_
            refine r_get (K := 38) (v := .ref (G.2.2.2.1 133)) S X (Nat.le_of_ble_eq_true rfl) rfl lk12_33_10 (fun _ => ⟨_, rfl, rfl⟩) dX12_isLeaf_198 ?_
            refine r_sipush S dX12_isLeaf_201 (by decide) (fun v262 z263 => ?_)
            have r264 := R_eq z263
            refine r_iload_n S dX12_isLeaf_204 rfl (lv_at hl 2 rfl) ?_
            refine r_iadd S dX12_isLeaf_205 (fun v265 z266 => ?_)
            obtain ⟨e267, r268⟩ := i_add (lo := 132) (hi := 141) z266 r264 h_a0 rfl
            refine r_aldn (n := 513) (K := 40) S X (Nat.le_of_ble_eq_true rfl) rfl (fun _ => rfl) (ix_of r268 rfl) dX12_isLeaf_206 (fun v269 z270 => ?_)
            have r272 := R_any v269
            have g273 : Rg 40 v265.toNatClampNeg v269 := rd hI rfl z270
            refine r_goto (tgt := 211) S dX12_isLeaf_207 (by decide) ?_
            refine r_istore (lv' := [(6, .int v269), (5, .int v210), (0, .ref (G.2.2.2.1 131)), (1, .int a0), (2, .int a1), (3, .int a2), (4, .int a3)]) S dX12_isLeaf_211 hl (by decide) rfl (fun ls hl => ?_)
            refine r_iload_n S dX12_isLeaf_213 rfl (lv_at hl 5 rfl) ?_
            refine r_bipush S dX12_isLeaf_214 (by decide) (fun v274 z275 => ?_)
            have r276 := R_eq z275
            refine r_icmp_ne (tgt := 234) S dX12_isLeaf_216 (by decide) (fun c277 => ?_) (fun c277 => ?_)
            ·
              refine r_iload_n S dX12_isLeaf_234 rfl (lv_at hl 5 rfl) ?_
              refine r_bipush S dX12_isLeaf_235 (by decide) (fun v278 z279 => ?_)
              have r280 := R_eq z279
              refine r_icmp_ne (tgt := 255) S dX12_isLeaf_237 (by decide) (fun c281 => ?_) (fun c281 => ?_)
              ·
                refine r_iload S dX12_isLeaf_255 (lv_at hl 0 rfl) ?_
                refine r_iload S dX12_isLeaf_257 (lv_at hl 6 rfl) ?_
                refine r_icmp_le (tgt := 266) S dX12_isLeaf_259 (by decide) (fun c282 => ?_) (fun c282 => ?_)
                ·
                  refine r_iconst S dX12_isLeaf_266 (by decide) (fun v283 z284 => ?_)
                  have r285 := R_eq z284
                  exact r_ret S hr hlk X ⟨rfl, (R_of r285 rfl)⟩ (nr_bool (R_of (lo := 0) (hi := 1) r285 rfl)) dX12_isLeaf_267
                ·
                  have r286 : R (-2147483648) (2147483646) a3 := ⟨by omega, by omega⟩
                  have r287 : R (-2147483647) (2147483647) v269 := ⟨by omega, by omega⟩
                  refine r_iconst S dX12_isLeaf_262 (by decide) (fun v288 z289 => ?_)
                  have r290 := R_eq z289
                  refine r_goto (tgt := 267) S dX12_isLeaf_263 (by decide) ?_
                  exact r_ret S hr hlk X ⟨rfl, (R_of r290 rfl)⟩ (nr_bool (R_of (lo := 0) (hi := 1) r290 rfl)) dX12_isLeaf_267
              ·
                have r291 : R (61) (61) a2 := ⟨by omega, by omega⟩
                refine r_iload S dX12_isLeaf_240 (lv_at hl 0 rfl) ?_
                refine r_iload S dX12_isLeaf_242 (lv_at hl 6 rfl) ?_
                refine r_icmp_ne (tgt := 251) S dX12_isLeaf_244 (by decide) (fun c292 => ?_) (fun c292 => ?_)
                ·
                  refine r_iconst S dX12_isLeaf_251 (by decide) (fun v293 z294 => ?_)
                  have r295 := R_eq z294
                  refine r_goto (tgt := 267) S dX12_isLeaf_252 (by decide) ?_
                  exact r_ret S hr hlk X ⟨rfl, (R_of r295 rfl)⟩ (nr_bool (R_of (lo := 0) (hi := 1) r295 rfl)) dX12_isLeaf_267
                ·
                  refine r_iconst S dX12_isLeaf_247 (by decide) (fun v296 z297 => ?_)
                  have r298 := R_eq z297
                  refine r_goto (tgt := 267) S dX12_isLeaf_248 (by decide) ?_
                  exact r_ret S hr hlk X ⟨rfl, (R_of r298 rfl)⟩ (nr_bool (R_of (lo := 0) (hi := 1) r298 rfl)) dX12_isLeaf_267
            ·
              have r299 : R (60) (60) a2 := ⟨by omega, by omega⟩
              refine r_iload S dX12_isLeaf_219 (lv_at hl 0 rfl) ?_
              refine r_iload S dX12_isLeaf_221 (lv_at hl 6 rfl) ?_
              refine r_icmp_ge (tgt := 230) S dX12_isLeaf_223 (by decide) (fun c300 => ?_) (fun c300 => ?_)
              ·
                refine r_iconst S dX12_isLeaf_230 (by decide) (fun v301 z302 => ?_)
                have r303 := R_eq z302
                refine r_goto (tgt := 267) S dX12_isLeaf_231 (by decide) ?_
                exact r_ret S hr hlk X ⟨rfl, (R_of r303 rfl)⟩ (nr_bool (R_of (lo := 0) (hi := 1) r303 rfl)) dX12_isLeaf_267
              ·
                have r304 : R (-2147483648) (2147483646) v269 := ⟨by omega, by omega⟩
                have r305 : R (-2147483647) (2147483647) a3 := ⟨by omega, by omega⟩
                refine r_iconst S dX12_isLeaf_226 (by decide) (fun v306 z307 => ?_)
                have r308 := R_eq z307
                refine r_goto (tgt := 267) S dX12_isLeaf_227 (by decide) ?_
                exact r_ret S hr hlk X ⟨rfl, (R_of r308 rfl)⟩ (nr_bool (R_of (lo := 0) (hi := 1) r308 rfl)) dX12_isLeaf_267
        ·
          have r309 : R (7) (7) a1 := ⟨by omega, by omega⟩
          refine r_aload_n S dX12_isLeaf_180 rfl (lv_at hl 1 rfl) ?_
          refine r_get (K := 38) (v := .ref (G.2.2.2.1 133)) S X (Nat.le_of_ble_eq_true rfl) rfl lk12_33_10 (fun _ => ⟨_, rfl, rfl⟩) dX12_isLeaf_181 ?_
          refine r_iconst S dX12_isLeaf_184 (by decide) (fun v310 z311 => ?_)
          have r312 := R_eq z311
          refine r_iload_n S dX12_isLeaf_185 rfl (lv_at hl 2 rfl) ?_
          refine r_iadd S dX12_isLeaf_186 (fun v313 z314 => ?_)
          obtain ⟨e315, r316⟩ := i_add (lo := 5) (hi := 14) z314 r312 h_a0 rfl
          refine r_aldn (n := 513) (K := 40) S X (Nat.le_of_ble_eq_true rfl) rfl (fun _ => rfl) (ix_of r316 rfl) dX12_isLeaf_187 (fun v317 z318 => ?_)
          have r319 : R (0) (20) v317 := rds (K := 40) (a := 5) (n := 10) hI rfl z318 (R_of r316 rfl) (by decide +kernel)
          have g320 : Rg 40 v313.toNatClampNeg v317 := rd hI rfl z318
          refine r_goto (tgt := 211) S dX12_isLeaf_188 (by decide) ?_
          refine r_istore (lv' := [(6, .int v317), (5, .int v210), (0, .ref (G.2.2.2.1 131)), (1, .int a0), (2, .int a1), (3, .int a2), (4, .int a3)]) S dX12_isLeaf_211 hl (by decide) rfl (fun ls hl => ?_)
          refine r_iload_n S dX12_isLeaf_213 rfl (lv_at hl 5 rfl) ?_
          refine r_bipush S dX12_isLeaf_214 (by decide) (fun v321 z322 => ?_)
          have r323 := R_eq z322
          refine r_icmp_ne (tgt := 234) S dX12_isLeaf_216 (by decide) (fun c324 => ?_) (fun c324 => ?_)
          ·
            refine r_iload_n S dX12_isLeaf_234 rfl (lv_at hl 5 rfl) ?_
            refine r_bipush S dX12_isLeaf_235 (by decide) (fun v325 z326 => ?_)
            have r327 := R_eq z326
            refine r_icmp_ne (tgt := 255) S dX12_isLeaf_237 (by decide) (fun c328 => ?_) (fun c328 => ?_)
            ·
              refine r_iload S dX12_isLeaf_255 (lv_at hl 0 rfl) ?_
              refine r_iload S dX12_isLeaf_257 (lv_at hl 6 rfl) ?_
              refine r_icmp_le (tgt := 266) S dX12_isLeaf_259 (by decide) (fun c329 => ?_) (fun c329 => ?_)
              ·
                have r330 : R (0) (2147483647) a3 := ⟨by omega, by omega⟩
                refine r_iconst S dX12_isLeaf_266 (by decide) (fun v331 z332 => ?_)
                have r333 := R_eq z332
                exact r_ret S hr hlk X ⟨rfl, (R_of r333 rfl)⟩ (nr_bool (R_of (lo := 0) (hi := 1) r333 rfl)) dX12_isLeaf_267
              ·
                have r334 : R (-2147483648) (19) a3 := ⟨by omega, by omega⟩
                refine r_iconst S dX12_isLeaf_262 (by decide) (fun v335 z336 => ?_)
                have r337 := R_eq z336
                refine r_goto (tgt := 267) S dX12_isLeaf_263 (by decide) ?_
                exact r_ret S hr hlk X ⟨rfl, (R_of r337 rfl)⟩ (nr_bool (R_of (lo := 0) (hi := 1) r337 rfl)) dX12_isLeaf_267
            ·
              have r338 : R (61) (61) a2 := ⟨by omega, by omega⟩
              refine r_iload S dX12_isLeaf_240 (lv_at hl 0 rfl) ?_
              refine r_iload S dX12_isLeaf_242 (lv_at hl 6 rfl) ?_
              refine r_icmp_ne (tgt := 251) S dX12_isLeaf_244 (by decide) (fun c339 => ?_) (fun c339 => ?_)
              ·
                refine r_iconst S dX12_isLeaf_251 (by decide) (fun v340 z341 => ?_)
                have r342 := R_eq z341
                refine r_goto (tgt := 267) S dX12_isLeaf_252 (by decide) ?_
                exact r_ret S hr hlk X ⟨rfl, (R_of r342 rfl)⟩ (nr_bool (R_of (lo := 0) (hi := 1) r342 rfl)) dX12_isLeaf_267
              ·
                have r343 : R (0) (20) a3 := ⟨by omega, by omega⟩
                refine r_iconst S dX12_isLeaf_247 (by decide) (fun v344 z345 => ?_)
                have r346 := R_eq z345
                refine r_goto (tgt := 267) S dX12_isLeaf_248 (by decide) ?_
                exact r_ret S hr hlk X ⟨rfl, (R_of r346 rfl)⟩ (nr_bool (R_of (lo := 0) (hi := 1) r346 rfl)) dX12_isLeaf_267
          ·
            have r347 : R (60) (60) a2 := ⟨by omega, by omega⟩
            refine r_iload S dX12_isLeaf_219 (lv_at hl 0 rfl) ?_
            refine r_iload S dX12_isLeaf_221 (lv_at hl 6 rfl) ?_
            refine r_icmp_ge (tgt := 230) S dX12_isLeaf_223 (by decide) (fun c348 => ?_) (fun c348 => ?_)
            ·
              have r349 : R (-2147483648) (20) a3 := ⟨by omega, by omega⟩
              refine r_iconst S dX12_isLeaf_230 (by decide) (fun v350 z351 => ?_)
              have r352 := R_eq z351
              refine r_goto (tgt := 267) S dX12_isLeaf_231 (by decide) ?_
              exact r_ret S hr hlk X ⟨rfl, (R_of r352 rfl)⟩ (nr_bool (R_of (lo := 0) (hi := 1) r352 rfl)) dX12_isLeaf_267
            ·
              have r353 : R (1) (2147483647) a3 := ⟨by omega, by omega⟩
              refine r_iconst S dX12_isLeaf_226 (by decide) (fun v354 z355 => ?_)
              have r356 := R_eq z355
              refine r_goto (tgt := 267) S dX12_isLeaf_227 (by decide) ?_
              exact r_ret S hr hlk X ⟨rfl, (R_of r356 rfl)⟩ (nr_bool (R_of (lo := 0) (hi := 1) r356 rfl)) dX12_isLeaf_267
      ·
        have r357 : R (6) (6) a1 := ⟨by omega, by omega⟩
        refine r_iload S dX12_isLeaf_169 (lv_at hl 0 rfl) ?_
        refine r_goto (tgt := 211) S dX12_isLeaf_171 (by decide) ?_
        refine r_istore (lv' := [(6, .int v210), (5, .int v210), (0, .ref (G.2.2.2.1 131)), (1, .int a0), (2, .int a1), (3, .int a2), (4, .int a3)]) S dX12_isLeaf_211 hl (by decide) rfl (fun ls hl => ?_)
        refine r_iload_n S dX12_isLeaf_213 rfl (lv_at hl 5 rfl) ?_
        refine r_bipush S dX12_isLeaf_214 (by decide) (fun v358 z359 => ?_)
        have r360 := R_eq z359
        refine r_icmp_ne (tgt := 234) S dX12_isLeaf_216 (by decide) (fun c361 => ?_) (fun c361 => ?_)
        ·
          refine r_iload_n S dX12_isLeaf_234 rfl (lv_at hl 5 rfl) ?_
          refine r_bipush S dX12_isLeaf_235 (by decide) (fun v362 z363 => ?_)
          have r364 := R_eq z363
          refine r_icmp_ne (tgt := 255) S dX12_isLeaf_237 (by decide) (fun c365 => ?_) (fun c365 => ?_)
          ·
            refine r_iload S dX12_isLeaf_255 (lv_at hl 0 rfl) ?_
            refine r_iload S dX12_isLeaf_257 (lv_at hl 6 rfl) ?_
            refine r_icmp_le (tgt := 266) S dX12_isLeaf_259 (by decide) (fun c366 => ?_) (fun c366 => ?_)
            ·
              have r367 : R (0) (2147483647) a3 := ⟨by omega, by omega⟩
              refine r_iconst S dX12_isLeaf_266 (by decide) (fun v368 z369 => ?_)
              have r370 := R_eq z369
              exact r_ret S hr hlk X ⟨rfl, (R_of r370 rfl)⟩ (nr_bool (R_of (lo := 0) (hi := 1) r370 rfl)) dX12_isLeaf_267
            ·
              have r371 : R (-2147483648) (-1) a3 := ⟨by omega, by omega⟩
              refine r_iconst S dX12_isLeaf_262 (by decide) (fun v372 z373 => ?_)
              have r374 := R_eq z373
              refine r_goto (tgt := 267) S dX12_isLeaf_263 (by decide) ?_
              exact r_ret S hr hlk X ⟨rfl, (R_of r374 rfl)⟩ (nr_bool (R_of (lo := 0) (hi := 1) r374 rfl)) dX12_isLeaf_267
          ·
            have r375 : R (61) (61) a2 := ⟨by omega, by omega⟩
            refine r_iload S dX12_isLeaf_240 (lv_at hl 0 rfl) ?_
            refine r_iload S dX12_isLeaf_242 (lv_at hl 6 rfl) ?_
            refine r_icmp_ne (tgt := 251) S dX12_isLeaf_244 (by decide) (fun c376 => ?_) (fun c376 => ?_)
            ·
              refine r_iconst S dX12_isLeaf_251 (by decide) (fun v377 z378 => ?_)
              have r379 := R_eq z378
              refine r_goto (tgt := 267) S dX12_isLeaf_252 (by decide) ?_
              exact r_ret S hr hlk X ⟨rfl, (R_of r379 rfl)⟩ (nr_bool (R_of (lo := 0) (hi := 1) r379 rfl)) dX12_isLeaf_267
            ·
              have r380 : R (0) (0) a3 := ⟨by omega, by omega⟩
              refine r_iconst S dX12_isLeaf_247 (by decide) (fun v381 z382 => ?_)
              have r383 := R_eq z382
              refine r_goto (tgt := 267) S dX12_isLeaf_248 (by decide) ?_
              exact r_ret S hr hlk X ⟨rfl, (R_of r383 rfl)⟩ (nr_bool (R_of (lo := 0) (hi := 1) r383 rfl)) dX12_isLeaf_267
        ·
          have r384 : R (60) (60) a2 := ⟨by omega, by omega⟩
          refine r_iload S dX12_isLeaf_219 (lv_at hl 0 rfl) ?_
          refine r_iload S dX12_isLeaf_221 (lv_at hl 6 rfl) ?_
          refine r_icmp_ge (tgt := 230) S dX12_isLeaf_223 (by decide) (fun c385 => ?_) (fun c385 => ?_)
          ·
            have r386 : R (-2147483648) (0) a3 := ⟨by omega, by omega⟩
            refine r_iconst S dX12_isLeaf_230 (by decide) (fun v387 z388 => ?_)
            have r389 := R_eq z388
            refine r_goto (tgt := 267) S dX12_isLeaf_231 (by decide) ?_
            exact r_ret S hr hlk X ⟨rfl, (R_of r389 rfl)⟩ (nr_bool (R_of (lo := 0) (hi := 1) r389 rfl)) dX12_isLeaf_267
          ·
            have r390 : R (1) (2147483647) a3 := ⟨by omega, by omega⟩
            refine r_iconst S dX12_isLeaf_226 (by decide) (fun v391 z392 => ?_)
            have r393 := R_eq z392
            refine r_goto (tgt := 267) S dX12_isLeaf_227 (by decide) ?_
            exact r_ret S hr hlk X ⟨rfl, (R_of r393 rfl)⟩ (nr_bool (R_of (lo := 0) (hi := 1) r393 rfl)) dX12_isLeaf_267
  ·
    refine lv_tableIn (tgt := 40) S.1.1 S.1.2.1 dX12_isLeaf_1 (by omega) (by omega) (by rw [c1]; rfl) (by decide) ?_
    have r394 : R (0) (0) a1 := ⟨by omega, by omega⟩
    refine r_aload_n S dX12_isLeaf_40 rfl (lv_at hl 0 rfl) ?_
    refine r_iload_n S dX12_isLeaf_41 rfl (lv_at hl 1 rfl) ?_
    refine r_ki (q_V (As := [.int a0]) (rest := []) (K := 38) (ci := 10) S X (c_X12_bankOf l G τ hI a0 (R_of (lo := -2147483648) (hi := 2147483647) h_a0 rfl)) ck12_259 (Nat.le_of_ble_eq_true rfl) rfl (fun _ => ⟨_, rfl⟩) ⟨_, _, rfl⟩ ⟨Nat.le_of_ble_eq_true rfl, Nat.le_of_ble_eq_true rfl⟩ rfl hl.1 rfl (Nat.le_of_ble_eq_true rfl) dX12_isLeaf_42 ⟨Nat.le_refl 0, Nat.le_refl 0⟩) X (fun v398 t397 H lc q395 X396 => ?_)
    unfold po_X12_bankOf at q395
    obtain ⟨q399, q400⟩ := q395
    rw [q399] at X396
    refine r_iconst S dX12_isLeaf_45 (by decide) (fun v401 z402 => ?_)
    have r403 := R_eq z402
    refine r_icmp_ne (tgt := 53) S dX12_isLeaf_46 (by decide) (fun c404 => ?_) (fun c404 => ?_)
    ·
      have r405 : R (0) (0) v398 := ⟨by omega, by omega⟩
      refine r_iconst S dX12_isLeaf_53 (by decide) (fun v406 z407 => ?_)
      have r408 := R_eq z407
      exact r_ret S hr hlk X396 ⟨rfl, (R_of r408 rfl)⟩ (nr_bool (R_of (lo := 0) (hi := 1) r408 rfl)) dX12_isLeaf_54
    ·
      have r409 : R (1) (1) v398 := ⟨by omega, by omega⟩
      refine r_iconst S dX12_isLeaf_49 (by decide) (fun v410 z411 => ?_)
      have r412 := R_eq z411
      refine r_goto (tgt := 54) S dX12_isLeaf_50 (by decide) ?_
      exact r_ret S hr hlk X396 ⟨rfl, (R_of r412 rfl)⟩ (nr_bool (R_of (lo := 0) (hi := 1) r412 rfl)) dX12_isLeaf_54
  ·
    refine lv_tableIn (tgt := 55) S.1.1 S.1.2.1 dX12_isLeaf_1 (by omega) (by omega) (by rw [c1]; rfl) (by decide) ?_
    have r413 : R (1) (1) a1 := ⟨by omega, by omega⟩
    refine r_aload_n S dX12_isLeaf_55 rfl (lv_at hl 0 rfl) ?_
    refine r_get (K := 38) (v := .ref (G.2.2.2.1 133)) S X (Nat.le_of_ble_eq_true rfl) rfl lk12_33_10 (fun _ => ⟨_, rfl, rfl⟩) dX12_isLeaf_56 ?_
    refine r_sipush S dX12_isLeaf_59 (by decide) (fun v414 z415 => ?_)
    have r416 := R_eq z415
    refine r_aldn (n := 513) (K := 40) S X (Nat.le_of_ble_eq_true rfl) rfl (fun _ => rfl) (ix_of r416 rfl) dX12_isLeaf_62 (fun v417 z418 => ?_)
    have r419 : R (0) (1023) v417 := rds (K := 40) (a := 130) (n := 1) hI rfl z418 (R_of r416 rfl) (by decide +kernel)
    refine r_iload_n S dX12_isLeaf_63 rfl (lv_at hl 1 rfl) ?_
    refine r_ki (q_S (As := [.int v417, .int a0]) (rest := []) S X (c_X12_bitOf l G τ hI v417 a0 (R_of (lo := -2147483648) (hi := 2147483647) r419 rfl) (R_of (lo := -2147483648) (hi := 2147483647) h_a0 rfl)) ck12_221 ⟨Nat.le_of_ble_eq_true rfl, Nat.le_of_ble_eq_true rfl⟩ rfl hl.1 rfl (Nat.le_of_ble_eq_true rfl) dX12_isLeaf_64 ⟨Nat.le_refl 0, Nat.le_refl 0⟩) X (fun v423 t422 H lc q420 X421 => ?_)
    unfold po_X12_bitOf at q420
    obtain ⟨q424, q425⟩ := q420
    rw [q424] at X421
    exact r_ret S hr hlk X421 ⟨rfl, q425⟩ (nr_bool (R_of (lo := 0) (hi := 1) q425 rfl)) dX12_isLeaf_67
  ·
    refine lv_tableIn (tgt := 68) S.1.1 S.1.2.1 dX12_isLeaf_1 (by omega) (by omega) (by rw [c1]; rfl) (by decide) ?_
    have r426 : R (2) (2) a1 := ⟨by omega, by omega⟩
    refine r_aload_n S dX12_isLeaf_68 rfl (lv_at hl 0 rfl) ?_
    refine r_get (K := 38) (v := .ref (G.2.2.2.1 133)) S X (Nat.le_of_ble_eq_true rfl) rfl lk12_33_10 (fun _ => ⟨_, rfl, rfl⟩) dX12_isLeaf_69 ?_
    refine r_sipush S dX12_isLeaf_72 (by decide) (fun v427 z428 => ?_)
    have r429 := R_eq z428
    refine r_aldn (n := 513) (K := 40) S X (Nat.le_of_ble_eq_true rfl) rfl (fun _ => rfl) (ix_of r429 rfl) dX12_isLeaf_75 (fun v430 z431 => ?_)
    have r432 : R (0) (1023) v430 := rds (K := 40) (a := 131) (n := 1) hI rfl z431 (R_of r429 rfl) (by decide +kernel)
    refine r_iload_n S dX12_isLeaf_76 rfl (lv_at hl 1 rfl) ?_
    refine r_ki (q_S (As := [.int v430, .int a0]) (rest := []) S X (c_X12_bitOf l G τ hI v430 a0 (R_of (lo := -2147483648) (hi := 2147483647) r432 rfl) (R_of (lo := -2147483648) (hi := 2147483647) h_a0 rfl)) ck12_221 ⟨Nat.le_of_ble_eq_true rfl, Nat.le_of_ble_eq_true rfl⟩ rfl hl.1 rfl (Nat.le_of_ble_eq_true rfl) dX12_isLeaf_77 ⟨Nat.le_refl 0, Nat.le_refl 0⟩) X (fun v436 t435 H lc q433 X434 => ?_)
    unfold po_X12_bitOf at q433
    obtain ⟨q437, q438⟩ := q433
    rw [q437] at X434
    exact r_ret S hr hlk X434 ⟨rfl, q438⟩ (nr_bool (R_of (lo := 0) (hi := 1) q438 rfl)) dX12_isLeaf_80
  ·
    refine lv_tableIn (tgt := 81) S.1.1 S.1.2.1 dX12_isLeaf_1 (by omega) (by omega) (by rw [c1]; rfl) (by decide) ?_
    have r439 : R (3) (3) a1 := ⟨by omega, by omega⟩
    refine r_aload_n S dX12_isLeaf_81 rfl (lv_at hl 0 rfl) ?_
    refine r_iload_n S dX12_isLeaf_82 rfl (lv_at hl 1 rfl) ?_
    refine r_ki (q_V (As := [.int a0]) (rest := []) (K := 38) (ci := 10) S X (c_X12_bankOf l G τ hI a0 (R_of (lo := -2147483648) (hi := 2147483647) h_a0 rfl)) ck12_259 (Nat.le_of_ble_eq_true rfl) rfl (fun _ => ⟨_, rfl⟩) ⟨_, _, rfl⟩ ⟨Nat.le_of_ble_eq_true rfl, Nat.le_of_ble_eq_true rfl⟩ rfl hl.1 rfl (Nat.le_of_ble_eq_true rfl) dX12_isLeaf_83 ⟨Nat.le_refl 0, Nat.le_refl 0⟩) X (fun v443 t442 H lc q440 X441 => ?_)
    unfold po_X12_bankOf at q440
    obtain ⟨q444, q445⟩ := q440
    rw [q444] at X441
    refine r_aload_n S dX12_isLeaf_86 rfl (lv_at hl 0 rfl) ?_
    refine r_iload S dX12_isLeaf_87 (lv_at hl 4 rfl) ?_
    refine r_ki (q_V (As := [.int a3]) (rest := [.int v443]) (K := 38) (ci := 10) S X441 (c_X12_bankOf l G τ hI a3 h_a3) ck12_259 (Nat.le_of_ble_eq_true rfl) rfl (fun _ => ⟨_, rfl⟩) ⟨_, _, rfl⟩ ⟨Nat.le_of_ble_eq_true rfl, Nat.le_of_ble_eq_true rfl⟩ rfl hl.1 rfl (Nat.le_of_ble_eq_true rfl) dX12_isLeaf_89 ⟨Nat.le_refl 0, Nat.le_refl 0⟩) X441 (fun v449 t448 H lc q446 X447 => ?_)
    unfold po_X12_bankOf at q446
    obtain ⟨q450, q451⟩ := q446
    rw [q450] at X447
    refine r_icmp_ne (tgt := 99) S dX12_isLeaf_92 (by decide) (fun c452 => ?_) (fun c452 => ?_)
    ·
      refine r_iconst S dX12_isLeaf_99 (by decide) (fun v453 z454 => ?_)
      have r455 := R_eq z454
      exact r_ret S hr hlk X447 ⟨rfl, (R_of r455 rfl)⟩ (nr_bool (R_of (lo := 0) (hi := 1) r455 rfl)) dX12_isLeaf_100
    ·
      refine r_iconst S dX12_isLeaf_95 (by decide) (fun v456 z457 => ?_)
      have r458 := R_eq z457
      refine r_goto (tgt := 100) S dX12_isLeaf_96 (by decide) ?_
      exact r_ret S hr hlk X447 ⟨rfl, (R_of r458 rfl)⟩ (nr_bool (R_of (lo := 0) (hi := 1) r458 rfl)) dX12_isLeaf_100
  ·
    refine lv_tableIn (tgt := 101) S.1.1 S.1.2.1 dX12_isLeaf_1 (by omega) (by omega) (by rw [c1]; rfl) (by decide) ?_
    have r459 : R (4) (4) a1 := ⟨by omega, by omega⟩
    have r460 : R 0 8 a3 := hp_0 (by omega)
    refine r_aload_n S dX12_isLeaf_101 rfl (lv_at hl 0 rfl) ?_
    refine r_iload_n S dX12_isLeaf_102 rfl (lv_at hl 1 rfl) ?_
    refine r_iload S dX12_isLeaf_103 (lv_at hl 4 rfl) ?_
    refine r_ki (q_V (As := [.int a0, .int a3]) (rest := []) (K := 38) (ci := 10) S X (c_X12_saysOf l G τ hI a0 a3 h_a0 r460) ck12_269 (Nat.le_of_ble_eq_true rfl) rfl (fun _ => ⟨_, rfl⟩) ⟨_, _, rfl⟩ ⟨Nat.le_of_ble_eq_true rfl, Nat.le_of_ble_eq_true rfl⟩ rfl hl.1 rfl (Nat.le_of_ble_eq_true rfl) dX12_isLeaf_105 ⟨Nat.le_refl 0, Nat.le_refl 0⟩) X (fun v464 t463 H lc q461 X462 => ?_)
    unfold po_X12_saysOf at q461
    obtain ⟨q465, q466⟩ := q461
    rw [q465] at X462
    refine r_if_le (tgt := 115) S dX12_isLeaf_108 (by decide) (fun c467 => ?_) (fun c467 => ?_)
    ·
      have r468 : R (-9) (0) v464 := ⟨by omega, by omega⟩
      refine r_iconst S dX12_isLeaf_115 (by decide) (fun v469 z470 => ?_)
      have r471 := R_eq z470
      exact r_ret S hr hlk X462 ⟨rfl, (R_of r471 rfl)⟩ (nr_bool (R_of (lo := 0) (hi := 1) r471 rfl)) dX12_isLeaf_116
    ·
      have r472 : R (1) (9) v464 := ⟨by omega, by omega⟩
      refine r_iconst S dX12_isLeaf_111 (by decide) (fun v473 z474 => ?_)
      have r475 := R_eq z474
      refine r_goto (tgt := 116) S dX12_isLeaf_112 (by decide) ?_
      exact r_ret S hr hlk X462 ⟨rfl, (R_of r475 rfl)⟩ (nr_bool (R_of (lo := 0) (hi := 1) r475 rfl)) dX12_isLeaf_116
  ·
    refine lv_tableIn (tgt := 117) S.1.1 S.1.2.1 dX12_isLeaf_1 (by omega) (by omega) (by rw [c1]; rfl) (by decide) ?_
    have r476 : R (5) (5) a1 := ⟨by omega, by omega⟩
    have r477 : R 0 8 a3 := hp_0 (by omega)
    refine r_aload_n S dX12_isLeaf_117 rfl (lv_at hl 0 rfl) ?_
    refine r_iload_n S dX12_isLeaf_118 rfl (lv_at hl 1 rfl) ?_
    refine r_iload S dX12_isLeaf_119 (lv_at hl 4 rfl) ?_
    refine r_ki (q_V (As := [.int a0, .int a3]) (rest := []) (K := 38) (ci := 10) S X (c_X12_saysOf l G τ hI a0 a3 h_a0 r477) ck12_269 (Nat.le_of_ble_eq_true rfl) rfl (fun _ => ⟨_, rfl⟩) ⟨_, _, rfl⟩ ⟨Nat.le_of_ble_eq_true rfl, Nat.le_of_ble_eq_true rfl⟩ rfl hl.1 rfl (Nat.le_of_ble_eq_true rfl) dX12_isLeaf_121 ⟨Nat.le_refl 0, Nat.le_refl 0⟩) X (fun v481 t480 H lc q478 X479 => ?_)
    unfold po_X12_saysOf at q478
    obtain ⟨q482, q483⟩ := q478
    rw [q482] at X479
    refine r_if_ge (tgt := 131) S dX12_isLeaf_124 (by decide) (fun c484 => ?_) (fun c484 => ?_)
    ·
      have r485 : R (0) (9) v481 := ⟨by omega, by omega⟩
      refine r_iconst S dX12_isLeaf_131 (by decide) (fun v486 z487 => ?_)
      have r488 := R_eq z487
      exact r_ret S hr hlk X479 ⟨rfl, (R_of r488 rfl)⟩ (nr_bool (R_of (lo := 0) (hi := 1) r488 rfl)) dX12_isLeaf_132
    ·
      have r489 : R (-9) (-1) v481 := ⟨by omega, by omega⟩
      refine r_iconst S dX12_isLeaf_127 (by decide) (fun v490 z491 => ?_)
      have r492 := R_eq z491
      refine r_goto (tgt := 132) S dX12_isLeaf_128 (by decide) ?_
      exact r_ret S hr hlk X479 ⟨rfl, (R_of r492 rfl)⟩ (nr_bool (R_of (lo := 0) (hi := 1) r492 rfl)) dX12_isLeaf_132
def po_X12_isSaid (τ : Tau)  (a0 : Int32)   (r : Int32) (u : Tau) : Prop := Inv u ∧ Fr [] [149] τ u ∧ R (0) (1) r
set_option maxHeartbeats 4000000 in
set_option maxRecDepth 100000 in
theorem c_X12_isSaid (l : Launch) (G : Gx) (τ : Tau) (hI : Inv τ) (a0 : Int32) (h_a0 : R (0) (9) a0) (hp_0 : PF τ) : Ci l G yX12_isSaid cX12_isSaid 5 (some .boolean) 4 92 [.ref (G.2.2.2.1 131), .int a0] τ (po_X12_isSaid τ  a0  ) := by
  unfold Ci
  refine C_of (own := RX12) (by decide) rfl (Nat.le_of_ble_eq_true rfl) ?_
  intro p e s m below meth c ls S hr hlk X hl
  have hl : lv_has ls 5 [(0, .ref (G.2.2.2.1 131)), (1, .int a0)] := hl
  refine r_iconst S dX12_isSaid_0 (by decide) (fun v1 z2 => ?_)
  have r3 := R_eq z2
  refine r_istore_n (lv' := [(2, .int v1), (0, .ref (G.2.2.2.1 131)), (1, .int a0)]) S dX12_isSaid_1 rfl hl (by decide) rfl (fun ls hl => ?_)
  refine r_iconst S dX12_isSaid_2 (by decide) (fun v4 z5 => ?_)
  have r6 := R_eq z5
  refine r_istore_n (lv' := [(3, .int v4), (2, .int v1), (0, .ref (G.2.2.2.1 131)), (1, .int a0)]) S dX12_isSaid_3 rfl hl (by decide) rfl (fun ls hl => ?_)
  have L7158 : ∀ (n : Nat) (t7154 : Tau) (H : Heap) (lc : List Loc) (ls : Array Slot) (i7150 : Int32) (i7152 : Int32), Xd G s H lc t7154 → Inv t7154 → Fr [] [149] τ t7154 → R (-1) (40) i7150 → R (0) (53) i7152 → i7150.toInt = dpf (τ 133) 333 i7152.toInt.toNat → lv_has ls 5 [(0, .ref (G.2.2.2.1 131)), (1, .int a0), (2, .int i7150), (3, .int i7152)] → (54 - i7152.toInt).toNat < n → W p l e (Rm 4 92) s m ([.ref (G.2.2.2.1 131), .int a0] : List Value).toArray below meth c H lc 0 0 (MQ below (va_Qi (po_X12_isSaid τ  a0  ) (Bs G) G.2.2.2.2) ([.ref (G.2.2.2.1 131), .int a0] : List Value).toArray s 0 0 G.2.2.2.2) (F0 m 4 ls []) := by
    intro n
    induction n with
    | zero => intros; omega
    | succ n ih7160 =>
      intro t7154 H lc ls i7150 i7152 X7157 I7155 F7156 r7151 r7153 x7159 hl hm
      refine r_iload_n S dX12_isSaid_4 rfl (lv_at hl 3 rfl) ?_
      refine r_aload_n S dX12_isSaid_5 rfl (lv_at hl 0 rfl) ?_
      refine r_get (K := 38) (v := .ref (G.2.2.2.1 133)) S X7157 (Nat.le_of_ble_eq_true rfl) rfl lk12_33_10 (fun _ => ⟨_, rfl, rfl⟩) dX12_isSaid_6 ?_
      refine r_sipush S dX12_isSaid_9 (by decide) (fun v7161 z7162 => ?_)
      have r7163 := R_eq z7162
      refine r_aldn (n := 513) (K := 40) S X7157 (Nat.le_of_ble_eq_true rfl) rfl (fun _ => rfl) (ix_of r7163 rfl) dX12_isSaid_12 (fun v7164 z7165 => ?_)
      have r7166 : R (0) (53) v7164 := rds (K := 40) (a := 332) (n := 1) I7155 rfl z7165 (R_of r7163 rfl) (by decide +kernel)
      refine r_icmp_ge (tgt := 212) S dX12_isSaid_13 (by decide) (fun c7167 => ?_) (fun c7167 => ?_)
      ·
        refine r_aload_n S dX12_isSaid_212 rfl (lv_at hl 0 rfl) ?_
        refine r_get (K := 38) (v := .ref (G.2.2.2.1 149)) S X7157 (Nat.le_of_ble_eq_true rfl) rfl lk12_87_10 (fun _ => ⟨_, rfl, rfl⟩) dX12_isSaid_213 ?_
        refine r_iconst S dX12_isSaid_216 (by decide) (fun v7168 z7169 => ?_)
        have r7170 := R_eq z7169
        refine r_zald (n := 45) (K := 56) S X7157 (Nat.le_of_ble_eq_true rfl) rfl (fun _ => rfl) (ix_of r7170 rfl) dX12_isSaid_217 (fun v7171 z7172 => ?_)
        have r7173 : R (0) (1) v7171 := rd I7155 rfl z7172
        exact r_ret S hr hlk X7157 ⟨I7155, F7156, r7173⟩ (nr_bool (R_of (lo := 0) (hi := 1) r7173 rfl)) dX12_isSaid_218
      ·
        have r7174 : R (0) (52) i7152 := ⟨by omega, by omega⟩
        have r7175 : R (1) (53) v7164 := ⟨by omega, by omega⟩
        refine r_sipush S dX12_isSaid_16 (by decide) (fun v7176 z7177 => ?_)
        have r7178 := R_eq z7177
        refine r_iconst S dX12_isSaid_19 (by decide) (fun v7179 z7180 => ?_)
        have r7181 := R_eq z7180
        refine r_iload_n S dX12_isSaid_20 rfl (lv_at hl 3 rfl) ?_
        refine r_imul S dX12_isSaid_21 (fun v7182 z7183 => ?_)
        obtain ⟨e7184, r7185⟩ := i_mul (lo := 0) (hi := 156) z7183 r7181 r7174 rfl rfl
        have e7186 : v7182.toInt = 3 * i7152.toInt := by rw [e7184, show v7179.toInt = 3 by omega]
        refine r_iadd S dX12_isSaid_22 (fun v7187 z7188 => ?_)
        obtain ⟨e7189, r7190⟩ := i_add (lo := 333) (hi := 489) z7188 r7178 r7185 rfl
        refine r_istore (lv' := [(4, .int v7187), (0, .ref (G.2.2.2.1 131)), (1, .int a0), (2, .int i7150), (3, .int i7152)]) S dX12_isSaid_23 hl (by decide) rfl (fun ls hl => ?_)
        refine r_aload_n S dX12_isSaid_25 rfl (lv_at hl 1 rfl) ?_
        refine r_get (K := 38) (v := .ref (G.2.2.2.1 133)) S X7157 (Nat.le_of_ble_eq_true rfl) rfl lk12_33_10 (fun _ => ⟨_, rfl, rfl⟩) dX12_isSaid_26 ?_
        refine r_iload S dX12_isSaid_29 (lv_at hl 0 rfl) ?_
        refine r_aldn (n := 513) (K := 40) S X7157 (Nat.le_of_ble_eq_true rfl) rfl (fun _ => rfl) (ix_of r7190 rfl) dX12_isSaid_31 (fun v7191 z7192 => ?_)
        have r7194 := R_any v7191
        have g7195 : Rg 40 v7187.toNatClampNeg v7191 := rd I7155 rfl z7192
        have h7196 := PF_row hp_0 (by omega) ((F7156 133 332 (by simp [fz])).symm.trans (zc (n := 332) (by omega) z7165)) (by omega) x7159 (ix := v7187) (by omega) ((F7156 133 v7187.toNatClampNeg (by simp [fz])).symm.trans z7192)
        have h7197 := cdw_c v7191
        have r7198 : R (0) (39) i7150 := ⟨by omega, by omega⟩
        refine r_bipush S dX12_isSaid_32 (by decide) (fun v7199 z7200 => ?_)
        have r7201 := R_eq z7200
        refine r_icmp_ne (tgt := 64) S dX12_isSaid_34 (by decide) (fun c7202 => ?_) (fun c7202 => ?_)
        ·
          refine r_aload_n S dX12_isSaid_64 rfl (lv_at hl 1 rfl) ?_
          refine r_get (K := 38) (v := .ref (G.2.2.2.1 133)) S X7157 (Nat.le_of_ble_eq_true rfl) rfl lk12_33_10 (fun _ => ⟨_, rfl, rfl⟩) dX12_isSaid_65 ?_
          refine r_iload S dX12_isSaid_68 (lv_at hl 0 rfl) ?_
          refine r_aldn (n := 513) (K := 40) S X7157 (Nat.le_of_ble_eq_true rfl) rfl (fun _ => rfl) (ix_of r7190 rfl) dX12_isSaid_70 (fun v7203 z7204 => ?_)
          have r7206 := R_any v7203
          have g7207 : Rg 40 v7187.toNatClampNeg v7203 := rd I7155 rfl z7204
          have h7208 : v7203 = v7191 := z7204.symm.trans ((rfl).trans z7192)
          have h7209 := congrArg Int32.toInt h7208
          refine r_bipush S dX12_isSaid_71 (by decide) (fun v7210 z7211 => ?_)
          have r7212 := R_eq z7211
          refine r_icmp_eq (tgt := 88) S dX12_isSaid_73 (by decide) (fun c7213 => ?_) (fun c7213 => ?_)
          ·
            have r7214 : R (21) (21) v7203 := ⟨by omega, by omega⟩
            refine r_iinc (k := 3) S dX12_isSaid_88 hl rfl (by decide) (by decide) (fun v7215 d7216 ls z7217 z7218 hl => ?_)
            obtain ⟨e7219, r7220⟩ := i_add (lo := -1) (hi := 38) z7217 r7198 (R_eq z7218) rfl
            have hl : lv_has ls 5 [(2, .int v7215), (4, .int v7187), (0, .ref (G.2.2.2.1 131)), (1, .int a0), (3, .int i7152)] := hl
            refine r_aload_n S dX12_isSaid_91 rfl (lv_at hl 2 rfl) ?_
            refine r_get (K := 38) (v := .ref (G.2.2.2.1 149)) S X7157 (Nat.le_of_ble_eq_true rfl) rfl lk12_87_10 (fun _ => ⟨_, rfl, rfl⟩) dX12_isSaid_92 ?_
            refine r_iload_n S dX12_isSaid_95 rfl (lv_at hl 0 rfl) ?_
            refine r_iconst S dX12_isSaid_96 (by decide) (fun v7221 z7222 => ?_)
            have r7223 := R_eq z7222
            refine r_isub S dX12_isSaid_97 (fun v7224 z7225 => ?_)
            obtain ⟨e7226, r7227⟩ := i_sub (lo := -2) (hi := 37) z7225 r7220 r7223 rfl
            refine r_aload_n S dX12_isSaid_98 rfl (lv_at hl 2 rfl) ?_
            refine r_get (K := 38) (v := .ref (G.2.2.2.1 133)) S X7157 (Nat.le_of_ble_eq_true rfl) rfl lk12_33_10 (fun _ => ⟨_, rfl, rfl⟩) dX12_isSaid_99 ?_
            refine r_iload S dX12_isSaid_102 (lv_at hl 1 rfl) ?_
            refine r_aldn (n := 513) (K := 40) S X7157 (Nat.le_of_ble_eq_true rfl) rfl (fun _ => rfl) (ix_of r7190 rfl) dX12_isSaid_104 (fun v7228 z7229 => ?_)
            have r7231 := R_any v7228
            have g7232 : Rg 40 v7187.toNatClampNeg v7228 := rd I7155 rfl z7229
            have h7233 : v7228 = v7191 := z7229.symm.trans ((rfl).trans z7192)
            have h7234 := congrArg Int32.toInt h7233
            refine r_bipush S dX12_isSaid_105 (by decide) (fun v7235 z7236 => ?_)
            have r7237 := R_eq z7236
            refine r_icmp_ne (tgt := 138) S dX12_isSaid_107 (by decide) (fun c7238 => ?_) (fun c7238 => ?_)
            ·
              refine r_aload_n S dX12_isSaid_138 rfl (lv_at hl 2 rfl) ?_
              refine r_get (K := 38) (v := .ref (G.2.2.2.1 149)) S X7157 (Nat.le_of_ble_eq_true rfl) rfl lk12_87_10 (fun _ => ⟨_, rfl, rfl⟩) dX12_isSaid_139 ?_
              refine r_iload_n S dX12_isSaid_142 rfl (lv_at hl 0 rfl) ?_
              refine r_iconst S dX12_isSaid_143 (by decide) (fun v7239 z7240 => ?_)
              have r7241 := R_eq z7240
              refine r_isub S dX12_isSaid_144 (fun v7242 z7243 => ?_)
              obtain ⟨e7244, r7245⟩ := i_sub (lo := -2) (hi := 37) z7243 r7220 r7241 rfl
              refine r_zald (n := 45) (K := 56) S X7157 (Nat.le_of_ble_eq_true rfl) rfl (fun _ => rfl) (by omega) dX12_isSaid_145 (fun v7246 z7247 => ?_)
              have r7248 : R (0) (1) v7246 := rd I7155 rfl z7247
              refine r_if_ne (tgt := 158) S dX12_isSaid_146 (by decide) (fun c7249 => ?_) (fun c7249 => ?_)
              ·
                have r7250 : R (1) (1) v7246 := ⟨by omega, by omega⟩
                refine r_iconst S dX12_isSaid_158 (by decide) (fun v7251 z7252 => ?_)
                have r7253 := R_eq z7252
                refine r_goto (tgt := 163) S dX12_isSaid_159 (by decide) ?_
                refine r_zast (n := 45) (K := 56) S X7157 (Nat.le_of_ble_eq_true rfl) rfl (fun _ _ => rfl) (by omega) (R_of (lo := 0) (hi := 1) r7253 rfl) dX12_isSaid_163 (fun t7254 H lc M7255 X7256 => ?_)
                have I7257 := Inv_mu I7155 M7255 (show Rg (kd 149) _ v7251 from (R_of (lo := 0) (hi := 1) r7253 rfl))
                have F7258 : Fr [] [149] τ t7254 := Fr_cell F7156 M7255 (by decide)
                refine r_goto (tgt := 206) S dX12_isSaid_164 (by decide) ?_
                refine r_iinc (k := 4) S dX12_isSaid_206 hl rfl (by decide) (by decide) (fun v7259 d7260 ls z7261 z7262 hl => ?_)
                obtain ⟨e7263, r7264⟩ := i_add (lo := 1) (hi := 53) z7261 r7174 (R_eq z7262) rfl
                have hl : lv_has ls 5 [(3, .int v7259), (2, .int v7215), (4, .int v7187), (0, .ref (G.2.2.2.1 131)), (1, .int a0)] := hl
                refine r_goto (tgt := 4) S dX12_isSaid_209 (by decide) ?_
                exact ih7160 t7254 _ _ _ v7215 v7259 X7256 I7257 F7258 (R_of r7220 rfl) (R_of r7264 rfl) (PF_dp (by omega) x7159 (ix := v7187) (by omega) ((F7156 133 v7187.toNatClampNeg (by simp [fz])).symm.trans z7192) (by omega) (by omega)) (lv_sub hl [3, 4, 1, 0] rfl) (by omega)
              ·
                have r7265 : R (0) (0) v7246 := ⟨by omega, by omega⟩
                refine r_aload_n S dX12_isSaid_149 rfl (lv_at hl 2 rfl) ?_
                refine r_get (K := 38) (v := .ref (G.2.2.2.1 149)) S X7157 (Nat.le_of_ble_eq_true rfl) rfl lk12_87_10 (fun _ => ⟨_, rfl, rfl⟩) dX12_isSaid_150 ?_
                refine r_iload_n S dX12_isSaid_153 rfl (lv_at hl 0 rfl) ?_
                refine r_zald (n := 45) (K := 56) S X7157 (Nat.le_of_ble_eq_true rfl) rfl (fun _ => rfl) (by omega) dX12_isSaid_154 (fun v7266 z7267 => ?_)
                have r7268 : R (0) (1) v7266 := rd I7155 rfl z7267
                refine r_if_eq (tgt := 162) S dX12_isSaid_155 (by decide) (fun c7269 => ?_) (fun c7269 => ?_)
                ·
                  have r7270 : R (0) (0) v7266 := ⟨by omega, by omega⟩
                  refine r_iconst S dX12_isSaid_162 (by decide) (fun v7271 z7272 => ?_)
                  have r7273 := R_eq z7272
                  refine r_zast (n := 45) (K := 56) S X7157 (Nat.le_of_ble_eq_true rfl) rfl (fun _ _ => rfl) (by omega) (R_of (lo := 0) (hi := 1) r7273 rfl) dX12_isSaid_163 (fun t7274 H lc M7275 X7276 => ?_)
                  have I7277 := Inv_mu I7155 M7275 (show Rg (kd 149) _ v7271 from (R_of (lo := 0) (hi := 1) r7273 rfl))
                  have F7278 : Fr [] [149] τ t7274 := Fr_cell F7156 M7275 (by decide)
                  refine r_goto (tgt := 206) S dX12_isSaid_164 (by decide) ?_
                  refine r_iinc (k := 4) S dX12_isSaid_206 hl rfl (by decide) (by decide) (fun v7279 d7280 ls z7281 z7282 hl => ?_)
                  obtain ⟨e7283, r7284⟩ := i_add (lo := 1) (hi := 53) z7281 r7174 (R_eq z7282) rfl
                  have hl : lv_has ls 5 [(3, .int v7279), (2, .int v7215), (4, .int v7187), (0, .ref (G.2.2.2.1 131)), (1, .int a0)] := hl
                  refine r_goto (tgt := 4) S dX12_isSaid_209 (by decide) ?_
                  exact ih7160 t7274 _ _ _ v7215 v7279 X7276 I7277 F7278 (R_of r7220 rfl) (R_of r7284 rfl) (PF_dp (by omega) x7159 (ix := v7187) (by omega) ((F7156 133 v7187.toNatClampNeg (by simp [fz])).symm.trans z7192) (by omega) (by omega)) (lv_sub hl [3, 4, 1, 0] rfl) (by omega)
                ·
                  have r7285 : R (1) (1) v7266 := ⟨by omega, by omega⟩
                  refine r_iconst S dX12_isSaid_158 (by decide) (fun v7286 z7287 => ?_)
                  have r7288 := R_eq z7287
                  refine r_goto (tgt := 163) S dX12_isSaid_159 (by decide) ?_
                  refine r_zast (n := 45) (K := 56) S X7157 (Nat.le_of_ble_eq_true rfl) rfl (fun _ _ => rfl) (by omega) (R_of (lo := 0) (hi := 1) r7288 rfl) dX12_isSaid_163 (fun t7289 H lc M7290 X7291 => ?_)
                  have I7292 := Inv_mu I7155 M7290 (show Rg (kd 149) _ v7286 from (R_of (lo := 0) (hi := 1) r7288 rfl))
                  have F7293 : Fr [] [149] τ t7289 := Fr_cell F7156 M7290 (by decide)
                  refine r_goto (tgt := 206) S dX12_isSaid_164 (by decide) ?_
                  refine r_iinc (k := 4) S dX12_isSaid_206 hl rfl (by decide) (by decide) (fun v7294 d7295 ls z7296 z7297 hl => ?_)
                  obtain ⟨e7298, r7299⟩ := i_add (lo := 1) (hi := 53) z7296 r7174 (R_eq z7297) rfl
                  have hl : lv_has ls 5 [(3, .int v7294), (2, .int v7215), (4, .int v7187), (0, .ref (G.2.2.2.1 131)), (1, .int a0)] := hl
                  refine r_goto (tgt := 4) S dX12_isSaid_209 (by decide) ?_
                  exact ih7160 t7289 _ _ _ v7215 v7294 X7291 I7292 F7293 (R_of r7220 rfl) (R_of r7299 rfl) (PF_dp (by omega) x7159 (ix := v7187) (by omega) ((F7156 133 v7187.toNatClampNeg (by simp [fz])).symm.trans z7192) (by omega) (by omega)) (lv_sub hl [3, 4, 1, 0] rfl) (by omega)
            ·
              have r7300 : R (21) (21) v7228 := ⟨by omega, by omega⟩
              refine r_aload_n S dX12_isSaid_110 rfl (lv_at hl 2 rfl) ?_
              refine r_get (K := 38) (v := .ref (G.2.2.2.1 149)) S X7157 (Nat.le_of_ble_eq_true rfl) rfl lk12_87_10 (fun _ => ⟨_, rfl, rfl⟩) dX12_isSaid_111 ?_
              refine r_iload_n S dX12_isSaid_114 rfl (lv_at hl 0 rfl) ?_
              refine r_iconst S dX12_isSaid_115 (by decide) (fun v7301 z7302 => ?_)
              have r7303 := R_eq z7302
              refine r_isub S dX12_isSaid_116 (fun v7304 z7305 => ?_)
              obtain ⟨e7306, r7307⟩ := i_sub (lo := -2) (hi := 37) z7305 r7220 r7303 rfl
              refine r_zald (n := 45) (K := 56) S X7157 (Nat.le_of_ble_eq_true rfl) rfl (fun _ => rfl) (by omega) dX12_isSaid_117 (fun v7308 z7309 => ?_)
              have r7310 : R (0) (1) v7308 := rd I7155 rfl z7309
              refine r_if_eq (tgt := 134) S dX12_isSaid_118 (by decide) (fun c7311 => ?_) (fun c7311 => ?_)
              ·
                have r7312 : R (0) (0) v7308 := ⟨by omega, by omega⟩
                refine r_iconst S dX12_isSaid_134 (by decide) (fun v7313 z7314 => ?_)
                have r7315 := R_eq z7314
                refine r_goto (tgt := 163) S dX12_isSaid_135 (by decide) ?_
                refine r_zast (n := 45) (K := 56) S X7157 (Nat.le_of_ble_eq_true rfl) rfl (fun _ _ => rfl) (by omega) (R_of (lo := 0) (hi := 1) r7315 rfl) dX12_isSaid_163 (fun t7316 H lc M7317 X7318 => ?_)
                have I7319 := Inv_mu I7155 M7317 (show Rg (kd 149) _ v7313 from (R_of (lo := 0) (hi := 1) r7315 rfl))
                have F7320 : Fr [] [149] τ t7316 := Fr_cell F7156 M7317 (by decide)
                refine r_goto (tgt := 206) S dX12_isSaid_164 (by decide) ?_
                refine r_iinc (k := 4) S dX12_isSaid_206 hl rfl (by decide) (by decide) (fun v7321 d7322 ls z7323 z7324 hl => ?_)
                obtain ⟨e7325, r7326⟩ := i_add (lo := 1) (hi := 53) z7323 r7174 (R_eq z7324) rfl
                have hl : lv_has ls 5 [(3, .int v7321), (2, .int v7215), (4, .int v7187), (0, .ref (G.2.2.2.1 131)), (1, .int a0)] := hl
                refine r_goto (tgt := 4) S dX12_isSaid_209 (by decide) ?_
                exact ih7160 t7316 _ _ _ v7215 v7321 X7318 I7319 F7320 (R_of r7220 rfl) (R_of r7326 rfl) (PF_dp (by omega) x7159 (ix := v7187) (by omega) ((F7156 133 v7187.toNatClampNeg (by simp [fz])).symm.trans z7192) (by omega) (by omega)) (lv_sub hl [3, 4, 1, 0] rfl) (by omega)
              ·
                have r7327 : R (1) (1) v7308 := ⟨by omega, by omega⟩
                refine r_aload_n S dX12_isSaid_121 rfl (lv_at hl 2 rfl) ?_
                refine r_get (K := 38) (v := .ref (G.2.2.2.1 149)) S X7157 (Nat.le_of_ble_eq_true rfl) rfl lk12_87_10 (fun _ => ⟨_, rfl, rfl⟩) dX12_isSaid_122 ?_
                refine r_iload_n S dX12_isSaid_125 rfl (lv_at hl 0 rfl) ?_
                refine r_zald (n := 45) (K := 56) S X7157 (Nat.le_of_ble_eq_true rfl) rfl (fun _ => rfl) (by omega) dX12_isSaid_126 (fun v7328 z7329 => ?_)
                have r7330 : R (0) (1) v7328 := rd I7155 rfl z7329
                refine r_if_eq (tgt := 134) S dX12_isSaid_127 (by decide) (fun c7331 => ?_) (fun c7331 => ?_)
                ·
                  have r7332 : R (0) (0) v7328 := ⟨by omega, by omega⟩
                  refine r_iconst S dX12_isSaid_134 (by decide) (fun v7333 z7334 => ?_)
                  have r7335 := R_eq z7334
                  refine r_goto (tgt := 163) S dX12_isSaid_135 (by decide) ?_
                  refine r_zast (n := 45) (K := 56) S X7157 (Nat.le_of_ble_eq_true rfl) rfl (fun _ _ => rfl) (by omega) (R_of (lo := 0) (hi := 1) r7335 rfl) dX12_isSaid_163 (fun t7336 H lc M7337 X7338 => ?_)
                  have I7339 := Inv_mu I7155 M7337 (show Rg (kd 149) _ v7333 from (R_of (lo := 0) (hi := 1) r7335 rfl))
                  have F7340 : Fr [] [149] τ t7336 := Fr_cell F7156 M7337 (by decide)
                  refine r_goto (tgt := 206) S dX12_isSaid_164 (by decide) ?_
                  refine r_iinc (k := 4) S dX12_isSaid_206 hl rfl (by decide) (by decide) (fun v7341 d7342 ls z7343 z7344 hl => ?_)
                  obtain ⟨e7345, r7346⟩ := i_add (lo := 1) (hi := 53) z7343 r7174 (R_eq z7344) rfl
                  have hl : lv_has ls 5 [(3, .int v7341), (2, .int v7215), (4, .int v7187), (0, .ref (G.2.2.2.1 131)), (1, .int a0)] := hl
                  refine r_goto (tgt := 4) S dX12_isSaid_209 (by decide) ?_
                  exact ih7160 t7336 _ _ _ v7215 v7341 X7338 I7339 F7340 (R_of r7220 rfl) (R_of r7346 rfl) (PF_dp (by omega) x7159 (ix := v7187) (by omega) ((F7156 133 v7187.toNatClampNeg (by simp [fz])).symm.trans z7192) (by omega) (by omega)) (lv_sub hl [3, 4, 1, 0] rfl) (by omega)
                ·
                  have r7347 : R (1) (1) v7328 := ⟨by omega, by omega⟩
                  refine r_iconst S dX12_isSaid_130 (by decide) (fun v7348 z7349 => ?_)
                  have r7350 := R_eq z7349
                  refine r_goto (tgt := 163) S dX12_isSaid_131 (by decide) ?_
                  refine r_zast (n := 45) (K := 56) S X7157 (Nat.le_of_ble_eq_true rfl) rfl (fun _ _ => rfl) (by omega) (R_of (lo := 0) (hi := 1) r7350 rfl) dX12_isSaid_163 (fun t7351 H lc M7352 X7353 => ?_)
                  have I7354 := Inv_mu I7155 M7352 (show Rg (kd 149) _ v7348 from (R_of (lo := 0) (hi := 1) r7350 rfl))
                  have F7355 : Fr [] [149] τ t7351 := Fr_cell F7156 M7352 (by decide)
                  refine r_goto (tgt := 206) S dX12_isSaid_164 (by decide) ?_
                  refine r_iinc (k := 4) S dX12_isSaid_206 hl rfl (by decide) (by decide) (fun v7356 d7357 ls z7358 z7359 hl => ?_)
                  obtain ⟨e7360, r7361⟩ := i_add (lo := 1) (hi := 53) z7358 r7174 (R_eq z7359) rfl
                  have hl : lv_has ls 5 [(3, .int v7356), (2, .int v7215), (4, .int v7187), (0, .ref (G.2.2.2.1 131)), (1, .int a0)] := hl
                  refine r_goto (tgt := 4) S dX12_isSaid_209 (by decide) ?_
                  exact ih7160 t7351 _ _ _ v7215 v7356 X7353 I7354 F7355 (R_of r7220 rfl) (R_of r7361 rfl) (PF_dp (by omega) x7159 (ix := v7187) (by omega) ((F7156 133 v7187.toNatClampNeg (by simp [fz])).symm.trans z7192) (by omega) (by omega)) (lv_sub hl [3, 4, 1, 0] rfl) (by omega)
          ·
            refine r_aload_n S dX12_isSaid_76 rfl (lv_at hl 1 rfl) ?_
            refine r_get (K := 38) (v := .ref (G.2.2.2.1 133)) S X7157 (Nat.le_of_ble_eq_true rfl) rfl lk12_33_10 (fun _ => ⟨_, rfl, rfl⟩) dX12_isSaid_77 ?_
            refine r_iload S dX12_isSaid_80 (lv_at hl 0 rfl) ?_
            refine r_aldn (n := 513) (K := 40) S X7157 (Nat.le_of_ble_eq_true rfl) rfl (fun _ => rfl) (ix_of r7190 rfl) dX12_isSaid_82 (fun v7362 z7363 => ?_)
            have r7365 := R_any v7362
            have g7366 : Rg 40 v7187.toNatClampNeg v7362 := rd I7155 rfl z7363
            have h7367 : v7362 = v7191 := z7363.symm.trans ((rfl).trans z7192)
            have h7368 := congrArg Int32.toInt h7367
            refine r_bipush S dX12_isSaid_83 (by decide) (fun v7369 z7370 => ?_)
            have r7371 := R_eq z7370
            refine r_icmp_ne (tgt := 167) S dX12_isSaid_85 (by decide) (fun c7372 => ?_) (fun c7372 => ?_)
            ·
              refine r_aload_n S dX12_isSaid_167 rfl (lv_at hl 1 rfl) ?_
              refine r_get (K := 38) (v := .ref (G.2.2.2.1 149)) S X7157 (Nat.le_of_ble_eq_true rfl) rfl lk12_87_10 (fun _ => ⟨_, rfl, rfl⟩) dX12_isSaid_168 ?_
              refine r_iload_n S dX12_isSaid_171 rfl (lv_at hl 3 rfl) ?_
              refine r_aload_n S dX12_isSaid_172 rfl (lv_at hl 1 rfl) ?_
              refine r_iload_n S dX12_isSaid_173 rfl (lv_at hl 2 rfl) ?_
              refine r_aload_n S dX12_isSaid_174 rfl (lv_at hl 1 rfl) ?_
              refine r_get (K := 38) (v := .ref (G.2.2.2.1 133)) S X7157 (Nat.le_of_ble_eq_true rfl) rfl lk12_33_10 (fun _ => ⟨_, rfl, rfl⟩) dX12_isSaid_175 ?_
              refine r_iload S dX12_isSaid_178 (lv_at hl 0 rfl) ?_
              refine r_aldn (n := 513) (K := 40) S X7157 (Nat.le_of_ble_eq_true rfl) rfl (fun _ => rfl) (ix_of r7190 rfl) dX12_isSaid_180 (fun v7373 z7374 => ?_)
              have r7376 := R_any v7373
              have g7377 : Rg 40 v7187.toNatClampNeg v7373 := rd I7155 rfl z7374
              have h7378 : v7373 = v7191 := z7374.symm.trans ((rfl).trans z7192)
              have h7379 := congrArg Int32.toInt h7378
              refine r_aload_n S dX12_isSaid_181 rfl (lv_at hl 1 rfl) ?_
              refine r_get (K := 38) (v := .ref (G.2.2.2.1 133)) S X7157 (Nat.le_of_ble_eq_true rfl) rfl lk12_33_10 (fun _ => ⟨_, rfl, rfl⟩) dX12_isSaid_182 ?_
              refine r_iload S dX12_isSaid_185 (lv_at hl 0 rfl) ?_
              refine r_iconst S dX12_isSaid_187 (by decide) (fun v7380 z7381 => ?_)
              have r7382 := R_eq z7381
              refine r_iadd S dX12_isSaid_188 (fun v7383 z7384 => ?_)
              obtain ⟨e7385, r7386⟩ := i_add (lo := 334) (hi := 490) z7384 r7190 r7382 rfl
              refine r_aldn (n := 513) (K := 40) S X7157 (Nat.le_of_ble_eq_true rfl) rfl (fun _ => rfl) (ix_of r7386 rfl) dX12_isSaid_189 (fun v7387 z7388 => ?_)
              have r7390 := R_any v7387
              have g7391 : Rg 40 v7383.toNatClampNeg v7387 := rd I7155 rfl z7388
              refine r_aload_n S dX12_isSaid_190 rfl (lv_at hl 1 rfl) ?_
              refine r_get (K := 38) (v := .ref (G.2.2.2.1 133)) S X7157 (Nat.le_of_ble_eq_true rfl) rfl lk12_33_10 (fun _ => ⟨_, rfl, rfl⟩) dX12_isSaid_191 ?_
              refine r_iload S dX12_isSaid_194 (lv_at hl 0 rfl) ?_
              refine r_iconst S dX12_isSaid_196 (by decide) (fun v7392 z7393 => ?_)
              have r7394 := R_eq z7393
              refine r_iadd S dX12_isSaid_197 (fun v7395 z7396 => ?_)
              obtain ⟨e7397, r7398⟩ := i_add (lo := 335) (hi := 491) z7396 r7190 r7394 rfl
              refine r_aldn (n := 513) (K := 40) S X7157 (Nat.le_of_ble_eq_true rfl) rfl (fun _ => rfl) (ix_of r7398 rfl) dX12_isSaid_198 (fun v7399 z7400 => ?_)
              have r7402 := R_any v7399
              have g7403 : Rg 40 v7395.toNatClampNeg v7399 := rd I7155 rfl z7400
              refine r_ki (q_V (As := [.int a0, .int v7373, .int v7387, .int v7399]) (rest := [.int i7150, .ref (G.2.2.2.1 149)]) (K := 38) (ci := 10) S X7157 (c_X12_isLeaf l G t7154 I7155 a0 v7373 v7387 v7399 h_a0 r7376 r7390 r7402 (PF_leaf hp_0 (i := i7152) (by omega) ((F7156 133 332 (by simp [fz])).symm.trans (zc (n := 332) (by omega) z7165)) (by omega) (ix := v7187) (by omega) ((F7156 133 v7187.toNatClampNeg (by simp [fz])).symm.trans z7374) (by omega) ((F7156 133 v7395.toNatClampNeg (by simp [fz])).symm.trans z7400))) ck12_437 (Nat.le_of_ble_eq_true rfl) rfl (fun _ => ⟨_, rfl⟩) ⟨_, _, rfl⟩ ⟨Nat.le_of_ble_eq_true rfl, Nat.le_of_ble_eq_true rfl⟩ rfl hl.1 rfl (Nat.le_of_ble_eq_true rfl) dX12_isSaid_199 ⟨Nat.le_refl 0, Nat.le_refl 0⟩) X7157 (fun v7407 t7406 H lc q7404 X7405 => ?_)
              unfold po_X12_isLeaf at q7404
              obtain ⟨q7408, q7409⟩ := q7404
              rw [q7408] at X7405
              refine r_zast (n := 45) (K := 56) S X7405 (Nat.le_of_ble_eq_true rfl) rfl (fun _ _ => rfl) (ix_of r7198 rfl) (R_of (lo := 0) (hi := 1) q7409 rfl) dX12_isSaid_202 (fun t7410 H lc M7411 X7412 => ?_)
              have I7413 := Inv_mu I7155 M7411 (show Rg (kd 149) _ v7407 from (R_of (lo := 0) (hi := 1) q7409 rfl))
              have F7414 : Fr [] [149] τ t7410 := Fr_cell F7156 M7411 (by decide)
              refine r_iinc (k := 3) S dX12_isSaid_203 hl rfl (by decide) (by decide) (fun v7415 d7416 ls z7417 z7418 hl => ?_)
              obtain ⟨e7419, r7420⟩ := i_add (lo := 1) (hi := 40) z7417 r7198 (R_eq z7418) rfl
              have hl : lv_has ls 5 [(2, .int v7415), (4, .int v7187), (0, .ref (G.2.2.2.1 131)), (1, .int a0), (3, .int i7152)] := hl
              refine r_iinc (k := 4) S dX12_isSaid_206 hl rfl (by decide) (by decide) (fun v7421 d7422 ls z7423 z7424 hl => ?_)
              obtain ⟨e7425, r7426⟩ := i_add (lo := 1) (hi := 53) z7423 r7174 (R_eq z7424) rfl
              have hl : lv_has ls 5 [(3, .int v7421), (2, .int v7415), (4, .int v7187), (0, .ref (G.2.2.2.1 131)), (1, .int a0)] := hl
              refine r_goto (tgt := 4) S dX12_isSaid_209 (by decide) ?_
              exact ih7160 t7410 _ _ _ v7415 v7421 X7412 I7413 F7414 (R_of r7420 rfl) (R_of r7426 rfl) (PF_dp (by omega) x7159 (ix := v7187) (by omega) ((F7156 133 v7187.toNatClampNeg (by simp [fz])).symm.trans z7192) (by omega) (by omega)) (lv_sub hl [3, 4, 1, 0] rfl) (by omega)
            ·
              have r7427 : R (22) (22) v7362 := ⟨by omega, by omega⟩
              refine r_iinc (k := 3) S dX12_isSaid_88 hl rfl (by decide) (by decide) (fun v7428 d7429 ls z7430 z7431 hl => ?_)
              obtain ⟨e7432, r7433⟩ := i_add (lo := -1) (hi := 38) z7430 r7198 (R_eq z7431) rfl
              have hl : lv_has ls 5 [(2, .int v7428), (4, .int v7187), (0, .ref (G.2.2.2.1 131)), (1, .int a0), (3, .int i7152)] := hl
              refine r_aload_n S dX12_isSaid_91 rfl (lv_at hl 2 rfl) ?_
              refine r_get (K := 38) (v := .ref (G.2.2.2.1 149)) S X7157 (Nat.le_of_ble_eq_true rfl) rfl lk12_87_10 (fun _ => ⟨_, rfl, rfl⟩) dX12_isSaid_92 ?_
              refine r_iload_n S dX12_isSaid_95 rfl (lv_at hl 0 rfl) ?_
              refine r_iconst S dX12_isSaid_96 (by decide) (fun v7434 z7435 => ?_)
              have r7436 := R_eq z7435
              refine r_isub S dX12_isSaid_97 (fun v7437 z7438 => ?_)
              obtain ⟨e7439, r7440⟩ := i_sub (lo := -2) (hi := 37) z7438 r7433 r7436 rfl
              refine r_aload_n S dX12_isSaid_98 rfl (lv_at hl 2 rfl) ?_
              refine r_get (K := 38) (v := .ref (G.2.2.2.1 133)) S X7157 (Nat.le_of_ble_eq_true rfl) rfl lk12_33_10 (fun _ => ⟨_, rfl, rfl⟩) dX12_isSaid_99 ?_
              refine r_iload S dX12_isSaid_102 (lv_at hl 1 rfl) ?_
              refine r_aldn (n := 513) (K := 40) S X7157 (Nat.le_of_ble_eq_true rfl) rfl (fun _ => rfl) (ix_of r7190 rfl) dX12_isSaid_104 (fun v7441 z7442 => ?_)
              have r7444 := R_any v7441
              have g7445 : Rg 40 v7187.toNatClampNeg v7441 := rd I7155 rfl z7442
              have h7446 : v7441 = v7191 := z7442.symm.trans ((rfl).trans z7192)
              have h7447 := congrArg Int32.toInt h7446
              refine r_bipush S dX12_isSaid_105 (by decide) (fun v7448 z7449 => ?_)
              have r7450 := R_eq z7449
              refine r_icmp_ne (tgt := 138) S dX12_isSaid_107 (by decide) (fun c7451 => ?_) (fun c7451 => ?_)
              ·
                refine r_aload_n S dX12_isSaid_138 rfl (lv_at hl 2 rfl) ?_
                refine r_get (K := 38) (v := .ref (G.2.2.2.1 149)) S X7157 (Nat.le_of_ble_eq_true rfl) rfl lk12_87_10 (fun _ => ⟨_, rfl, rfl⟩) dX12_isSaid_139 ?_
                refine r_iload_n S dX12_isSaid_142 rfl (lv_at hl 0 rfl) ?_
                refine r_iconst S dX12_isSaid_143 (by decide) (fun v7452 z7453 => ?_)
                have r7454 := R_eq z7453
                refine r_isub S dX12_isSaid_144 (fun v7455 z7456 => ?_)
                obtain ⟨e7457, r7458⟩ := i_sub (lo := -2) (hi := 37) z7456 r7433 r7454 rfl
                refine r_zald (n := 45) (K := 56) S X7157 (Nat.le_of_ble_eq_true rfl) rfl (fun _ => rfl) (by omega) dX12_isSaid_145 (fun v7459 z7460 => ?_)
                have r7461 : R (0) (1) v7459 := rd I7155 rfl z7460
                refine r_if_ne (tgt := 158) S dX12_isSaid_146 (by decide) (fun c7462 => ?_) (fun c7462 => ?_)
                ·
                  have r7463 : R (1) (1) v7459 := ⟨by omega, by omega⟩
                  refine r_iconst S dX12_isSaid_158 (by decide) (fun v7464 z7465 => ?_)
                  have r7466 := R_eq z7465
                  refine r_goto (tgt := 163) S dX12_isSaid_159 (by decide) ?_
                  refine r_zast (n := 45) (K := 56) S X7157 (Nat.le_of_ble_eq_true rfl) rfl (fun _ _ => rfl) (by omega) (R_of (lo := 0) (hi := 1) r7466 rfl) dX12_isSaid_163 (fun t7467 H lc M7468 X7469 => ?_)
                  have I7470 := Inv_mu I7155 M7468 (show Rg (kd 149) _ v7464 from (R_of (lo := 0) (hi := 1) r7466 rfl))
                  have F7471 : Fr [] [149] τ t7467 := Fr_cell F7156 M7468 (by decide)
                  refine r_goto (tgt := 206) S dX12_isSaid_164 (by decide) ?_
                  refine r_iinc (k := 4) S dX12_isSaid_206 hl rfl (by decide) (by decide) (fun v7472 d7473 ls z7474 z7475 hl => ?_)
                  obtain ⟨e7476, r7477⟩ := i_add (lo := 1) (hi := 53) z7474 r7174 (R_eq z7475) rfl
                  have hl : lv_has ls 5 [(3, .int v7472), (2, .int v7428), (4, .int v7187), (0, .ref (G.2.2.2.1 131)), (1, .int a0)] := hl
                  refine r_goto (tgt := 4) S dX12_isSaid_209 (by decide) ?_
                  exact ih7160 t7467 _ _ _ v7428 v7472 X7469 I7470 F7471 (R_of r7433 rfl) (R_of r7477 rfl) (PF_dp (by omega) x7159 (ix := v7187) (by omega) ((F7156 133 v7187.toNatClampNeg (by simp [fz])).symm.trans z7192) (by omega) (by omega)) (lv_sub hl [3, 4, 1, 0] rfl) (by omega)
                ·
                  have r7478 : R (0) (0) v7459 := ⟨by omega, by omega⟩
                  refine r_aload_n S dX12_isSaid_149 rfl (lv_at hl 2 rfl) ?_
                  refine r_get (K := 38) (v := .ref (G.2.2.2.1 149)) S X7157 (Nat.le_of_ble_eq_true rfl) rfl lk12_87_10 (fun _ => ⟨_, rfl, rfl⟩) dX12_isSaid_150 ?_
                  refine r_iload_n S dX12_isSaid_153 rfl (lv_at hl 0 rfl) ?_
                  refine r_zald (n := 45) (K := 56) S X7157 (Nat.le_of_ble_eq_true rfl) rfl (fun _ => rfl) (by omega) dX12_isSaid_154 (fun v7479 z7480 => ?_)
                  have r7481 : R (0) (1) v7479 := rd I7155 rfl z7480
                  refine r_if_eq (tgt := 162) S dX12_isSaid_155 (by decide) (fun c7482 => ?_) (fun c7482 => ?_)
                  ·
                    have r7483 : R (0) (0) v7479 := ⟨by omega, by omega⟩
                    refine r_iconst S dX12_isSaid_162 (by decide) (fun v7484 z7485 => ?_)
                    have r7486 := R_eq z7485
                    refine r_zast (n := 45) (K := 56) S X7157 (Nat.le_of_ble_eq_true rfl) rfl (fun _ _ => rfl) (by omega) (R_of (lo := 0) (hi := 1) r7486 rfl) dX12_isSaid_163 (fun t7487 H lc M7488 X7489 => ?_)
                    have I7490 := Inv_mu I7155 M7488 (show Rg (kd 149) _ v7484 from (R_of (lo := 0) (hi := 1) r7486 rfl))
                    have F7491 : Fr [] [149] τ t7487 := Fr_cell F7156 M7488 (by decide)
                    refine r_goto (tgt := 206) S dX12_isSaid_164 (by decide) ?_
                    refine r_iinc (k := 4) S dX12_isSaid_206 hl rfl (by decide) (by decide) (fun v7492 d7493 ls z7494 z7495 hl => ?_)
                    obtain ⟨e7496, r7497⟩ := i_add (lo := 1) (hi := 53) z7494 r7174 (R_eq z7495) rfl
                    have hl : lv_has ls 5 [(3, .int v7492), (2, .int v7428), (4, .int v7187), (0, .ref (G.2.2.2.1 131)), (1, .int a0)] := hl
                    refine r_goto (tgt := 4) S dX12_isSaid_209 (by decide) ?_
                    exact ih7160 t7487 _ _ _ v7428 v7492 X7489 I7490 F7491 (R_of r7433 rfl) (R_of r7497 rfl) (PF_dp (by omega) x7159 (ix := v7187) (by omega) ((F7156 133 v7187.toNatClampNeg (by simp [fz])).symm.trans z7192) (by omega) (by omega)) (lv_sub hl [3, 4, 1, 0] rfl) (by omega)
                  ·
                    have r7498 : R (1) (1) v7479 := ⟨by omega, by omega⟩
                    refine r_iconst S dX12_isSaid_158 (by decide) (fun v7499 z7500 => ?_)
                    have r7501 := R_eq z7500
                    refine r_goto (tgt := 163) S dX12_isSaid_159 (by decide) ?_
                    refine r_zast (n := 45) (K := 56) S X7157 (Nat.le_of_ble_eq_true rfl) rfl (fun _ _ => rfl) (by omega) (R_of (lo := 0) (hi := 1) r7501 rfl) dX12_isSaid_163 (fun t7502 H lc M7503 X7504 => ?_)
                    have I7505 := Inv_mu I7155 M7503 (show Rg (kd 149) _ v7499 from (R_of (lo := 0) (hi := 1) r7501 rfl))
                    have F7506 : Fr [] [149] τ t7502 := Fr_cell F7156 M7503 (by decide)
                    refine r_goto (tgt := 206) S dX12_isSaid_164 (by decide) ?_
                    refine r_iinc (k := 4) S dX12_isSaid_206 hl rfl (by decide) (by decide) (fun v7507 d7508 ls z7509 z7510 hl => ?_)
                    obtain ⟨e7511, r7512⟩ := i_add (lo := 1) (hi := 53) z7509 r7174 (R_eq z7510) rfl
                    have hl : lv_has ls 5 [(3, .int v7507), (2, .int v7428), (4, .int v7187), (0, .ref (G.2.2.2.1 131)), (1, .int a0)] := hl
                    refine r_goto (tgt := 4) S dX12_isSaid_209 (by decide) ?_
                    exact ih7160 t7502 _ _ _ v7428 v7507 X7504 I7505 F7506 (R_of r7433 rfl) (R_of r7512 rfl) (PF_dp (by omega) x7159 (ix := v7187) (by omega) ((F7156 133 v7187.toNatClampNeg (by simp [fz])).symm.trans z7192) (by omega) (by omega)) (lv_sub hl [3, 4, 1, 0] rfl) (by omega)
              ·
                have r7513 : R (21) (21) v7441 := ⟨by omega, by omega⟩
                refine r_aload_n S dX12_isSaid_110 rfl (lv_at hl 2 rfl) ?_
                refine r_get (K := 38) (v := .ref (G.2.2.2.1 149)) S X7157 (Nat.le_of_ble_eq_true rfl) rfl lk12_87_10 (fun _ => ⟨_, rfl, rfl⟩) dX12_isSaid_111 ?_
                refine r_iload_n S dX12_isSaid_114 rfl (lv_at hl 0 rfl) ?_
                refine r_iconst S dX12_isSaid_115 (by decide) (fun v7514 z7515 => ?_)
                have r7516 := R_eq z7515
                refine r_isub S dX12_isSaid_116 (fun v7517 z7518 => ?_)
                obtain ⟨e7519, r7520⟩ := i_sub (lo := -2) (hi := 37) z7518 r7433 r7516 rfl
                refine r_zald (n := 45) (K := 56) S X7157 (Nat.le_of_ble_eq_true rfl) rfl (fun _ => rfl) (by omega) dX12_isSaid_117 (fun v7521 z7522 => ?_)
                have r7523 : R (0) (1) v7521 := rd I7155 rfl z7522
                refine r_if_eq (tgt := 134) S dX12_isSaid_118 (by decide) (fun c7524 => ?_) (fun c7524 => ?_)
                ·
                  have r7525 : R (0) (0) v7521 := ⟨by omega, by omega⟩
                  refine r_iconst S dX12_isSaid_134 (by decide) (fun v7526 z7527 => ?_)
                  have r7528 := R_eq z7527
                  refine r_goto (tgt := 163) S dX12_isSaid_135 (by decide) ?_
                  refine r_zast (n := 45) (K := 56) S X7157 (Nat.le_of_ble_eq_true rfl) rfl (fun _ _ => rfl) (by omega) (R_of (lo := 0) (hi := 1) r7528 rfl) dX12_isSaid_163 (fun t7529 H lc M7530 X7531 => ?_)
                  have I7532 := Inv_mu I7155 M7530 (show Rg (kd 149) _ v7526 from (R_of (lo := 0) (hi := 1) r7528 rfl))
                  have F7533 : Fr [] [149] τ t7529 := Fr_cell F7156 M7530 (by decide)
                  refine r_goto (tgt := 206) S dX12_isSaid_164 (by decide) ?_
                  refine r_iinc (k := 4) S dX12_isSaid_206 hl rfl (by decide) (by decide) (fun v7534 d7535 ls z7536 z7537 hl => ?_)
                  obtain ⟨e7538, r7539⟩ := i_add (lo := 1) (hi := 53) z7536 r7174 (R_eq z7537) rfl
                  have hl : lv_has ls 5 [(3, .int v7534), (2, .int v7428), (4, .int v7187), (0, .ref (G.2.2.2.1 131)), (1, .int a0)] := hl
                  refine r_goto (tgt := 4) S dX12_isSaid_209 (by decide) ?_
                  exact ih7160 t7529 _ _ _ v7428 v7534 X7531 I7532 F7533 (R_of r7433 rfl) (R_of r7539 rfl) (PF_dp (by omega) x7159 (ix := v7187) (by omega) ((F7156 133 v7187.toNatClampNeg (by simp [fz])).symm.trans z7192) (by omega) (by omega)) (lv_sub hl [3, 4, 1, 0] rfl) (by omega)
                ·
                  have r7540 : R (1) (1) v7521 := ⟨by omega, by omega⟩
                  refine r_aload_n S dX12_isSaid_121 rfl (lv_at hl 2 rfl) ?_
                  refine r_get (K := 38) (v := .ref (G.2.2.2.1 149)) S X7157 (Nat.le_of_ble_eq_true rfl) rfl lk12_87_10 (fun _ => ⟨_, rfl, rfl⟩) dX12_isSaid_122 ?_
                  refine r_iload_n S dX12_isSaid_125 rfl (lv_at hl 0 rfl) ?_
                  refine r_zald (n := 45) (K := 56) S X7157 (Nat.le_of_ble_eq_true rfl) rfl (fun _ => rfl) (by omega) dX12_isSaid_126 (fun v7541 z7542 => ?_)
                  have r7543 : R (0) (1) v7541 := rd I7155 rfl z7542
                  refine r_if_eq (tgt := 134) S dX12_isSaid_127 (by decide) (fun c7544 => ?_) (fun c7544 => ?_)
                  ·
                    have r7545 : R (0) (0) v7541 := ⟨by omega, by omega⟩
                    refine r_iconst S dX12_isSaid_134 (by decide) (fun v7546 z7547 => ?_)
                    have r7548 := R_eq z7547
                    refine r_goto (tgt := 163) S dX12_isSaid_135 (by decide) ?_
                    refine r_zast (n := 45) (K := 56) S X7157 (Nat.le_of_ble_eq_true rfl) rfl (fun _ _ => rfl) (by omega) (R_of (lo := 0) (hi := 1) r7548 rfl) dX12_isSaid_163 (fun t7549 H lc M7550 X7551 => ?_)
                    have I7552 := Inv_mu I7155 M7550 (show Rg (kd 149) _ v7546 from (R_of (lo := 0) (hi := 1) r7548 rfl))
                    have F7553 : Fr [] [149] τ t7549 := Fr_cell F7156 M7550 (by decide)
                    refine r_goto (tgt := 206) S dX12_isSaid_164 (by decide) ?_
                    refine r_iinc (k := 4) S dX12_isSaid_206 hl rfl (by decide) (by decide) (fun v7554 d7555 ls z7556 z7557 hl => ?_)
                    obtain ⟨e7558, r7559⟩ := i_add (lo := 1) (hi := 53) z7556 r7174 (R_eq z7557) rfl
                    have hl : lv_has ls 5 [(3, .int v7554), (2, .int v7428), (4, .int v7187), (0, .ref (G.2.2.2.1 131)), (1, .int a0)] := hl
                    refine r_goto (tgt := 4) S dX12_isSaid_209 (by decide) ?_
                    exact ih7160 t7549 _ _ _ v7428 v7554 X7551 I7552 F7553 (R_of r7433 rfl) (R_of r7559 rfl) (PF_dp (by omega) x7159 (ix := v7187) (by omega) ((F7156 133 v7187.toNatClampNeg (by simp [fz])).symm.trans z7192) (by omega) (by omega)) (lv_sub hl [3, 4, 1, 0] rfl) (by omega)
                  ·
                    have r7560 : R (1) (1) v7541 := ⟨by omega, by omega⟩
                    refine r_iconst S dX12_isSaid_130 (by decide) (fun v7561 z7562 => ?_)
                    have r7563 := R_eq z7562
                    refine r_goto (tgt := 163) S dX12_isSaid_131 (by decide) ?_
                    refine r_zast (n := 45) (K := 56) S X7157 (Nat.le_of_ble_eq_true rfl) rfl (fun _ _ => rfl) (by omega) (R_of (lo := 0) (hi := 1) r7563 rfl) dX12_isSaid_163 (fun t7564 H lc M7565 X7566 => ?_)
                    have I7567 := Inv_mu I7155 M7565 (show Rg (kd 149) _ v7561 from (R_of (lo := 0) (hi := 1) r7563 rfl))
                    have F7568 : Fr [] [149] τ t7564 := Fr_cell F7156 M7565 (by decide)
                    refine r_goto (tgt := 206) S dX12_isSaid_164 (by decide) ?_
                    refine r_iinc (k := 4) S dX12_isSaid_206 hl rfl (by decide) (by decide) (fun v7569 d7570 ls z7571 z7572 hl => ?_)
                    obtain ⟨e7573, r7574⟩ := i_add (lo := 1) (hi := 53) z7571 r7174 (R_eq z7572) rfl
                    have hl : lv_has ls 5 [(3, .int v7569), (2, .int v7428), (4, .int v7187), (0, .ref (G.2.2.2.1 131)), (1, .int a0)] := hl
                    refine r_goto (tgt := 4) S dX12_isSaid_209 (by decide) ?_
                    exact ih7160 t7564 _ _ _ v7428 v7569 X7566 I7567 F7568 (R_of r7433 rfl) (R_of r7574 rfl) (PF_dp (by omega) x7159 (ix := v7187) (by omega) ((F7156 133 v7187.toNatClampNeg (by simp [fz])).symm.trans z7192) (by omega) (by omega)) (lv_sub hl [3, 4, 1, 0] rfl) (by omega)
        ·
          have r7575 : R (20) (20) v7191 := ⟨by omega, by omega⟩
          refine r_aload_n S dX12_isSaid_37 rfl (lv_at hl 1 rfl) ?_
          refine r_get (K := 38) (v := .ref (G.2.2.2.1 149)) S X7157 (Nat.le_of_ble_eq_true rfl) rfl lk12_87_10 (fun _ => ⟨_, rfl, rfl⟩) dX12_isSaid_38 ?_
          refine r_iload_n S dX12_isSaid_41 rfl (lv_at hl 3 rfl) ?_
          refine r_iconst S dX12_isSaid_42 (by decide) (fun v7576 z7577 => ?_)
          have r7578 := R_eq z7577
          refine r_isub S dX12_isSaid_43 (fun v7579 z7580 => ?_)
          obtain ⟨e7581, r7582⟩ := i_sub (lo := -1) (hi := 38) z7580 r7198 r7578 rfl
          refine r_aload_n S dX12_isSaid_44 rfl (lv_at hl 1 rfl) ?_
          refine r_get (K := 38) (v := .ref (G.2.2.2.1 149)) S X7157 (Nat.le_of_ble_eq_true rfl) rfl lk12_87_10 (fun _ => ⟨_, rfl, rfl⟩) dX12_isSaid_45 ?_
          refine r_iload_n S dX12_isSaid_48 rfl (lv_at hl 3 rfl) ?_
          refine r_iconst S dX12_isSaid_49 (by decide) (fun v7583 z7584 => ?_)
          have r7585 := R_eq z7584
          refine r_isub S dX12_isSaid_50 (fun v7586 z7587 => ?_)
          obtain ⟨e7588, r7589⟩ := i_sub (lo := -1) (hi := 38) z7587 r7198 r7585 rfl
          refine r_zald (n := 45) (K := 56) S X7157 (Nat.le_of_ble_eq_true rfl) rfl (fun _ => rfl) (by omega) dX12_isSaid_51 (fun v7590 z7591 => ?_)
          have r7592 : R (0) (1) v7590 := rd I7155 rfl z7591
          refine r_if_ne (tgt := 59) S dX12_isSaid_52 (by decide) (fun c7593 => ?_) (fun c7593 => ?_)
          ·
            have r7594 : R (1) (1) v7590 := ⟨by omega, by omega⟩
            refine r_iconst S dX12_isSaid_59 (by decide) (fun v7595 z7596 => ?_)
            have r7597 := R_eq z7596
            refine r_zast (n := 45) (K := 56) S X7157 (Nat.le_of_ble_eq_true rfl) rfl (fun _ _ => rfl) (by omega) (R_of (lo := 0) (hi := 1) r7597 rfl) dX12_isSaid_60 (fun t7598 H lc M7599 X7600 => ?_)
            have I7601 := Inv_mu I7155 M7599 (show Rg (kd 149) _ v7595 from (R_of (lo := 0) (hi := 1) r7597 rfl))
            have F7602 : Fr [] [149] τ t7598 := Fr_cell F7156 M7599 (by decide)
            refine r_goto (tgt := 206) S dX12_isSaid_61 (by decide) ?_
            refine r_iinc (k := 4) S dX12_isSaid_206 hl rfl (by decide) (by decide) (fun v7603 d7604 ls z7605 z7606 hl => ?_)
            obtain ⟨e7607, r7608⟩ := i_add (lo := 1) (hi := 53) z7605 r7174 (R_eq z7606) rfl
            have hl : lv_has ls 5 [(3, .int v7603), (4, .int v7187), (0, .ref (G.2.2.2.1 131)), (1, .int a0), (2, .int i7150)] := hl
            refine r_goto (tgt := 4) S dX12_isSaid_209 (by decide) ?_
            exact ih7160 t7598 _ _ _ i7150 v7603 X7600 I7601 F7602 (R_of r7198 rfl) (R_of r7608 rfl) (PF_dp (by omega) x7159 (ix := v7187) (by omega) ((F7156 133 v7187.toNatClampNeg (by simp [fz])).symm.trans z7192) (by omega) (by omega)) (lv_sub hl [2, 3, 4, 0] rfl) (by omega)
          ·
            have r7609 : R (0) (0) v7590 := ⟨by omega, by omega⟩
            refine r_iconst S dX12_isSaid_55 (by decide) (fun v7610 z7611 => ?_)
            have r7612 := R_eq z7611
            refine r_goto (tgt := 60) S dX12_isSaid_56 (by decide) ?_
            refine r_zast (n := 45) (K := 56) S X7157 (Nat.le_of_ble_eq_true rfl) rfl (fun _ _ => rfl) (by omega) (R_of (lo := 0) (hi := 1) r7612 rfl) dX12_isSaid_60 (fun t7613 H lc M7614 X7615 => ?_)
            have I7616 := Inv_mu I7155 M7614 (show Rg (kd 149) _ v7610 from (R_of (lo := 0) (hi := 1) r7612 rfl))
            have F7617 : Fr [] [149] τ t7613 := Fr_cell F7156 M7614 (by decide)
            refine r_goto (tgt := 206) S dX12_isSaid_61 (by decide) ?_
            refine r_iinc (k := 4) S dX12_isSaid_206 hl rfl (by decide) (by decide) (fun v7618 d7619 ls z7620 z7621 hl => ?_)
            obtain ⟨e7622, r7623⟩ := i_add (lo := 1) (hi := 53) z7620 r7174 (R_eq z7621) rfl
            have hl : lv_has ls 5 [(3, .int v7618), (4, .int v7187), (0, .ref (G.2.2.2.1 131)), (1, .int a0), (2, .int i7150)] := hl
            refine r_goto (tgt := 4) S dX12_isSaid_209 (by decide) ?_
            exact ih7160 t7613 _ _ _ i7150 v7618 X7615 I7616 F7617 (R_of r7198 rfl) (R_of r7623 rfl) (PF_dp (by omega) x7159 (ix := v7187) (by omega) ((F7156 133 v7187.toNatClampNeg (by simp [fz])).symm.trans z7192) (by omega) (by omega)) (lv_sub hl [2, 3, 4, 0] rfl) (by omega)
  exact L7158 _ τ _ _ _ v1 v4 X hI Fr_rfl (R_of r3 rfl) (R_of r6 rfl) (by have a : v4.toInt.toNat = 0 := (by omega); rw [a]; show v1.toInt = 0; omega) (lv_sub hl [2, 3, 1, 0] rfl) (Nat.lt_succ_self _)
def po_X12_said (τ : Tau)  (a0 : Int32)   (r : Int32) (u : Tau) : Prop := Inv u ∧ Fr [(131, 0)] [149] τ u
set_option maxHeartbeats 4000000 in
set_option maxRecDepth 100000 in
theorem c_X12_said (l : Launch) (G : Gx) (τ : Tau) (hI : Inv τ) (a0 : Int32) (h_a0 : R (-2147483648) (2147483647) a0) (hp_0 : PF τ) : Ci l G yX12_said cX12_said 4 (some .int) 5 116 [.ref (G.2.2.2.1 131), .int a0] τ (po_X12_said τ  a0  ) := by
  unfold Ci
  refine C_of (own := RX12) (by decide) rfl (Nat.le_of_ble_eq_true rfl) ?_
  intro p e s m below meth c ls S hr hlk X hl
  have hl : lv_has ls 4 [(0, .ref (G.2.2.2.1 131)), (1, .int a0)] := hl
  refine r_aload_n S dX12_said_0 rfl (lv_at hl 0 rfl) ?_
  refine r_iconst S dX12_said_1 (by decide) (fun v1 z2 => ?_)
  have r3 := R_eq z2
  refine r_put (K := 38) (ty := .int) S X (Nat.le_of_ble_eq_true rfl) rfl lk12_1_10 (fun _ => ⟨_, rfl, Nat.le_of_ble_eq_true rfl, rfl⟩) (fun _ _ _ h => by cases h; exact ⟨rfl, rfl⟩) rfl rfl dX12_said_2 (fun t4 H lc M5 X6 => ?_)
  have I7 := Inv_mu hI M5 (R_any v1)
  have F8 : Fr [(131, 0)] [149] τ t4 := Fr_mu Fr_rfl M5 (by decide)
  refine r_aload_n S dX12_said_5 rfl (lv_at hl 0 rfl) ?_
  refine r_get (K := 38) (v := .ref (G.2.2.2.1 133)) S X6 (Nat.le_of_ble_eq_true rfl) rfl lk12_33_10 (fun _ => ⟨_, rfl, rfl⟩) dX12_said_6 ?_
  refine r_sipush S dX12_said_9 (by decide) (fun v9 z10 => ?_)
  have r11 := R_eq z10
  refine r_aldn (n := 513) (K := 40) S X6 (Nat.le_of_ble_eq_true rfl) rfl (fun _ => rfl) (ix_of r11 rfl) dX12_said_12 (fun v12 z13 => ?_)
  have r14 : R (0) (53) v12 := rds (K := 40) (a := 332) (n := 1) I7 rfl z13 (R_of r11 rfl) (by decide +kernel)
  refine r_if_eq (tgt := 21) S dX12_said_13 (by decide) (fun c15 => ?_) (fun c15 => ?_)
  ·
    have r16 : R (0) (0) v12 := ⟨by omega, by omega⟩
    refine r_iconst S dX12_said_21 (by decide) (fun v17 z18 => ?_)
    have r19 := R_eq z18
    exact r_ret S hr hlk X6 ⟨I7, F8⟩ rfl dX12_said_22
  ·
    have r20 : R (1) (53) v12 := ⟨by omega, by omega⟩
    refine r_iload_n S dX12_said_16 rfl (lv_at hl 1 rfl) ?_
    refine r_iconst S dX12_said_17 (by decide) (fun v21 z22 => ?_)
    have r23 := R_eq z22
    refine r_icmp_ge (tgt := 23) S dX12_said_18 (by decide) (fun c24 => ?_) (fun c24 => ?_)
    ·
      have r25 : R (-1) (2147483647) a0 := ⟨by omega, by omega⟩
      refine r_iconst S dX12_said_23 (by decide) (fun v26 z27 => ?_)
      have r28 := R_eq z27
      refine r_istore_n (lv' := [(2, .int v26), (0, .ref (G.2.2.2.1 131)), (1, .int a0)]) S dX12_said_24 rfl hl (by decide) rfl (fun ls hl => ?_)
      refine r_iconst S dX12_said_25 (by decide) (fun v29 z30 => ?_)
      have r31 := R_eq z30
      refine r_istore_n (lv' := [(3, .int v29), (2, .int v26), (0, .ref (G.2.2.2.1 131)), (1, .int a0)]) S dX12_said_26 rfl hl (by decide) rfl (fun ls hl => ?_)
      have L2185 : ∀ (n : Nat) (t2179 : Tau) (H : Heap) (lc : List Loc) (ls : Array Slot) (i2175 : Int32) (i2177 : Int32), Xd G s H lc t2179 → Inv t2179 → Fr [(131, 0)] [149] τ t2179 → R (-2147483648) (2147483647) i2175 → R (0) (10) i2177 → t2179 131 0 = v1 → t2179 133 332 = v12 → lv_has ls 4 [(0, .ref (G.2.2.2.1 131)), (1, .int a0), (2, .int i2175), (3, .int i2177)] → (10 - i2177.toInt).toNat < n → W p l e (Rm 5 116) s m ([.ref (G.2.2.2.1 131), .int a0] : List Value).toArray below meth c H lc 0 0 (MQ below (va_Qi (po_X12_said τ  a0  ) (Bs G) G.2.2.2.2) ([.ref (G.2.2.2.1 131), .int a0] : List Value).toArray s 0 0 G.2.2.2.2) (F0 m 27 ls []) := by
        intro n
        induction n with
        | zero => intros; omega
        | succ n ih2186 =>
          intro t2179 H lc ls i2175 i2177 X2182 I2180 F2181 r2176 r2178 z2183 z2184 hl hm
          refine r_iload_n S dX12_said_27 rfl (lv_at hl 3 rfl) ?_
          refine r_aload_n S dX12_said_28 rfl (lv_at hl 0 rfl) ?_
          refine r_get (K := 38) (v := .ref (G.2.2.2.1 133)) S X2182 (Nat.le_of_ble_eq_true rfl) rfl lk12_33_10 (fun _ => ⟨_, rfl, rfl⟩) dX12_said_29 ?_
          refine r_iconst S dX12_said_32 (by decide) (fun v2187 z2188 => ?_)
          have r2189 := R_eq z2188
          refine r_aldn (n := 513) (K := 40) S X2182 (Nat.le_of_ble_eq_true rfl) rfl (fun _ => rfl) (ix_of r2189 rfl) dX12_said_33 (fun v2190 z2191 => ?_)
          have r2192 : R (0) (10) v2190 := rds (K := 40) (a := 1) (n := 1) I2180 rfl z2191 (R_of r2189 rfl) (by decide +kernel)
          refine r_icmp_ge (tgt := 64) S dX12_said_34 (by decide) (fun c2193 => ?_) (fun c2193 => ?_)
          ·
            refine r_iload_n S dX12_said_64 rfl (lv_at hl 1 rfl) ?_
            refine r_iconst S dX12_said_65 (by decide) (fun v2194 z2195 => ?_)
            have r2196 := R_eq z2195
            refine r_icmp_ne (tgt := 73) S dX12_said_66 (by decide) (fun c2197 => ?_) (fun c2197 => ?_)
            ·
              have r2198 : R (0) (2147483647) a0 := ⟨by omega, by omega⟩
              refine r_iconst S dX12_said_73 (by decide) (fun v2199 z2200 => ?_)
              have r2201 := R_eq z2200
              exact r_ret S hr hlk X2182 ⟨I2180, F2181⟩ rfl dX12_said_74
            ·
              have r2202 : R (-1) (-1) a0 := ⟨by omega, by omega⟩
              refine r_iload_n S dX12_said_69 rfl (lv_at hl 2 rfl) ?_
              refine r_goto (tgt := 74) S dX12_said_70 (by decide) ?_
              exact r_ret S hr hlk X2182 ⟨I2180, F2181⟩ rfl dX12_said_74
          ·
            have r2203 : R (0) (9) i2177 := ⟨by omega, by omega⟩
            have r2204 : R (1) (10) v2190 := ⟨by omega, by omega⟩
            refine r_aload_n S dX12_said_37 rfl (lv_at hl 0 rfl) ?_
            refine r_iload_n S dX12_said_38 rfl (lv_at hl 3 rfl) ?_
            refine r_ki (q_V (As := [.int i2177]) (rest := []) (K := 38) (ci := 10) S X2182 (c_X12_isSaid l G t2179 I2180 i2177 r2203 (PF_eq hp_0 (fun j _ => F2181 133 j (by simp [fz])))) ck12_440 (Nat.le_of_ble_eq_true rfl) rfl (fun _ => ⟨_, rfl⟩) ⟨_, _, rfl⟩ ⟨Nat.le_of_ble_eq_true rfl, Nat.le_of_ble_eq_true rfl⟩ rfl hl.1 rfl (Nat.le_of_ble_eq_true rfl) dX12_said_39 ⟨Nat.le_refl 0, Nat.le_refl 0⟩) X2182 (fun v2208 t2207 H lc q2205 X2206 => ?_)
            unfold po_X12_isSaid at q2205
            obtain ⟨q2209, q2210, q2211⟩ := q2205
            have F2212 : Fr [(131, 0)] [149] τ t2207 := Fr_call F2181 q2210 (by decide)
            refine r_if_ne (tgt := 48) S dX12_said_42 (by decide) (fun c2213 => ?_) (fun c2213 => ?_)
            ·
              have r2214 : R (1) (1) v2208 := ⟨by omega, by omega⟩
              refine r_iload_n S dX12_said_48 rfl (lv_at hl 2 rfl) ?_
              refine r_iload_n S dX12_said_49 rfl (lv_at hl 1 rfl) ?_
              refine r_icmp_ne (tgt := 55) S dX12_said_50 (by decide) (fun c2215 => ?_) (fun c2215 => ?_)
              ·
                refine r_iinc (k := 2) S dX12_said_55 hl rfl (by decide) (by decide) (fun v2216 d2217 ls z2218 z2219 hl => ?_)
                have r2220 := R_any v2216
                have hl : lv_has ls 4 [(2, .int v2216), (0, .ref (G.2.2.2.1 131)), (1, .int a0), (3, .int i2177)] := hl
                refine r_iinc (k := 3) S dX12_said_58 hl rfl (by decide) (by decide) (fun v2221 d2222 ls z2223 z2224 hl => ?_)
                obtain ⟨e2225, r2226⟩ := i_add (lo := 1) (hi := 10) z2223 r2203 (R_eq z2224) rfl
                have hl : lv_has ls 4 [(3, .int v2221), (2, .int v2216), (0, .ref (G.2.2.2.1 131)), (1, .int a0)] := hl
                refine r_goto (tgt := 27) S dX12_said_61 (by decide) ?_
                exact ih2186 t2207 _ _ _ v2216 v2221 X2206 q2209 F2212 r2220 (R_of r2226 rfl) ((q2210 131 0 (by decide)).trans z2183) ((q2210 133 332 (by decide)).trans z2184) (lv_sub hl [2, 3, 1, 0] rfl) (by omega)
              ·
                have r2227 : R (-1) (2147483647) i2175 := ⟨by omega, by omega⟩
                refine r_iload_n S dX12_said_53 rfl (lv_at hl 3 rfl) ?_
                exact r_ret S hr hlk X2206 ⟨q2209, F2212⟩ rfl dX12_said_54
            ·
              have r2228 : R (0) (0) v2208 := ⟨by omega, by omega⟩
              refine r_goto (tgt := 58) S dX12_said_45 (by decide) ?_
              refine r_iinc (k := 3) S dX12_said_58 hl rfl (by decide) (by decide) (fun v2229 d2230 ls z2231 z2232 hl => ?_)
              obtain ⟨e2233, r2234⟩ := i_add (lo := 1) (hi := 10) z2231 r2203 (R_eq z2232) rfl
              have hl : lv_has ls 4 [(3, .int v2229), (0, .ref (G.2.2.2.1 131)), (1, .int a0), (2, .int i2175)] := hl
              refine r_goto (tgt := 27) S dX12_said_61 (by decide) ?_
              exact ih2186 t2207 _ _ _ i2175 v2229 X2206 q2209 F2212 r2176 (R_of r2234 rfl) ((q2210 131 0 (by decide)).trans z2183) ((q2210 133 332 (by decide)).trans z2184) (lv_sub hl [1, 2, 3, 0] rfl) (by omega)
      exact L2185 _ t4 _ _ _ v26 v29 X6 I7 F8 (R_of r28 rfl) (R_of r31 rfl) M5.1 (zc (n := 332) (by omega) z13) (lv_sub hl [2, 3, 1, 0] rfl) (Nat.lt_succ_self _)
    ·
      have r2235 : R (-2147483648) (-2) a0 := ⟨by omega, by omega⟩
      refine r_iconst S dX12_said_21 (by decide) (fun v2236 z2237 => ?_)
      have r2238 := R_eq z2237
      exact r_ret S hr hlk X6 ⟨I7, F8⟩ rfl dX12_said_22
