def po_X12_leafOf (τ : Tau)   (r : Int32) (u : Tau) : Prop := u = τ ∧ R (-1) (9) r ∧ (0 ≤ r.toInt → R (1) (1) (u 131 11))
set_option maxHeartbeats 4000000 in
set_option maxRecDepth 100000 in
theorem c_X12_leafOf (l : Launch) (G : Gx) (τ : Tau) (hI : Inv τ) : Ci l G yX12_leafOf cX12_leafOf 1 (some .int) 1 22 [.ref (G.2.2.2.1 131)] τ (po_X12_leafOf τ  ) := by
  unfold Ci
  refine C_of (own := RX12) (by decide) rfl (Nat.le_of_ble_eq_true rfl) ?_
  intro p e s m below meth c ls S hr hlk X hl
  have hl : lv_has ls 1 [(0, .ref (G.2.2.2.1 131))] := hl
  obtain ⟨v1, z2⟩ : ∃ x, τ 131 11 = x := ⟨_, rfl⟩
  have r3 : R (0) (4) v1 := rd hI rfl z2
  refine r_aload_n S dX12_leafOf_0 rfl (lv_at hl 0 rfl) ?_
  refine lv_ldc2 S.1.1 S.1.2.1 S.1.2.2.2.1 (S.1.2.2.2.2 _ kw41) dX12_leafOf_1 ?_
  refine lv_topl (fun j4 _ => ?_)
  refine r_ki (q_V (As := [.long j4]) (rest := []) (K := 38) (ci := 10) S X (c_X12_isWord l G τ hI j4) ck12_208 (Nat.le_of_ble_eq_true rfl) rfl (fun _ => ⟨_, rfl⟩) ⟨_, _, rfl⟩ ⟨Nat.le_of_ble_eq_true rfl, Nat.le_of_ble_eq_true rfl⟩ rfl hl.1 rfl (Nat.le_of_ble_eq_true rfl) dX12_leafOf_4 ⟨Nat.le_refl 0, Nat.le_refl 0⟩) X (fun v8 t7 H lc q5 X6 => ?_)
  unfold po_X12_isWord at q5
  obtain ⟨q9, q10, q11⟩ := q5
  rw [q9] at X6
  rw [q9] at q11
  refine r_if_eq (tgt := 14) S dX12_leafOf_7 (by decide) (fun c12 => ?_) (fun c12 => ?_)
  ·
    have r13 : R (0) (0) v8 := ⟨by omega, by omega⟩
    refine r_aload_n S dX12_leafOf_14 rfl (lv_at hl 0 rfl) ?_
    refine lv_ldc2 S.1.1 S.1.2.1 S.1.2.2.2.1 (S.1.2.2.2.2 _ kw42) dX12_leafOf_15 ?_
    refine lv_topl (fun j14 _ => ?_)
    refine r_ki (q_V (As := [.long j14]) (rest := []) (K := 38) (ci := 10) S X6 (c_X12_isWord l G τ hI j14) ck12_208 (Nat.le_of_ble_eq_true rfl) rfl (fun _ => ⟨_, rfl⟩) ⟨_, _, rfl⟩ ⟨Nat.le_of_ble_eq_true rfl, Nat.le_of_ble_eq_true rfl⟩ rfl hl.1 rfl (Nat.le_of_ble_eq_true rfl) dX12_leafOf_18 ⟨Nat.le_refl 0, Nat.le_refl 0⟩) X6 (fun v18 t17 H lc q15 X16 => ?_)
    unfold po_X12_isWord at q15
    obtain ⟨q19, q20, q21⟩ := q15
    rw [q19] at X16
    rw [q19] at q21
    refine r_if_eq (tgt := 28) S dX12_leafOf_21 (by decide) (fun c22 => ?_) (fun c22 => ?_)
    ·
      have r23 : R (0) (0) v18 := ⟨by omega, by omega⟩
      refine r_aload_n S dX12_leafOf_28 rfl (lv_at hl 0 rfl) ?_
      refine lv_ldc2 S.1.1 S.1.2.1 S.1.2.2.2.1 (S.1.2.2.2.2 _ kw43) dX12_leafOf_29 ?_
      refine lv_topl (fun j24 _ => ?_)
      refine r_ki (q_V (As := [.long j24]) (rest := []) (K := 38) (ci := 10) S X16 (c_X12_isWord l G τ hI j24) ck12_208 (Nat.le_of_ble_eq_true rfl) rfl (fun _ => ⟨_, rfl⟩) ⟨_, _, rfl⟩ ⟨Nat.le_of_ble_eq_true rfl, Nat.le_of_ble_eq_true rfl⟩ rfl hl.1 rfl (Nat.le_of_ble_eq_true rfl) dX12_leafOf_32 ⟨Nat.le_refl 0, Nat.le_refl 0⟩) X16 (fun v28 t27 H lc q25 X26 => ?_)
      unfold po_X12_isWord at q25
      obtain ⟨q29, q30, q31⟩ := q25
      rw [q29] at X26
      rw [q29] at q31
      refine r_if_eq (tgt := 42) S dX12_leafOf_35 (by decide) (fun c32 => ?_) (fun c32 => ?_)
      ·
        have r33 : R (0) (0) v28 := ⟨by omega, by omega⟩
        refine r_aload_n S dX12_leafOf_42 rfl (lv_at hl 0 rfl) ?_
        refine lv_ldc2 S.1.1 S.1.2.1 S.1.2.2.2.1 (S.1.2.2.2.2 _ kw44) dX12_leafOf_43 ?_
        refine lv_topl (fun j34 _ => ?_)
        refine r_ki (q_V (As := [.long j34]) (rest := []) (K := 38) (ci := 10) S X26 (c_X12_isWord l G τ hI j34) ck12_208 (Nat.le_of_ble_eq_true rfl) rfl (fun _ => ⟨_, rfl⟩) ⟨_, _, rfl⟩ ⟨Nat.le_of_ble_eq_true rfl, Nat.le_of_ble_eq_true rfl⟩ rfl hl.1 rfl (Nat.le_of_ble_eq_true rfl) dX12_leafOf_46 ⟨Nat.le_refl 0, Nat.le_refl 0⟩) X26 (fun v38 t37 H lc q35 X36 => ?_)
        unfold po_X12_isWord at q35
        obtain ⟨q39, q40, q41⟩ := q35
        rw [q39] at X36
        rw [q39] at q41
        refine r_if_eq (tgt := 56) S dX12_leafOf_49 (by decide) (fun c42 => ?_) (fun c42 => ?_)
        ·
          have r43 : R (0) (0) v38 := ⟨by omega, by omega⟩
          refine r_aload_n S dX12_leafOf_56 rfl (lv_at hl 0 rfl) ?_
          refine lv_ldc2 S.1.1 S.1.2.1 S.1.2.2.2.1 (S.1.2.2.2.2 _ kw28) dX12_leafOf_57 ?_
          refine lv_topl (fun j44 _ => ?_)
          refine r_ki (q_V (As := [.long j44]) (rest := []) (K := 38) (ci := 10) S X36 (c_X12_isWord l G τ hI j44) ck12_208 (Nat.le_of_ble_eq_true rfl) rfl (fun _ => ⟨_, rfl⟩) ⟨_, _, rfl⟩ ⟨Nat.le_of_ble_eq_true rfl, Nat.le_of_ble_eq_true rfl⟩ rfl hl.1 rfl (Nat.le_of_ble_eq_true rfl) dX12_leafOf_60 ⟨Nat.le_refl 0, Nat.le_refl 0⟩) X36 (fun v48 t47 H lc q45 X46 => ?_)
          unfold po_X12_isWord at q45
          obtain ⟨q49, q50, q51⟩ := q45
          rw [q49] at X46
          rw [q49] at q51
          refine r_if_eq (tgt := 70) S dX12_leafOf_63 (by decide) (fun c52 => ?_) (fun c52 => ?_)
          ·
            have r53 : R (0) (0) v48 := ⟨by omega, by omega⟩
            refine r_aload_n S dX12_leafOf_70 rfl (lv_at hl 0 rfl) ?_
            refine lv_ldc2 S.1.1 S.1.2.1 S.1.2.2.2.1 (S.1.2.2.2.2 _ kw27) dX12_leafOf_71 ?_
            refine lv_topl (fun j54 _ => ?_)
            refine r_ki (q_V (As := [.long j54]) (rest := []) (K := 38) (ci := 10) S X46 (c_X12_isWord l G τ hI j54) ck12_208 (Nat.le_of_ble_eq_true rfl) rfl (fun _ => ⟨_, rfl⟩) ⟨_, _, rfl⟩ ⟨Nat.le_of_ble_eq_true rfl, Nat.le_of_ble_eq_true rfl⟩ rfl hl.1 rfl (Nat.le_of_ble_eq_true rfl) dX12_leafOf_74 ⟨Nat.le_refl 0, Nat.le_refl 0⟩) X46 (fun v58 t57 H lc q55 X56 => ?_)
            unfold po_X12_isWord at q55
            obtain ⟨q59, q60, q61⟩ := q55
            rw [q59] at X56
            rw [q59] at q61
            refine r_if_eq (tgt := 84) S dX12_leafOf_77 (by decide) (fun c62 => ?_) (fun c62 => ?_)
            ·
              have r63 : R (0) (0) v58 := ⟨by omega, by omega⟩
              refine r_aload_n S dX12_leafOf_84 rfl (lv_at hl 0 rfl) ?_
              refine lv_ldc2 S.1.1 S.1.2.1 S.1.2.2.2.1 (S.1.2.2.2.2 _ kw45) dX12_leafOf_85 ?_
              refine lv_topl (fun j64 _ => ?_)
              refine r_ki (q_V (As := [.long j64]) (rest := []) (K := 38) (ci := 10) S X56 (c_X12_isWord l G τ hI j64) ck12_208 (Nat.le_of_ble_eq_true rfl) rfl (fun _ => ⟨_, rfl⟩) ⟨_, _, rfl⟩ ⟨Nat.le_of_ble_eq_true rfl, Nat.le_of_ble_eq_true rfl⟩ rfl hl.1 rfl (Nat.le_of_ble_eq_true rfl) dX12_leafOf_88 ⟨Nat.le_refl 0, Nat.le_refl 0⟩) X56 (fun v68 t67 H lc q65 X66 => ?_)
              unfold po_X12_isWord at q65
              obtain ⟨q69, q70, q71⟩ := q65
              rw [q69] at X66
              rw [q69] at q71
              refine r_if_eq (tgt := 99) S dX12_leafOf_91 (by decide) (fun c72 => ?_) (fun c72 => ?_)
              ·
                have r73 : R (0) (0) v68 := ⟨by omega, by omega⟩
                refine r_aload_n S dX12_leafOf_99 rfl (lv_at hl 0 rfl) ?_
                refine lv_ldc2 S.1.1 S.1.2.1 S.1.2.2.2.1 (S.1.2.2.2.2 _ kw46) dX12_leafOf_100 ?_
                refine lv_topl (fun j74 _ => ?_)
                refine r_ki (q_V (As := [.long j74]) (rest := []) (K := 38) (ci := 10) S X66 (c_X12_isWord l G τ hI j74) ck12_208 (Nat.le_of_ble_eq_true rfl) rfl (fun _ => ⟨_, rfl⟩) ⟨_, _, rfl⟩ ⟨Nat.le_of_ble_eq_true rfl, Nat.le_of_ble_eq_true rfl⟩ rfl hl.1 rfl (Nat.le_of_ble_eq_true rfl) dX12_leafOf_103 ⟨Nat.le_refl 0, Nat.le_refl 0⟩) X66 (fun v78 t77 H lc q75 X76 => ?_)
                unfold po_X12_isWord at q75
                obtain ⟨q79, q80, q81⟩ := q75
                rw [q79] at X76
                rw [q79] at q81
                refine r_if_eq (tgt := 114) S dX12_leafOf_106 (by decide) (fun c82 => ?_) (fun c82 => ?_)
                ·
                  have r83 : R (0) (0) v78 := ⟨by omega, by omega⟩
                  refine r_aload_n S dX12_leafOf_114 rfl (lv_at hl 0 rfl) ?_
                  refine lv_ldc2 S.1.1 S.1.2.1 S.1.2.2.2.1 (S.1.2.2.2.2 _ kw47) dX12_leafOf_115 ?_
                  refine lv_topl (fun j84 _ => ?_)
                  refine r_ki (q_V (As := [.long j84]) (rest := []) (K := 38) (ci := 10) S X76 (c_X12_isWord l G τ hI j84) ck12_208 (Nat.le_of_ble_eq_true rfl) rfl (fun _ => ⟨_, rfl⟩) ⟨_, _, rfl⟩ ⟨Nat.le_of_ble_eq_true rfl, Nat.le_of_ble_eq_true rfl⟩ rfl hl.1 rfl (Nat.le_of_ble_eq_true rfl) dX12_leafOf_118 ⟨Nat.le_refl 0, Nat.le_refl 0⟩) X76 (fun v88 t87 H lc q85 X86 => ?_)
                  unfold po_X12_isWord at q85
                  obtain ⟨q89, q90, q91⟩ := q85
                  rw [q89] at X86
                  rw [q89] at q91
                  refine r_if_eq (tgt := 129) S dX12_leafOf_121 (by decide) (fun c92 => ?_) (fun c92 => ?_)
                  ·
                    have r93 : R (0) (0) v88 := ⟨by omega, by omega⟩
                    refine r_aload_n S dX12_leafOf_129 rfl (lv_at hl 0 rfl) ?_
                    refine lv_ldc2 S.1.1 S.1.2.1 S.1.2.2.2.1 (S.1.2.2.2.2 _ kw48) dX12_leafOf_130 ?_
                    refine lv_topl (fun j94 _ => ?_)
                    refine r_ki (q_V (As := [.long j94]) (rest := []) (K := 38) (ci := 10) S X86 (c_X12_isWord l G τ hI j94) ck12_208 (Nat.le_of_ble_eq_true rfl) rfl (fun _ => ⟨_, rfl⟩) ⟨_, _, rfl⟩ ⟨Nat.le_of_ble_eq_true rfl, Nat.le_of_ble_eq_true rfl⟩ rfl hl.1 rfl (Nat.le_of_ble_eq_true rfl) dX12_leafOf_133 ⟨Nat.le_refl 0, Nat.le_refl 0⟩) X86 (fun v98 t97 H lc q95 X96 => ?_)
                    unfold po_X12_isWord at q95
                    obtain ⟨q99, q100, q101⟩ := q95
                    rw [q99] at X96
                    rw [q99] at q101
                    refine r_if_eq (tgt := 144) S dX12_leafOf_136 (by decide) (fun c102 => ?_) (fun c102 => ?_)
                    ·
                      have r103 : R (0) (0) v98 := ⟨by omega, by omega⟩
                      refine r_iconst S dX12_leafOf_144 (by decide) (fun v104 z105 => ?_)
                      have r106 := R_eq z105
                      exact r_ret S hr hlk X96 ⟨rfl, (R_of r106 rfl), (fun h => by exfalso; omega)⟩ rfl dX12_leafOf_145
                    ·
                      have r107 : R (1) (1) v98 := ⟨by omega, by omega⟩
                      have p108 := q101 (by omega)
                      have r109 : R (1) (1) v1 := z2 ▸ p108
                      have r110 : R (1) (1) v1 := ⟨by omega, by omega⟩
                      refine r_bipush S dX12_leafOf_139 (by decide) (fun v111 z112 => ?_)
                      have r113 := R_eq z112
                      refine r_goto (tgt := 145) S dX12_leafOf_141 (by decide) ?_
                      exact r_ret S hr hlk X96 ⟨rfl, (R_of r113 rfl), (fun h => (by rw [z2]; exact R_of r110 rfl))⟩ rfl dX12_leafOf_145
                  ·
                    have r114 : R (1) (1) v88 := ⟨by omega, by omega⟩
                    have p115 := q91 (by omega)
                    have r116 : R (1) (1) v1 := z2 ▸ p115
                    have r117 : R (1) (1) v1 := ⟨by omega, by omega⟩
                    refine r_bipush S dX12_leafOf_124 (by decide) (fun v118 z119 => ?_)
                    have r120 := R_eq z119
                    refine r_goto (tgt := 145) S dX12_leafOf_126 (by decide) ?_
                    exact r_ret S hr hlk X86 ⟨rfl, (R_of r120 rfl), (fun h => (by rw [z2]; exact R_of r117 rfl))⟩ rfl dX12_leafOf_145
                ·
                  have r121 : R (1) (1) v78 := ⟨by omega, by omega⟩
                  have p122 := q81 (by omega)
                  have r123 : R (1) (1) v1 := z2 ▸ p122
                  have r124 : R (1) (1) v1 := ⟨by omega, by omega⟩
                  refine r_bipush S dX12_leafOf_109 (by decide) (fun v125 z126 => ?_)
                  have r127 := R_eq z126
                  refine r_goto (tgt := 145) S dX12_leafOf_111 (by decide) ?_
                  exact r_ret S hr hlk X76 ⟨rfl, (R_of r127 rfl), (fun h => (by rw [z2]; exact R_of r124 rfl))⟩ rfl dX12_leafOf_145
              ·
                have r128 : R (1) (1) v68 := ⟨by omega, by omega⟩
                have p129 := q71 (by omega)
                have r130 : R (1) (1) v1 := z2 ▸ p129
                have r131 : R (1) (1) v1 := ⟨by omega, by omega⟩
                refine r_bipush S dX12_leafOf_94 (by decide) (fun v132 z133 => ?_)
                have r134 := R_eq z133
                refine r_goto (tgt := 145) S dX12_leafOf_96 (by decide) ?_
                exact r_ret S hr hlk X66 ⟨rfl, (R_of r134 rfl), (fun h => (by rw [z2]; exact R_of r131 rfl))⟩ rfl dX12_leafOf_145
            ·
              have r135 : R (1) (1) v58 := ⟨by omega, by omega⟩
              have p136 := q61 (by omega)
              have r137 : R (1) (1) v1 := z2 ▸ p136
              have r138 : R (1) (1) v1 := ⟨by omega, by omega⟩
              refine r_iconst S dX12_leafOf_80 (by decide) (fun v139 z140 => ?_)
              have r141 := R_eq z140
              refine r_goto (tgt := 145) S dX12_leafOf_81 (by decide) ?_
              exact r_ret S hr hlk X56 ⟨rfl, (R_of r141 rfl), (fun h => (by rw [z2]; exact R_of r138 rfl))⟩ rfl dX12_leafOf_145
          ·
            have r142 : R (1) (1) v48 := ⟨by omega, by omega⟩
            have p143 := q51 (by omega)
            have r144 : R (1) (1) v1 := z2 ▸ p143
            have r145 : R (1) (1) v1 := ⟨by omega, by omega⟩
            refine r_iconst S dX12_leafOf_66 (by decide) (fun v146 z147 => ?_)
            have r148 := R_eq z147
            refine r_goto (tgt := 145) S dX12_leafOf_67 (by decide) ?_
            exact r_ret S hr hlk X46 ⟨rfl, (R_of r148 rfl), (fun h => (by rw [z2]; exact R_of r145 rfl))⟩ rfl dX12_leafOf_145
        ·
          have r149 : R (1) (1) v38 := ⟨by omega, by omega⟩
          have p150 := q41 (by omega)
          have r151 : R (1) (1) v1 := z2 ▸ p150
          have r152 : R (1) (1) v1 := ⟨by omega, by omega⟩
          refine r_iconst S dX12_leafOf_52 (by decide) (fun v153 z154 => ?_)
          have r155 := R_eq z154
          refine r_goto (tgt := 145) S dX12_leafOf_53 (by decide) ?_
          exact r_ret S hr hlk X36 ⟨rfl, (R_of r155 rfl), (fun h => (by rw [z2]; exact R_of r152 rfl))⟩ rfl dX12_leafOf_145
      ·
        have r156 : R (1) (1) v28 := ⟨by omega, by omega⟩
        have p157 := q31 (by omega)
        have r158 : R (1) (1) v1 := z2 ▸ p157
        have r159 : R (1) (1) v1 := ⟨by omega, by omega⟩
        refine r_iconst S dX12_leafOf_38 (by decide) (fun v160 z161 => ?_)
        have r162 := R_eq z161
        refine r_goto (tgt := 145) S dX12_leafOf_39 (by decide) ?_
        exact r_ret S hr hlk X26 ⟨rfl, (R_of r162 rfl), (fun h => (by rw [z2]; exact R_of r159 rfl))⟩ rfl dX12_leafOf_145
    ·
      have r163 : R (1) (1) v18 := ⟨by omega, by omega⟩
      have p164 := q21 (by omega)
      have r165 : R (1) (1) v1 := z2 ▸ p164
      have r166 : R (1) (1) v1 := ⟨by omega, by omega⟩
      refine r_iconst S dX12_leafOf_24 (by decide) (fun v167 z168 => ?_)
      have r169 := R_eq z168
      refine r_goto (tgt := 145) S dX12_leafOf_25 (by decide) ?_
      exact r_ret S hr hlk X16 ⟨rfl, (R_of r169 rfl), (fun h => (by rw [z2]; exact R_of r166 rfl))⟩ rfl dX12_leafOf_145
  ·
    have r170 : R (1) (1) v8 := ⟨by omega, by omega⟩
    have p171 := q11 (by omega)
    have r172 : R (1) (1) v1 := z2 ▸ p171
    have r173 : R (1) (1) v1 := ⟨by omega, by omega⟩
    refine r_iconst S dX12_leafOf_10 (by decide) (fun v174 z175 => ?_)
    have r176 := R_eq z175
    refine r_goto (tgt := 145) S dX12_leafOf_11 (by decide) ?_
    exact r_ret S hr hlk X6 ⟨rfl, (R_of r176 rfl), (fun h => (by rw [z2]; exact R_of r173 rfl))⟩ rfl dX12_leafOf_145
def po_X12_operand (τ : Tau)   (r : Int32) (u : Tau) : Prop := Inv u ∧ Fr [(131, 15), (131, 16), (131, 4), (131, 11), (131, 12), (131, 13), (131, 14), (131, 41), (131, 42), (131, 43), (131, 44), (131, 45)] [135, 148] τ u ∧ R (0) (1) r ∧ R (0) (940) (u 131 4) ∧ R (0) (4) (u 131 11) ∧ (τ 131 4).toInt ≤ (u 131 4).toInt ∧ (r.toInt = 1 ∧ 1 ≤ (u 131 11).toInt ∧ (u 131 11).toInt ≤ 3 → (τ 131 4).toInt < (u 131 4).toInt) ∧ (r.toInt = 1 → 1 ≤ (τ 131 11).toInt ∧ (τ 131 11).toInt ≤ 3) ∧ R (0) (53) (u 131 41) ∧ R (0) (20) (u 131 42) ∧ R (0) (45) (u 131 43) ∧ R (0) (1) (u 131 45) ∧ (r.toInt = 1 → SI u)
set_option maxHeartbeats 4000000 in
set_option maxRecDepth 100000 in
theorem c_X12_operand (l : Launch) (G : Gx) (τ : Tau) (hI : Inv τ) (hf_0 : R (0) (0) (τ 131 45)) (hp_0 : SI τ) : Ci l G yX12_operand cX12_operand 5 (some .boolean) 2 43 [.ref (G.2.2.2.1 131)] τ (po_X12_operand τ  ) := by
  unfold Ci
  refine C_of (own := RX12) (by decide) rfl (Nat.le_of_ble_eq_true rfl) ?_
  intro p e s m below meth c ls S hr hlk X hl
  have hl : lv_has ls 5 [(0, .ref (G.2.2.2.1 131))] := hl
  obtain ⟨v1, z2⟩ : ∃ x, τ 131 45 = x := ⟨_, rfl⟩
  rw [z2] at hf_0
  obtain ⟨v3, z4⟩ : ∃ x, τ 131 4 = x := ⟨_, rfl⟩
  have r5 : R (0) (940) v3 := rd hI rfl z4
  obtain ⟨v6, z7⟩ : ∃ x, τ 131 11 = x := ⟨_, rfl⟩
  have r8 : R (0) (4) v6 := rd hI rfl z7
  obtain ⟨v9, z10⟩ : ∃ x, τ 131 41 = x := ⟨_, rfl⟩
  have r11 : R (0) (53) v9 := rd hI rfl z10
  obtain ⟨v12, z13⟩ : ∃ x, τ 131 42 = x := ⟨_, rfl⟩
  have r14 : R (0) (20) v12 := rd hI rfl z13
  obtain ⟨v15, z16⟩ : ∃ x, τ 131 43 = x := ⟨_, rfl⟩
  have r17 : R (0) (45) v15 := rd hI rfl z16
  have h18 := SI_b hp_0 z10 z13 z16 z2
  have r19 : R (0) (40) v9 := ⟨by omega, by omega⟩
  have r20 : R (0) (40) v15 := ⟨by omega, by omega⟩
  refine r_aload_n S dX12_operand_0 rfl (lv_at hl 0 rfl) ?_
  refine lv_ldc2 S.1.1 S.1.2.1 S.1.2.2.2.1 (S.1.2.2.2.2 _ kw49) dX12_operand_1 ?_
  refine lv_topl (fun j21 _ => ?_)
  refine r_ki (q_V (As := [.long j21]) (rest := []) (K := 38) (ci := 10) S X (c_X12_isWord l G τ hI j21) ck12_208 (Nat.le_of_ble_eq_true rfl) rfl (fun _ => ⟨_, rfl⟩) ⟨_, _, rfl⟩ ⟨Nat.le_of_ble_eq_true rfl, Nat.le_of_ble_eq_true rfl⟩ rfl hl.1 rfl (Nat.le_of_ble_eq_true rfl) dX12_operand_4 ⟨Nat.le_refl 0, Nat.le_refl 0⟩) X (fun v25 t24 H lc q22 X23 => ?_)
  unfold po_X12_isWord at q22
  obtain ⟨q26, q27, q28⟩ := q22
  rw [q26] at X23
  rw [q26] at q28
  refine r_istore_n (lv' := [(1, .int v25), (0, .ref (G.2.2.2.1 131))]) S dX12_operand_7 rfl hl (by decide) rfl (fun ls hl => ?_)
  refine r_aload_n S dX12_operand_8 rfl (lv_at hl 1 rfl) ?_
  refine r_bipush S dX12_operand_9 (by decide) (fun v29 z30 => ?_)
  have r31 := R_eq z30
  refine r_ki (q_V (As := [.int v29]) (rest := []) (K := 38) (ci := 10) S X23 (c_X12_isSign l G τ hI v29 (R_of (lo := -2147483648) (hi := 2147483647) r31 rfl)) ck12_180 (Nat.le_of_ble_eq_true rfl) rfl (fun _ => ⟨_, rfl⟩) ⟨_, _, rfl⟩ ⟨Nat.le_of_ble_eq_true rfl, Nat.le_of_ble_eq_true rfl⟩ rfl hl.1 rfl (Nat.le_of_ble_eq_true rfl) dX12_operand_11 ⟨Nat.le_refl 0, Nat.le_refl 0⟩) X23 (fun v35 t34 H lc q32 X33 => ?_)
  unfold po_X12_isSign at q32
  obtain ⟨q36, q37, q38⟩ := q32
  rw [q36] at X33
  rw [q36] at q38
  refine r_istore_n (lv' := [(2, .int v35), (1, .int v25), (0, .ref (G.2.2.2.1 131))]) S dX12_operand_14 rfl hl (by decide) rfl (fun ls hl => ?_)
  refine r_aload_n S dX12_operand_15 rfl (lv_at hl 2 rfl) ?_
  refine r_ki (q_V (As := []) (rest := []) (K := 38) (ci := 10) S X33 (c_X12_leafOf l G τ hI ) ck12_416 (Nat.le_of_ble_eq_true rfl) rfl (fun _ => ⟨_, rfl⟩) ⟨_, _, rfl⟩ ⟨Nat.le_of_ble_eq_true rfl, Nat.le_of_ble_eq_true rfl⟩ rfl hl.1 rfl (Nat.le_of_ble_eq_true rfl) dX12_operand_16 ⟨Nat.le_refl 0, Nat.le_refl 0⟩) X33 (fun v42 t41 H lc q39 X40 => ?_)
  unfold po_X12_leafOf at q39
  obtain ⟨q43, q44, q45⟩ := q39
  rw [q43] at X40
  rw [q43] at q45
  refine r_istore_n (lv' := [(3, .int v42), (2, .int v35), (1, .int v25), (0, .ref (G.2.2.2.1 131))]) S dX12_operand_19 rfl hl (by decide) rfl (fun ls hl => ?_)
  refine r_iload_n S dX12_operand_20 rfl (lv_at hl 2 rfl) ?_
  refine r_if_ne (tgt := 38) S dX12_operand_21 (by decide) (fun c46 => ?_) (fun c46 => ?_)
  ·
    have r47 : R (1) (1) v25 := ⟨by omega, by omega⟩
    have p48 := q28 (by omega)
    have r49 : R (1) (1) v6 := z7 ▸ p48
    have r50 : R (1) (1) v6 := ⟨by omega, by omega⟩
    refine r_aload_n S dX12_operand_38 rfl (lv_at hl 3 rfl) ?_
    refine r_geti (K := 38) S X40 (Nat.le_of_ble_eq_true rfl) rfl lk12_419_10 (fun _ => ⟨_, rfl, rfl⟩) z13 dX12_operand_39 ?_
    refine r_bipush S dX12_operand_42 (by decide) (fun v51 z52 => ?_)
    have r53 := R_eq z52
    refine r_icmp_eq (tgt := 56) S dX12_operand_44 (by decide) (fun c54 => ?_) (fun c54 => ?_)
    ·
      have r55 : R (20) (20) v12 := ⟨by omega, by omega⟩
      refine r_aload_n S dX12_operand_56 rfl (lv_at hl 3 rfl) ?_
      refine r_iconst S dX12_operand_57 (by decide) (fun v56 z57 => ?_)
      have r58 := R_eq z57
      refine r_ki (q_V (As := [.int v56]) (rest := []) (K := 38) (ci := 10) S X40 (c_X12_bad l G τ hI v56 (R_of (lo := -2147483648) (hi := 2147483647) r58 rfl)) ck12_183 (Nat.le_of_ble_eq_true rfl) rfl (fun _ => ⟨_, rfl⟩) ⟨_, _, rfl⟩ ⟨Nat.le_of_ble_eq_true rfl, Nat.le_of_ble_eq_true rfl⟩ rfl hl.1 rfl (Nat.le_of_ble_eq_true rfl) dX12_operand_58 ⟨Nat.le_refl 0, Nat.le_refl 0⟩) X40 (fun v62 t61 H lc q59 X60 => ?_)
      unfold po_X12_bad at q59
      obtain ⟨q63, q64, q65⟩ := q59
      have F66 : Fr [(131, 15), (131, 16), (131, 4), (131, 11), (131, 12), (131, 13), (131, 14), (131, 41), (131, 42), (131, 43), (131, 44), (131, 45)] [135, 148] τ t61 := Fr_call Fr_rfl q64 (by decide)
      exact r_ret S hr hlk X60 ⟨q63, F66, (R_of q65 rfl), (by rw [((q64 131 4 (by decide)).trans z4)]; exact R_of r5 rfl), (by rw [((q64 131 11 (by decide)).trans z7)]; exact R_of r50 rfl), (by have h1_0 := congrArg Int32.toInt ((q64 131 4 (by decide)).trans z4); have h2_0 := congrArg Int32.toInt z4; omega), (by have h1_0 := congrArg Int32.toInt ((q64 131 4 (by decide)).trans z4); have h2_0 := congrArg Int32.toInt z4; have h1_1 := congrArg Int32.toInt ((q64 131 11 (by decide)).trans z7); have h2_1 := congrArg Int32.toInt z7; omega), (by have h1_0 := congrArg Int32.toInt ((q64 131 11 (by decide)).trans z7); have h2_0 := congrArg Int32.toInt z7; omega), (by rw [((q64 131 41 (by decide)).trans z10)]; exact R_of r19 rfl), (by rw [((q64 131 42 (by decide)).trans z13)]; exact R_of r55 rfl), (by rw [((q64 131 43 (by decide)).trans z16)]; exact R_of r20 rfl), (by rw [((q64 131 45 (by decide)).trans z2)]; exact R_of hf_0 rfl), (fun h => by exfalso; omega)⟩ (nr_bool (R_of (lo := 0) (hi := 1) q65 rfl)) dX12_operand_61
    ·
      have r67 : R (0) (19) v12 := ⟨by omega, by omega⟩
      refine r_aload_n S dX12_operand_47 rfl (lv_at hl 3 rfl) ?_
      refine r_getn (K := 38) S X40 (Nat.le_of_ble_eq_true rfl) rfl lk12_413_10 (fun _ => ⟨_, rfl, rfl⟩) dX12_operand_48 (fun v68 z69 => ?_)
      have r71 := R_any v68
      refine r_bipush S dX12_operand_51 (by decide) (fun v72 z73 => ?_)
      have r74 := R_eq z73
      refine r_icmp_le (tgt := 62) S dX12_operand_53 (by decide) (fun c75 => ?_) (fun c75 => ?_)
      ·
        have r76 : R (-2147483648) (8) v68 := ⟨by omega, by omega⟩
        refine r_aload_n S dX12_operand_62 rfl (lv_at hl 3 rfl) ?_
        refine r_dup S dX12_operand_63 rfl ?_
        refine r_geti (K := 38) S X40 (Nat.le_of_ble_eq_true rfl) rfl lk12_419_10 (fun _ => ⟨_, rfl, rfl⟩) z13 dX12_operand_64 ?_
        refine r_iconst S dX12_operand_67 (by decide) (fun v77 z78 => ?_)
        have r79 := R_eq z78
        refine r_iadd S dX12_operand_68 (fun v80 z81 => ?_)
        obtain ⟨e82, r83⟩ := i_add (lo := 1) (hi := 20) z81 r67 r79 rfl
        refine r_put (K := 38) (ty := .int) S X40 (Nat.le_of_ble_eq_true rfl) rfl lk12_419_10 (fun _ => ⟨_, rfl, Nat.le_of_ble_eq_true rfl, rfl⟩) (fun _ _ _ h => by cases h; exact ⟨rfl, rfl⟩) rfl rfl dX12_operand_69 (fun t84 H lc M85 X86 => ?_)
        have I87 := Inv_mu hI M85 (show Rg (kd 131) 42 v80 from (R_of (lo := 0) (hi := 20) r83 rfl))
        have F88 : Fr [(131, 15), (131, 16), (131, 4), (131, 11), (131, 12), (131, 13), (131, 14), (131, 41), (131, 42), (131, 43), (131, 44), (131, 45)] [135, 148] τ t84 := Fr_mu Fr_rfl M85 (by decide)
        refine r_aload_n S dX12_operand_72 rfl (lv_at hl 3 rfl) ?_
        refine r_kv (q_V (As := []) (rest := []) (K := 38) (ci := 10) S X86 (c_X12_skip l G t84 I87 ) ck12_186 (Nat.le_of_ble_eq_true rfl) rfl (fun _ => ⟨_, rfl⟩) ⟨_, _, rfl⟩ ⟨Nat.le_of_ble_eq_true rfl, Nat.le_of_ble_eq_true rfl⟩ rfl hl.1 rfl (Nat.le_of_ble_eq_true rfl) dX12_operand_73 ⟨Nat.le_refl 0, Nat.le_refl 0⟩) X86 (fun t91 H lc q89 X90 => ?_)
        unfold po_X12_skip at q89
        obtain ⟨q92, q93, q94, q95, q96, q97⟩ := q89
        have F98 : Fr [(131, 15), (131, 16), (131, 4), (131, 11), (131, 12), (131, 13), (131, 14), (131, 41), (131, 42), (131, 43), (131, 44), (131, 45)] [135, 148] τ t91 := Fr_call F88 q93 (by decide)
        obtain ⟨v99, z100⟩ : ∃ x, t91 131 4 = x := ⟨_, rfl⟩
        rw [z100] at q94
        obtain ⟨v101, z102⟩ : ∃ x, t91 131 11 = x := ⟨_, rfl⟩
        rw [z102] at q95
        have e103 := congrArg Int32.toInt ((M85.2 131 4 (Or.inr (by decide))).trans z4)
        have e104 := congrArg Int32.toInt z100
        have e105 := congrArg Int32.toInt ((M85.2 131 4 (Or.inr (by decide))).trans z4)
        have e106 := congrArg Int32.toInt z100
        have e107 := congrArg Int32.toInt ((M85.2 131 11 (Or.inr (by decide))).trans z7)
        have e108 := congrArg Int32.toInt z102
        refine r_iload_n S dX12_operand_76 rfl (lv_at hl 2 rfl) ?_
        refine r_if_ne (tgt := 84) S dX12_operand_77 (by decide) (fun c109 => ?_) (fun c109 => ?_)
        ·
          refine r_aload_n S dX12_operand_84 rfl (lv_at hl 3 rfl) ?_
          refine r_get (K := 38) (v := .ref (G.2.2.2.1 148)) S X90 (Nat.le_of_ble_eq_true rfl) rfl lk12_84_10 (fun _ => ⟨_, rfl, rfl⟩) dX12_operand_85 ?_
          refine r_aload_n S dX12_operand_88 rfl (lv_at hl 3 rfl) ?_
          refine r_geti (K := 38) S X90 (Nat.le_of_ble_eq_true rfl) rfl lk12_407_10 (fun _ => ⟨_, rfl, rfl⟩) ((q93 131 43 (by decide)).trans ((M85.2 131 43 (Or.inr (by decide))).trans z16)) dX12_operand_89 ?_
          refine r_iload_n S dX12_operand_92 rfl (lv_at hl 2 rfl) ?_
          refine r_if_eq (tgt := 101) S dX12_operand_93 (by decide) (fun c110 => ?_) (fun c110 => ?_)
          ·
            exfalso; omega
          ·
            refine r_bipush S dX12_operand_96 (by decide) (fun v111 z112 => ?_)
            have r113 := R_eq z112
            refine r_goto (tgt := 103) S dX12_operand_98 (by decide) ?_
            refine r_ast (n := 45) (K := 55) S X90 (Nat.le_of_ble_eq_true rfl) rfl (fun _ _ => rfl) (ix_of r20 rfl) dX12_operand_103 (fun t114 H lc M115 X116 => ?_)
            have I117 := Inv_mu q92 M115 (R_any v111)
            have F118 : Fr [(131, 15), (131, 16), (131, 4), (131, 11), (131, 12), (131, 13), (131, 14), (131, 41), (131, 42), (131, 43), (131, 44), (131, 45)] [135, 148] τ t114 := Fr_cell F98 M115 (by decide)
            refine r_aload_n S dX12_operand_104 rfl (lv_at hl 3 rfl) ?_
            refine r_dup S dX12_operand_105 rfl ?_
            refine r_geti (K := 38) S X116 (Nat.le_of_ble_eq_true rfl) rfl lk12_407_10 (fun _ => ⟨_, rfl, rfl⟩) ((M115.2 131 43 (Or.inl (by decide))).trans ((q93 131 43 (by decide)).trans ((M85.2 131 43 (Or.inr (by decide))).trans z16))) dX12_operand_106 ?_
            refine r_iconst S dX12_operand_109 (by decide) (fun v119 z120 => ?_)
            have r121 := R_eq z120
            refine r_iadd S dX12_operand_110 (fun v122 z123 => ?_)
            obtain ⟨e124, r125⟩ := i_add (lo := 1) (hi := 41) z123 r20 r121 rfl
            refine r_put (K := 38) (ty := .int) S X116 (Nat.le_of_ble_eq_true rfl) rfl lk12_407_10 (fun _ => ⟨_, rfl, Nat.le_of_ble_eq_true rfl, rfl⟩) (fun _ _ _ h => by cases h; exact ⟨rfl, rfl⟩) rfl rfl dX12_operand_111 (fun t126 H lc M127 X128 => ?_)
            have I129 := Inv_mu I117 M127 (show Rg (kd 131) 43 v122 from (R_of (lo := 0) (hi := 45) r125 rfl))
            have F130 : Fr [(131, 15), (131, 16), (131, 4), (131, 11), (131, 12), (131, 13), (131, 14), (131, 41), (131, 42), (131, 43), (131, 44), (131, 45)] [135, 148] τ t126 := Fr_mu F118 M127 (by decide)
            refine r_aload_n S dX12_operand_114 rfl (lv_at hl 3 rfl) ?_
            refine r_dup S dX12_operand_115 rfl ?_
            refine r_geti (K := 38) S X128 (Nat.le_of_ble_eq_true rfl) rfl lk12_413_10 (fun _ => ⟨_, rfl, rfl⟩) ((M127.2 131 44 (Or.inr (by decide))).trans ((M115.2 131 44 (Or.inl (by decide))).trans ((q93 131 44 (by decide)).trans ((M85.2 131 44 (Or.inr (by decide))).trans z69)))) dX12_operand_116 ?_
            refine r_iconst S dX12_operand_119 (by decide) (fun v131 z132 => ?_)
            have r133 := R_eq z132
            refine r_iadd S dX12_operand_120 (fun v134 z135 => ?_)
            obtain ⟨e136, r137⟩ := i_add (lo := -2147483647) (hi := 9) z135 r76 r133 rfl
            refine r_put (K := 38) (ty := .int) S X128 (Nat.le_of_ble_eq_true rfl) rfl lk12_413_10 (fun _ => ⟨_, rfl, Nat.le_of_ble_eq_true rfl, rfl⟩) (fun _ _ _ h => by cases h; exact ⟨rfl, rfl⟩) rfl rfl dX12_operand_121 (fun t138 H lc M139 X140 => ?_)
            have I141 := Inv_mu I129 M139 (R_any v134)
            have F142 : Fr [(131, 15), (131, 16), (131, 4), (131, 11), (131, 12), (131, 13), (131, 14), (131, 41), (131, 42), (131, 43), (131, 44), (131, 45)] [135, 148] τ t138 := Fr_mu F130 M139 (by decide)
            refine r_iconst S dX12_operand_124 (by decide) (fun v143 z144 => ?_)
            have r145 := R_eq z144
            exact r_ret S hr hlk X140 ⟨I141, F142, (R_of r145 rfl), (by rw [((M139.2 131 4 (Or.inr (by decide))).trans ((M127.2 131 4 (Or.inr (by decide))).trans ((M115.2 131 4 (Or.inl (by decide))).trans z100)))]; exact R_of q94 rfl), (by rw [((M139.2 131 11 (Or.inr (by decide))).trans ((M127.2 131 11 (Or.inr (by decide))).trans ((M115.2 131 11 (Or.inl (by decide))).trans z102)))]; exact R_of q95 rfl), (by have h1_0 := congrArg Int32.toInt ((M139.2 131 4 (Or.inr (by decide))).trans ((M127.2 131 4 (Or.inr (by decide))).trans ((M115.2 131 4 (Or.inl (by decide))).trans z100))); have h2_0 := congrArg Int32.toInt z4; omega), (by have h1_0 := congrArg Int32.toInt ((M139.2 131 4 (Or.inr (by decide))).trans ((M127.2 131 4 (Or.inr (by decide))).trans ((M115.2 131 4 (Or.inl (by decide))).trans z100))); have h2_0 := congrArg Int32.toInt z4; have h1_1 := congrArg Int32.toInt ((M139.2 131 11 (Or.inr (by decide))).trans ((M127.2 131 11 (Or.inr (by decide))).trans ((M115.2 131 11 (Or.inl (by decide))).trans z102))); have h2_1 := congrArg Int32.toInt z7; omega), (by have h1_0 := congrArg Int32.toInt ((M139.2 131 11 (Or.inr (by decide))).trans ((M127.2 131 11 (Or.inr (by decide))).trans ((M115.2 131 11 (Or.inl (by decide))).trans z102))); have h2_0 := congrArg Int32.toInt z7; omega), (by rw [((M139.2 131 41 (Or.inr (by decide))).trans ((M127.2 131 41 (Or.inr (by decide))).trans ((M115.2 131 41 (Or.inl (by decide))).trans ((q93 131 41 (by decide)).trans ((M85.2 131 41 (Or.inr (by decide))).trans z10)))))]; exact R_of r19 rfl), (by rw [((M139.2 131 42 (Or.inr (by decide))).trans ((M127.2 131 42 (Or.inr (by decide))).trans ((M115.2 131 42 (Or.inl (by decide))).trans ((q93 131 42 (by decide)).trans M85.1))))]; exact R_of r83 rfl), (by rw [((M139.2 131 43 (Or.inr (by decide))).trans M127.1)]; exact R_of r125 rfl), (by rw [((M139.2 131 45 (Or.inr (by decide))).trans ((M127.2 131 45 (Or.inr (by decide))).trans ((M115.2 131 45 (Or.inl (by decide))).trans ((q93 131 45 (by decide)).trans ((M85.2 131 45 (Or.inr (by decide))).trans z2)))))]; exact R_of hf_0 rfl), (fun _ => (by have n1 := congrArg Int32.toInt z13; have n2 := congrArg Int32.toInt z2; exact SI_push hp_0 (fun j => ((M139.2 135 j (Or.inl (by decide))).trans ((M127.2 135 j (Or.inl (by decide))).trans ((M115.2 135 j (Or.inl (by decide))).trans ((q93 135 j (by simp [fz])).trans ((M85.2 135 j (Or.inl (by decide))).trans rfl)))))) ((M139.2 131 41 (Or.inr (by decide))).trans ((M127.2 131 41 (Or.inr (by decide))).trans ((M115.2 131 41 (Or.inl (by decide))).trans ((q93 131 41 (by decide)).trans ((M85.2 131 41 (Or.inr (by decide))).trans rfl))))) ((M139.2 131 42 (Or.inr (by decide))).trans ((M127.2 131 42 (Or.inr (by decide))).trans ((M115.2 131 42 (Or.inl (by decide))).trans ((q93 131 42 (by decide)).trans M85.1)))) ((M139.2 131 43 (Or.inr (by decide))).trans M127.1) ((M139.2 131 45 (Or.inr (by decide))).trans ((M127.2 131 45 (Or.inr (by decide))).trans ((M115.2 131 45 (Or.inl (by decide))).trans ((q93 131 45 (by decide)).trans ((M85.2 131 45 (Or.inr (by decide))).trans z2))))) z16 (fun j hj => ((M139.2 148 j (Or.inl (by decide))).trans ((M127.2 148 j (Or.inl (by decide))).trans ((M115.2 148 j (Or.inr hj)).trans ((q93 148 j (by simp [fz])).trans ((M85.2 148 j (Or.inl (by decide))).trans rfl)))))) (((M139.2 148 v15.toNatClampNeg (Or.inl (by decide))).trans ((M127.2 148 v15.toNatClampNeg (Or.inl (by decide))).trans rfl)).trans M115.1) (by omega) (Or.inl ⟨by omega, by omega, by omega, by omega⟩)))⟩ (nr_bool (R_of (lo := 0) (hi := 1) r145 rfl)) dX12_operand_125
        ·
          exfalso; omega
      ·
        have r146 : R (9) (2147483647) v68 := ⟨by omega, by omega⟩
        refine r_aload_n S dX12_operand_56 rfl (lv_at hl 3 rfl) ?_
        refine r_iconst S dX12_operand_57 (by decide) (fun v147 z148 => ?_)
        have r149 := R_eq z148
        refine r_ki (q_V (As := [.int v147]) (rest := []) (K := 38) (ci := 10) S X40 (c_X12_bad l G τ hI v147 (R_of (lo := -2147483648) (hi := 2147483647) r149 rfl)) ck12_183 (Nat.le_of_ble_eq_true rfl) rfl (fun _ => ⟨_, rfl⟩) ⟨_, _, rfl⟩ ⟨Nat.le_of_ble_eq_true rfl, Nat.le_of_ble_eq_true rfl⟩ rfl hl.1 rfl (Nat.le_of_ble_eq_true rfl) dX12_operand_58 ⟨Nat.le_refl 0, Nat.le_refl 0⟩) X40 (fun v153 t152 H lc q150 X151 => ?_)
        unfold po_X12_bad at q150
        obtain ⟨q154, q155, q156⟩ := q150
        have F157 : Fr [(131, 15), (131, 16), (131, 4), (131, 11), (131, 12), (131, 13), (131, 14), (131, 41), (131, 42), (131, 43), (131, 44), (131, 45)] [135, 148] τ t152 := Fr_call Fr_rfl q155 (by decide)
        exact r_ret S hr hlk X151 ⟨q154, F157, (R_of q156 rfl), (by rw [((q155 131 4 (by decide)).trans z4)]; exact R_of r5 rfl), (by rw [((q155 131 11 (by decide)).trans z7)]; exact R_of r50 rfl), (by have h1_0 := congrArg Int32.toInt ((q155 131 4 (by decide)).trans z4); have h2_0 := congrArg Int32.toInt z4; omega), (by have h1_0 := congrArg Int32.toInt ((q155 131 4 (by decide)).trans z4); have h2_0 := congrArg Int32.toInt z4; have h1_1 := congrArg Int32.toInt ((q155 131 11 (by decide)).trans z7); have h2_1 := congrArg Int32.toInt z7; omega), (by have h1_0 := congrArg Int32.toInt ((q155 131 11 (by decide)).trans z7); have h2_0 := congrArg Int32.toInt z7; omega), (by rw [((q155 131 41 (by decide)).trans z10)]; exact R_of r19 rfl), (by rw [((q155 131 42 (by decide)).trans z13)]; exact R_of r67 rfl), (by rw [((q155 131 43 (by decide)).trans z16)]; exact R_of r20 rfl), (by rw [((q155 131 45 (by decide)).trans z2)]; exact R_of hf_0 rfl), (fun h => by exfalso; omega)⟩ (nr_bool (R_of (lo := 0) (hi := 1) q156 rfl)) dX12_operand_61
  ·
    have r158 : R (0) (0) v25 := ⟨by omega, by omega⟩
    refine r_iload_n S dX12_operand_24 rfl (lv_at hl 1 rfl) ?_
    refine r_if_ne (tgt := 38) S dX12_operand_25 (by decide) (fun c159 => ?_) (fun c159 => ?_)
    ·
      have r160 : R (1) (1) v35 := ⟨by omega, by omega⟩
      have p161 := q38 (by omega)
      have r162 : R (3) (3) v6 := z7 ▸ p161
      have r163 : R (3) (3) v6 := ⟨by omega, by omega⟩
      refine r_aload_n S dX12_operand_38 rfl (lv_at hl 3 rfl) ?_
      refine r_geti (K := 38) S X40 (Nat.le_of_ble_eq_true rfl) rfl lk12_419_10 (fun _ => ⟨_, rfl, rfl⟩) z13 dX12_operand_39 ?_
      refine r_bipush S dX12_operand_42 (by decide) (fun v164 z165 => ?_)
      have r166 := R_eq z165
      refine r_icmp_eq (tgt := 56) S dX12_operand_44 (by decide) (fun c167 => ?_) (fun c167 => ?_)
      ·
        have r168 : R (20) (20) v12 := ⟨by omega, by omega⟩
        refine r_aload_n S dX12_operand_56 rfl (lv_at hl 3 rfl) ?_
        refine r_iconst S dX12_operand_57 (by decide) (fun v169 z170 => ?_)
        have r171 := R_eq z170
        refine r_ki (q_V (As := [.int v169]) (rest := []) (K := 38) (ci := 10) S X40 (c_X12_bad l G τ hI v169 (R_of (lo := -2147483648) (hi := 2147483647) r171 rfl)) ck12_183 (Nat.le_of_ble_eq_true rfl) rfl (fun _ => ⟨_, rfl⟩) ⟨_, _, rfl⟩ ⟨Nat.le_of_ble_eq_true rfl, Nat.le_of_ble_eq_true rfl⟩ rfl hl.1 rfl (Nat.le_of_ble_eq_true rfl) dX12_operand_58 ⟨Nat.le_refl 0, Nat.le_refl 0⟩) X40 (fun v175 t174 H lc q172 X173 => ?_)
        unfold po_X12_bad at q172
        obtain ⟨q176, q177, q178⟩ := q172
        have F179 : Fr [(131, 15), (131, 16), (131, 4), (131, 11), (131, 12), (131, 13), (131, 14), (131, 41), (131, 42), (131, 43), (131, 44), (131, 45)] [135, 148] τ t174 := Fr_call Fr_rfl q177 (by decide)
        exact r_ret S hr hlk X173 ⟨q176, F179, (R_of q178 rfl), (by rw [((q177 131 4 (by decide)).trans z4)]; exact R_of r5 rfl), (by rw [((q177 131 11 (by decide)).trans z7)]; exact R_of r163 rfl), (by have h1_0 := congrArg Int32.toInt ((q177 131 4 (by decide)).trans z4); have h2_0 := congrArg Int32.toInt z4; omega), (by have h1_0 := congrArg Int32.toInt ((q177 131 4 (by decide)).trans z4); have h2_0 := congrArg Int32.toInt z4; have h1_1 := congrArg Int32.toInt ((q177 131 11 (by decide)).trans z7); have h2_1 := congrArg Int32.toInt z7; omega), (by have h1_0 := congrArg Int32.toInt ((q177 131 11 (by decide)).trans z7); have h2_0 := congrArg Int32.toInt z7; omega), (by rw [((q177 131 41 (by decide)).trans z10)]; exact R_of r19 rfl), (by rw [((q177 131 42 (by decide)).trans z13)]; exact R_of r168 rfl), (by rw [((q177 131 43 (by decide)).trans z16)]; exact R_of r20 rfl), (by rw [((q177 131 45 (by decide)).trans z2)]; exact R_of hf_0 rfl), (fun h => by exfalso; omega)⟩ (nr_bool (R_of (lo := 0) (hi := 1) q178 rfl)) dX12_operand_61
      ·
        have r180 : R (0) (19) v12 := ⟨by omega, by omega⟩
        refine r_aload_n S dX12_operand_47 rfl (lv_at hl 3 rfl) ?_
        refine r_getn (K := 38) S X40 (Nat.le_of_ble_eq_true rfl) rfl lk12_413_10 (fun _ => ⟨_, rfl, rfl⟩) dX12_operand_48 (fun v181 z182 => ?_)
        have r184 := R_any v181
        refine r_bipush S dX12_operand_51 (by decide) (fun v185 z186 => ?_)
        have r187 := R_eq z186
        refine r_icmp_le (tgt := 62) S dX12_operand_53 (by decide) (fun c188 => ?_) (fun c188 => ?_)
        ·
          have r189 : R (-2147483648) (8) v181 := ⟨by omega, by omega⟩
          refine r_aload_n S dX12_operand_62 rfl (lv_at hl 3 rfl) ?_
          refine r_dup S dX12_operand_63 rfl ?_
          refine r_geti (K := 38) S X40 (Nat.le_of_ble_eq_true rfl) rfl lk12_419_10 (fun _ => ⟨_, rfl, rfl⟩) z13 dX12_operand_64 ?_
          refine r_iconst S dX12_operand_67 (by decide) (fun v190 z191 => ?_)
          have r192 := R_eq z191
          refine r_iadd S dX12_operand_68 (fun v193 z194 => ?_)
          obtain ⟨e195, r196⟩ := i_add (lo := 1) (hi := 20) z194 r180 r192 rfl
          refine r_put (K := 38) (ty := .int) S X40 (Nat.le_of_ble_eq_true rfl) rfl lk12_419_10 (fun _ => ⟨_, rfl, Nat.le_of_ble_eq_true rfl, rfl⟩) (fun _ _ _ h => by cases h; exact ⟨rfl, rfl⟩) rfl rfl dX12_operand_69 (fun t197 H lc M198 X199 => ?_)
          have I200 := Inv_mu hI M198 (show Rg (kd 131) 42 v193 from (R_of (lo := 0) (hi := 20) r196 rfl))
          have F201 : Fr [(131, 15), (131, 16), (131, 4), (131, 11), (131, 12), (131, 13), (131, 14), (131, 41), (131, 42), (131, 43), (131, 44), (131, 45)] [135, 148] τ t197 := Fr_mu Fr_rfl M198 (by decide)
          refine r_aload_n S dX12_operand_72 rfl (lv_at hl 3 rfl) ?_
          refine r_kv (q_V (As := []) (rest := []) (K := 38) (ci := 10) S X199 (c_X12_skip l G t197 I200 ) ck12_186 (Nat.le_of_ble_eq_true rfl) rfl (fun _ => ⟨_, rfl⟩) ⟨_, _, rfl⟩ ⟨Nat.le_of_ble_eq_true rfl, Nat.le_of_ble_eq_true rfl⟩ rfl hl.1 rfl (Nat.le_of_ble_eq_true rfl) dX12_operand_73 ⟨Nat.le_refl 0, Nat.le_refl 0⟩) X199 (fun t204 H lc q202 X203 => ?_)
          unfold po_X12_skip at q202
          obtain ⟨q205, q206, q207, q208, q209, q210⟩ := q202
          have F211 : Fr [(131, 15), (131, 16), (131, 4), (131, 11), (131, 12), (131, 13), (131, 14), (131, 41), (131, 42), (131, 43), (131, 44), (131, 45)] [135, 148] τ t204 := Fr_call F201 q206 (by decide)
          obtain ⟨v212, z213⟩ : ∃ x, t204 131 4 = x := ⟨_, rfl⟩
          rw [z213] at q207
          obtain ⟨v214, z215⟩ : ∃ x, t204 131 11 = x := ⟨_, rfl⟩
          rw [z215] at q208
          have e216 := congrArg Int32.toInt ((M198.2 131 4 (Or.inr (by decide))).trans z4)
          have e217 := congrArg Int32.toInt z213
          have e218 := congrArg Int32.toInt ((M198.2 131 4 (Or.inr (by decide))).trans z4)
          have e219 := congrArg Int32.toInt z213
          have e220 := congrArg Int32.toInt ((M198.2 131 11 (Or.inr (by decide))).trans z7)
          have e221 := congrArg Int32.toInt z215
          refine r_iload_n S dX12_operand_76 rfl (lv_at hl 2 rfl) ?_
          refine r_if_ne (tgt := 84) S dX12_operand_77 (by decide) (fun c222 => ?_) (fun c222 => ?_)
          ·
            exfalso; omega
          ·
            refine r_iload_n S dX12_operand_80 rfl (lv_at hl 1 rfl) ?_
            refine r_if_eq (tgt := 126) S dX12_operand_81 (by decide) (fun c223 => ?_) (fun c223 => ?_)
            ·
              exfalso; omega
            ·
              refine r_aload_n S dX12_operand_84 rfl (lv_at hl 3 rfl) ?_
              refine r_get (K := 38) (v := .ref (G.2.2.2.1 148)) S X203 (Nat.le_of_ble_eq_true rfl) rfl lk12_84_10 (fun _ => ⟨_, rfl, rfl⟩) dX12_operand_85 ?_
              refine r_aload_n S dX12_operand_88 rfl (lv_at hl 3 rfl) ?_
              refine r_geti (K := 38) S X203 (Nat.le_of_ble_eq_true rfl) rfl lk12_407_10 (fun _ => ⟨_, rfl, rfl⟩) ((q206 131 43 (by decide)).trans ((M198.2 131 43 (Or.inr (by decide))).trans z16)) dX12_operand_89 ?_
              refine r_iload_n S dX12_operand_92 rfl (lv_at hl 2 rfl) ?_
              refine r_if_eq (tgt := 101) S dX12_operand_93 (by decide) (fun c224 => ?_) (fun c224 => ?_)
              ·
                refine r_bipush S dX12_operand_101 (by decide) (fun v225 z226 => ?_)
                have r227 := R_eq z226
                refine r_ast (n := 45) (K := 55) S X203 (Nat.le_of_ble_eq_true rfl) rfl (fun _ _ => rfl) (ix_of r20 rfl) dX12_operand_103 (fun t228 H lc M229 X230 => ?_)
                have I231 := Inv_mu q205 M229 (R_any v225)
                have F232 : Fr [(131, 15), (131, 16), (131, 4), (131, 11), (131, 12), (131, 13), (131, 14), (131, 41), (131, 42), (131, 43), (131, 44), (131, 45)] [135, 148] τ t228 := Fr_cell F211 M229 (by decide)
                refine r_aload_n S dX12_operand_104 rfl (lv_at hl 3 rfl) ?_
                refine r_dup S dX12_operand_105 rfl ?_
                refine r_geti (K := 38) S X230 (Nat.le_of_ble_eq_true rfl) rfl lk12_407_10 (fun _ => ⟨_, rfl, rfl⟩) ((M229.2 131 43 (Or.inl (by decide))).trans ((q206 131 43 (by decide)).trans ((M198.2 131 43 (Or.inr (by decide))).trans z16))) dX12_operand_106 ?_
                refine r_iconst S dX12_operand_109 (by decide) (fun v233 z234 => ?_)
                have r235 := R_eq z234
                refine r_iadd S dX12_operand_110 (fun v236 z237 => ?_)
                obtain ⟨e238, r239⟩ := i_add (lo := 1) (hi := 41) z237 r20 r235 rfl
                refine r_put (K := 38) (ty := .int) S X230 (Nat.le_of_ble_eq_true rfl) rfl lk12_407_10 (fun _ => ⟨_, rfl, Nat.le_of_ble_eq_true rfl, rfl⟩) (fun _ _ _ h => by cases h; exact ⟨rfl, rfl⟩) rfl rfl dX12_operand_111 (fun t240 H lc M241 X242 => ?_)
                have I243 := Inv_mu I231 M241 (show Rg (kd 131) 43 v236 from (R_of (lo := 0) (hi := 45) r239 rfl))
                have F244 : Fr [(131, 15), (131, 16), (131, 4), (131, 11), (131, 12), (131, 13), (131, 14), (131, 41), (131, 42), (131, 43), (131, 44), (131, 45)] [135, 148] τ t240 := Fr_mu F232 M241 (by decide)
                refine r_aload_n S dX12_operand_114 rfl (lv_at hl 3 rfl) ?_
                refine r_dup S dX12_operand_115 rfl ?_
                refine r_geti (K := 38) S X242 (Nat.le_of_ble_eq_true rfl) rfl lk12_413_10 (fun _ => ⟨_, rfl, rfl⟩) ((M241.2 131 44 (Or.inr (by decide))).trans ((M229.2 131 44 (Or.inl (by decide))).trans ((q206 131 44 (by decide)).trans ((M198.2 131 44 (Or.inr (by decide))).trans z182)))) dX12_operand_116 ?_
                refine r_iconst S dX12_operand_119 (by decide) (fun v245 z246 => ?_)
                have r247 := R_eq z246
                refine r_iadd S dX12_operand_120 (fun v248 z249 => ?_)
                obtain ⟨e250, r251⟩ := i_add (lo := -2147483647) (hi := 9) z249 r189 r247 rfl
                refine r_put (K := 38) (ty := .int) S X242 (Nat.le_of_ble_eq_true rfl) rfl lk12_413_10 (fun _ => ⟨_, rfl, Nat.le_of_ble_eq_true rfl, rfl⟩) (fun _ _ _ h => by cases h; exact ⟨rfl, rfl⟩) rfl rfl dX12_operand_121 (fun t252 H lc M253 X254 => ?_)
                have I255 := Inv_mu I243 M253 (R_any v248)
                have F256 : Fr [(131, 15), (131, 16), (131, 4), (131, 11), (131, 12), (131, 13), (131, 14), (131, 41), (131, 42), (131, 43), (131, 44), (131, 45)] [135, 148] τ t252 := Fr_mu F244 M253 (by decide)
                refine r_iconst S dX12_operand_124 (by decide) (fun v257 z258 => ?_)
                have r259 := R_eq z258
                exact r_ret S hr hlk X254 ⟨I255, F256, (R_of r259 rfl), (by rw [((M253.2 131 4 (Or.inr (by decide))).trans ((M241.2 131 4 (Or.inr (by decide))).trans ((M229.2 131 4 (Or.inl (by decide))).trans z213)))]; exact R_of q207 rfl), (by rw [((M253.2 131 11 (Or.inr (by decide))).trans ((M241.2 131 11 (Or.inr (by decide))).trans ((M229.2 131 11 (Or.inl (by decide))).trans z215)))]; exact R_of q208 rfl), (by have h1_0 := congrArg Int32.toInt ((M253.2 131 4 (Or.inr (by decide))).trans ((M241.2 131 4 (Or.inr (by decide))).trans ((M229.2 131 4 (Or.inl (by decide))).trans z213))); have h2_0 := congrArg Int32.toInt z4; omega), (by have h1_0 := congrArg Int32.toInt ((M253.2 131 4 (Or.inr (by decide))).trans ((M241.2 131 4 (Or.inr (by decide))).trans ((M229.2 131 4 (Or.inl (by decide))).trans z213))); have h2_0 := congrArg Int32.toInt z4; have h1_1 := congrArg Int32.toInt ((M253.2 131 11 (Or.inr (by decide))).trans ((M241.2 131 11 (Or.inr (by decide))).trans ((M229.2 131 11 (Or.inl (by decide))).trans z215))); have h2_1 := congrArg Int32.toInt z7; omega), (by have h1_0 := congrArg Int32.toInt ((M253.2 131 11 (Or.inr (by decide))).trans ((M241.2 131 11 (Or.inr (by decide))).trans ((M229.2 131 11 (Or.inl (by decide))).trans z215))); have h2_0 := congrArg Int32.toInt z7; omega), (by rw [((M253.2 131 41 (Or.inr (by decide))).trans ((M241.2 131 41 (Or.inr (by decide))).trans ((M229.2 131 41 (Or.inl (by decide))).trans ((q206 131 41 (by decide)).trans ((M198.2 131 41 (Or.inr (by decide))).trans z10)))))]; exact R_of r19 rfl), (by rw [((M253.2 131 42 (Or.inr (by decide))).trans ((M241.2 131 42 (Or.inr (by decide))).trans ((M229.2 131 42 (Or.inl (by decide))).trans ((q206 131 42 (by decide)).trans M198.1))))]; exact R_of r196 rfl), (by rw [((M253.2 131 43 (Or.inr (by decide))).trans M241.1)]; exact R_of r239 rfl), (by rw [((M253.2 131 45 (Or.inr (by decide))).trans ((M241.2 131 45 (Or.inr (by decide))).trans ((M229.2 131 45 (Or.inl (by decide))).trans ((q206 131 45 (by decide)).trans ((M198.2 131 45 (Or.inr (by decide))).trans z2)))))]; exact R_of hf_0 rfl), (fun _ => (by have n1 := congrArg Int32.toInt z13; have n2 := congrArg Int32.toInt z2; exact SI_push hp_0 (fun j => ((M253.2 135 j (Or.inl (by decide))).trans ((M241.2 135 j (Or.inl (by decide))).trans ((M229.2 135 j (Or.inl (by decide))).trans ((q206 135 j (by simp [fz])).trans ((M198.2 135 j (Or.inl (by decide))).trans rfl)))))) ((M253.2 131 41 (Or.inr (by decide))).trans ((M241.2 131 41 (Or.inr (by decide))).trans ((M229.2 131 41 (Or.inl (by decide))).trans ((q206 131 41 (by decide)).trans ((M198.2 131 41 (Or.inr (by decide))).trans rfl))))) ((M253.2 131 42 (Or.inr (by decide))).trans ((M241.2 131 42 (Or.inr (by decide))).trans ((M229.2 131 42 (Or.inl (by decide))).trans ((q206 131 42 (by decide)).trans M198.1)))) ((M253.2 131 43 (Or.inr (by decide))).trans M241.1) ((M253.2 131 45 (Or.inr (by decide))).trans ((M241.2 131 45 (Or.inr (by decide))).trans ((M229.2 131 45 (Or.inl (by decide))).trans ((q206 131 45 (by decide)).trans ((M198.2 131 45 (Or.inr (by decide))).trans z2))))) z16 (fun j hj => ((M253.2 148 j (Or.inl (by decide))).trans ((M241.2 148 j (Or.inl (by decide))).trans ((M229.2 148 j (Or.inr hj)).trans ((q206 148 j (by simp [fz])).trans ((M198.2 148 j (Or.inl (by decide))).trans rfl)))))) (((M253.2 148 v15.toNatClampNeg (Or.inl (by decide))).trans ((M241.2 148 v15.toNatClampNeg (Or.inl (by decide))).trans rfl)).trans M229.1) (by omega) (Or.inl ⟨by omega, by omega, by omega, by omega⟩)))⟩ (nr_bool (R_of (lo := 0) (hi := 1) r259 rfl)) dX12_operand_125
              ·
                exfalso; omega
        ·
          have r260 : R (9) (2147483647) v181 := ⟨by omega, by omega⟩
          refine r_aload_n S dX12_operand_56 rfl (lv_at hl 3 rfl) ?_
          refine r_iconst S dX12_operand_57 (by decide) (fun v261 z262 => ?_)
          have r263 := R_eq z262
          refine r_ki (q_V (As := [.int v261]) (rest := []) (K := 38) (ci := 10) S X40 (c_X12_bad l G τ hI v261 (R_of (lo := -2147483648) (hi := 2147483647) r263 rfl)) ck12_183 (Nat.le_of_ble_eq_true rfl) rfl (fun _ => ⟨_, rfl⟩) ⟨_, _, rfl⟩ ⟨Nat.le_of_ble_eq_true rfl, Nat.le_of_ble_eq_true rfl⟩ rfl hl.1 rfl (Nat.le_of_ble_eq_true rfl) dX12_operand_58 ⟨Nat.le_refl 0, Nat.le_refl 0⟩) X40 (fun v267 t266 H lc q264 X265 => ?_)
          unfold po_X12_bad at q264
          obtain ⟨q268, q269, q270⟩ := q264
          have F271 : Fr [(131, 15), (131, 16), (131, 4), (131, 11), (131, 12), (131, 13), (131, 14), (131, 41), (131, 42), (131, 43), (131, 44), (131, 45)] [135, 148] τ t266 := Fr_call Fr_rfl q269 (by decide)
          exact r_ret S hr hlk X265 ⟨q268, F271, (R_of q270 rfl), (by rw [((q269 131 4 (by decide)).trans z4)]; exact R_of r5 rfl), (by rw [((q269 131 11 (by decide)).trans z7)]; exact R_of r163 rfl), (by have h1_0 := congrArg Int32.toInt ((q269 131 4 (by decide)).trans z4); have h2_0 := congrArg Int32.toInt z4; omega), (by have h1_0 := congrArg Int32.toInt ((q269 131 4 (by decide)).trans z4); have h2_0 := congrArg Int32.toInt z4; have h1_1 := congrArg Int32.toInt ((q269 131 11 (by decide)).trans z7); have h2_1 := congrArg Int32.toInt z7; omega), (by have h1_0 := congrArg Int32.toInt ((q269 131 11 (by decide)).trans z7); have h2_0 := congrArg Int32.toInt z7; omega), (by rw [((q269 131 41 (by decide)).trans z10)]; exact R_of r19 rfl), (by rw [((q269 131 42 (by decide)).trans z13)]; exact R_of r180 rfl), (by rw [((q269 131 43 (by decide)).trans z16)]; exact R_of r20 rfl), (by rw [((q269 131 45 (by decide)).trans z2)]; exact R_of hf_0 rfl), (fun h => by exfalso; omega)⟩ (nr_bool (R_of (lo := 0) (hi := 1) q270 rfl)) dX12_operand_61
    ·
      have r272 : R (0) (0) v35 := ⟨by omega, by omega⟩
      refine r_iload_n S dX12_operand_28 rfl (lv_at hl 0 rfl) ?_
      refine r_if_ge (tgt := 38) S dX12_operand_29 (by decide) (fun c273 => ?_) (fun c273 => ?_)
      ·
        have r274 : R (0) (9) v42 := ⟨by omega, by omega⟩
        have p275 := q45 (by omega)
        have r276 : R (1) (1) v6 := z7 ▸ p275
        have r277 : R (1) (1) v6 := ⟨by omega, by omega⟩
        refine r_aload_n S dX12_operand_38 rfl (lv_at hl 3 rfl) ?_
        refine r_geti (K := 38) S X40 (Nat.le_of_ble_eq_true rfl) rfl lk12_419_10 (fun _ => ⟨_, rfl, rfl⟩) z13 dX12_operand_39 ?_
        refine r_bipush S dX12_operand_42 (by decide) (fun v278 z279 => ?_)
        have r280 := R_eq z279
        refine r_icmp_eq (tgt := 56) S dX12_operand_44 (by decide) (fun c281 => ?_) (fun c281 => ?_)
        ·
          have r282 : R (20) (20) v12 := ⟨by omega, by omega⟩
          refine r_aload_n S dX12_operand_56 rfl (lv_at hl 3 rfl) ?_
          refine r_iconst S dX12_operand_57 (by decide) (fun v283 z284 => ?_)
          have r285 := R_eq z284
          refine r_ki (q_V (As := [.int v283]) (rest := []) (K := 38) (ci := 10) S X40 (c_X12_bad l G τ hI v283 (R_of (lo := -2147483648) (hi := 2147483647) r285 rfl)) ck12_183 (Nat.le_of_ble_eq_true rfl) rfl (fun _ => ⟨_, rfl⟩) ⟨_, _, rfl⟩ ⟨Nat.le_of_ble_eq_true rfl, Nat.le_of_ble_eq_true rfl⟩ rfl hl.1 rfl (Nat.le_of_ble_eq_true rfl) dX12_operand_58 ⟨Nat.le_refl 0, Nat.le_refl 0⟩) X40 (fun v289 t288 H lc q286 X287 => ?_)
          unfold po_X12_bad at q286
          obtain ⟨q290, q291, q292⟩ := q286
          have F293 : Fr [(131, 15), (131, 16), (131, 4), (131, 11), (131, 12), (131, 13), (131, 14), (131, 41), (131, 42), (131, 43), (131, 44), (131, 45)] [135, 148] τ t288 := Fr_call Fr_rfl q291 (by decide)
          exact r_ret S hr hlk X287 ⟨q290, F293, (R_of q292 rfl), (by rw [((q291 131 4 (by decide)).trans z4)]; exact R_of r5 rfl), (by rw [((q291 131 11 (by decide)).trans z7)]; exact R_of r277 rfl), (by have h1_0 := congrArg Int32.toInt ((q291 131 4 (by decide)).trans z4); have h2_0 := congrArg Int32.toInt z4; omega), (by have h1_0 := congrArg Int32.toInt ((q291 131 4 (by decide)).trans z4); have h2_0 := congrArg Int32.toInt z4; have h1_1 := congrArg Int32.toInt ((q291 131 11 (by decide)).trans z7); have h2_1 := congrArg Int32.toInt z7; omega), (by have h1_0 := congrArg Int32.toInt ((q291 131 11 (by decide)).trans z7); have h2_0 := congrArg Int32.toInt z7; omega), (by rw [((q291 131 41 (by decide)).trans z10)]; exact R_of r19 rfl), (by rw [((q291 131 42 (by decide)).trans z13)]; exact R_of r282 rfl), (by rw [((q291 131 43 (by decide)).trans z16)]; exact R_of r20 rfl), (by rw [((q291 131 45 (by decide)).trans z2)]; exact R_of hf_0 rfl), (fun h => by exfalso; omega)⟩ (nr_bool (R_of (lo := 0) (hi := 1) q292 rfl)) dX12_operand_61
        ·
          have r294 : R (0) (19) v12 := ⟨by omega, by omega⟩
          refine r_aload_n S dX12_operand_47 rfl (lv_at hl 3 rfl) ?_
          refine r_getn (K := 38) S X40 (Nat.le_of_ble_eq_true rfl) rfl lk12_413_10 (fun _ => ⟨_, rfl, rfl⟩) dX12_operand_48 (fun v295 z296 => ?_)
          have r298 := R_any v295
          refine r_bipush S dX12_operand_51 (by decide) (fun v299 z300 => ?_)
          have r301 := R_eq z300
          refine r_icmp_le (tgt := 62) S dX12_operand_53 (by decide) (fun c302 => ?_) (fun c302 => ?_)
          ·
            have r303 : R (-2147483648) (8) v295 := ⟨by omega, by omega⟩
            refine r_aload_n S dX12_operand_62 rfl (lv_at hl 3 rfl) ?_
            refine r_dup S dX12_operand_63 rfl ?_
            refine r_geti (K := 38) S X40 (Nat.le_of_ble_eq_true rfl) rfl lk12_419_10 (fun _ => ⟨_, rfl, rfl⟩) z13 dX12_operand_64 ?_
            refine r_iconst S dX12_operand_67 (by decide) (fun v304 z305 => ?_)
            have r306 := R_eq z305
            refine r_iadd S dX12_operand_68 (fun v307 z308 => ?_)
            obtain ⟨e309, r310⟩ := i_add (lo := 1) (hi := 20) z308 r294 r306 rfl
            refine r_put (K := 38) (ty := .int) S X40 (Nat.le_of_ble_eq_true rfl) rfl lk12_419_10 (fun _ => ⟨_, rfl, Nat.le_of_ble_eq_true rfl, rfl⟩) (fun _ _ _ h => by cases h; exact ⟨rfl, rfl⟩) rfl rfl dX12_operand_69 (fun t311 H lc M312 X313 => ?_)
            have I314 := Inv_mu hI M312 (show Rg (kd 131) 42 v307 from (R_of (lo := 0) (hi := 20) r310 rfl))
            have F315 : Fr [(131, 15), (131, 16), (131, 4), (131, 11), (131, 12), (131, 13), (131, 14), (131, 41), (131, 42), (131, 43), (131, 44), (131, 45)] [135, 148] τ t311 := Fr_mu Fr_rfl M312 (by decide)
            refine r_aload_n S dX12_operand_72 rfl (lv_at hl 3 rfl) ?_
            refine r_kv (q_V (As := []) (rest := []) (K := 38) (ci := 10) S X313 (c_X12_skip l G t311 I314 ) ck12_186 (Nat.le_of_ble_eq_true rfl) rfl (fun _ => ⟨_, rfl⟩) ⟨_, _, rfl⟩ ⟨Nat.le_of_ble_eq_true rfl, Nat.le_of_ble_eq_true rfl⟩ rfl hl.1 rfl (Nat.le_of_ble_eq_true rfl) dX12_operand_73 ⟨Nat.le_refl 0, Nat.le_refl 0⟩) X313 (fun t318 H lc q316 X317 => ?_)
            unfold po_X12_skip at q316
            obtain ⟨q319, q320, q321, q322, q323, q324⟩ := q316
            have F325 : Fr [(131, 15), (131, 16), (131, 4), (131, 11), (131, 12), (131, 13), (131, 14), (131, 41), (131, 42), (131, 43), (131, 44), (131, 45)] [135, 148] τ t318 := Fr_call F315 q320 (by decide)
            obtain ⟨v326, z327⟩ : ∃ x, t318 131 4 = x := ⟨_, rfl⟩
            rw [z327] at q321
            obtain ⟨v328, z329⟩ : ∃ x, t318 131 11 = x := ⟨_, rfl⟩
            rw [z329] at q322
            have e330 := congrArg Int32.toInt ((M312.2 131 4 (Or.inr (by decide))).trans z4)
            have e331 := congrArg Int32.toInt z327
            have e332 := congrArg Int32.toInt ((M312.2 131 4 (Or.inr (by decide))).trans z4)
            have e333 := congrArg Int32.toInt z327
            have e334 := congrArg Int32.toInt ((M312.2 131 11 (Or.inr (by decide))).trans z7)
            have e335 := congrArg Int32.toInt z329
            refine r_iload_n S dX12_operand_76 rfl (lv_at hl 2 rfl) ?_
            refine r_if_ne (tgt := 84) S dX12_operand_77 (by decide) (fun c336 => ?_) (fun c336 => ?_)
            ·
              exfalso; omega
            ·
              refine r_iload_n S dX12_operand_80 rfl (lv_at hl 1 rfl) ?_
              refine r_if_eq (tgt := 126) S dX12_operand_81 (by decide) (fun c337 => ?_) (fun c337 => ?_)
              ·
                refine r_aload_n S dX12_operand_126 rfl (lv_at hl 3 rfl) ?_
                refine r_iconst S dX12_operand_127 (by decide) (fun v338 z339 => ?_)
                have r340 := R_eq z339
                refine r_put (K := 38) (ty := .boolean) S X317 (Nat.le_of_ble_eq_true rfl) rfl lk12_422_10 (fun _ => ⟨_, rfl, Nat.le_of_ble_eq_true rfl, rfl⟩) (fun _ _ _ h => by cases h; exact ⟨rfl, rfl⟩) (nr_bool (R_of (lo := 0) (hi := 1) r340 rfl)) (ft_bool (R_of (lo := 0) (hi := 1) r340 rfl)) dX12_operand_128 (fun t341 H lc M342 X343 => ?_)
                have I344 := Inv_mu q319 M342 (show Rg (kd 131) 45 v338 from (R_of (lo := 0) (hi := 1) r340 rfl))
                have F345 : Fr [(131, 15), (131, 16), (131, 4), (131, 11), (131, 12), (131, 13), (131, 14), (131, 41), (131, 42), (131, 43), (131, 44), (131, 45)] [135, 148] τ t341 := Fr_mu F325 M342 (by decide)
                refine r_iload_n S dX12_operand_131 rfl (lv_at hl 0 rfl) ?_
                refine r_iconst S dX12_operand_132 (by decide) (fun v346 z347 => ?_)
                have r348 := R_eq z347
                refine r_icmp_ge (tgt := 145) S dX12_operand_133 (by decide) (fun c349 => ?_) (fun c349 => ?_)
                ·
                  have r350 : R (3) (9) v42 := ⟨by omega, by omega⟩
                  have p351 := q45 (by omega)
                  refine r_iload_n S dX12_operand_145 rfl (lv_at hl 0 rfl) ?_
                  refine r_bipush S dX12_operand_146 (by decide) (fun v352 z353 => ?_)
                  have r354 := R_eq z353
                  refine r_icmp_ge (tgt := 222) S dX12_operand_148 (by decide) (fun c355 => ?_) (fun c355 => ?_)
                  ·
                    have r356 : R (6) (9) v42 := ⟨by omega, by omega⟩
                    have p357 := q45 (by omega)
                    refine r_aload_n S dX12_operand_222 rfl (lv_at hl 3 rfl) ?_
                    refine r_geti (K := 38) S X343 (Nat.le_of_ble_eq_true rfl) rfl lk12_157_10 (fun _ => ⟨_, rfl, rfl⟩) ((M342.2 131 11 (Or.inr (by decide))).trans z329) dX12_operand_223 ?_
                    refine r_iconst S dX12_operand_226 (by decide) (fun v358 z359 => ?_)
                    have r360 := R_eq z359
                    refine r_icmp_ne (tgt := 248) S dX12_operand_227 (by decide) (fun c361 => ?_) (fun c361 => ?_)
                    ·
                      refine r_aload_n S dX12_operand_248 rfl (lv_at hl 3 rfl) ?_
                      refine r_iconst S dX12_operand_249 (by decide) (fun v362 z363 => ?_)
                      have r364 := R_eq z363
                      refine r_ki (q_V (As := [.int v362]) (rest := []) (K := 38) (ci := 10) S X343 (c_X12_bad l G t341 I344 v362 (R_of (lo := -2147483648) (hi := 2147483647) r364 rfl)) ck12_183 (Nat.le_of_ble_eq_true rfl) rfl (fun _ => ⟨_, rfl⟩) ⟨_, _, rfl⟩ ⟨Nat.le_of_ble_eq_true rfl, Nat.le_of_ble_eq_true rfl⟩ rfl hl.1 rfl (Nat.le_of_ble_eq_true rfl) dX12_operand_250 ⟨Nat.le_refl 0, Nat.le_refl 0⟩) X343 (fun v368 t367 H lc q365 X366 => ?_)
                      unfold po_X12_bad at q365
                      obtain ⟨q369, q370, q371⟩ := q365
                      have F372 : Fr [(131, 15), (131, 16), (131, 4), (131, 11), (131, 12), (131, 13), (131, 14), (131, 41), (131, 42), (131, 43), (131, 44), (131, 45)] [135, 148] τ t367 := Fr_call F345 q370 (by decide)
                      exact r_ret S hr hlk X366 ⟨q369, F372, (R_of q371 rfl), (by rw [((q370 131 4 (by decide)).trans ((M342.2 131 4 (Or.inr (by decide))).trans z327))]; exact R_of q321 rfl), (by rw [((q370 131 11 (by decide)).trans ((M342.2 131 11 (Or.inr (by decide))).trans z329))]; exact R_of q322 rfl), (by have h1_0 := congrArg Int32.toInt ((q370 131 4 (by decide)).trans ((M342.2 131 4 (Or.inr (by decide))).trans z327)); have h2_0 := congrArg Int32.toInt z4; omega), (by have h1_0 := congrArg Int32.toInt ((q370 131 4 (by decide)).trans ((M342.2 131 4 (Or.inr (by decide))).trans z327)); have h2_0 := congrArg Int32.toInt z4; have h1_1 := congrArg Int32.toInt ((q370 131 11 (by decide)).trans ((M342.2 131 11 (Or.inr (by decide))).trans z329)); have h2_1 := congrArg Int32.toInt z7; omega), (by have h1_0 := congrArg Int32.toInt ((q370 131 11 (by decide)).trans ((M342.2 131 11 (Or.inr (by decide))).trans z329)); have h2_0 := congrArg Int32.toInt z7; omega), (by rw [((q370 131 41 (by decide)).trans ((M342.2 131 41 (Or.inr (by decide))).trans ((q320 131 41 (by decide)).trans ((M312.2 131 41 (Or.inr (by decide))).trans z10))))]; exact R_of r19 rfl), (by rw [((q370 131 42 (by decide)).trans ((M342.2 131 42 (Or.inr (by decide))).trans ((q320 131 42 (by decide)).trans M312.1)))]; exact R_of r310 rfl), (by rw [((q370 131 43 (by decide)).trans ((M342.2 131 43 (Or.inr (by decide))).trans ((q320 131 43 (by decide)).trans ((M312.2 131 43 (Or.inr (by decide))).trans z16))))]; exact R_of r20 rfl), (by rw [((q370 131 45 (by decide)).trans M342.1)]; exact R_of r340 rfl), (fun h => by exfalso; omega)⟩ (nr_bool (R_of (lo := 0) (hi := 1) q371 rfl)) dX12_operand_253
                    ·
                      have r373 : R (3) (3) v328 := ⟨by omega, by omega⟩
                      refine r_aload_n S dX12_operand_230 rfl (lv_at hl 3 rfl) ?_
                      refine r_getn (K := 38) S X343 (Nat.le_of_ble_eq_true rfl) rfl lk12_167_10 (fun _ => ⟨_, rfl, rfl⟩) dX12_operand_231 (fun v374 z375 => ?_)
                      have r377 := R_any v374
                      refine r_bipush S dX12_operand_234 (by decide) (fun v378 z379 => ?_)
                      have r380 := R_eq z379
                      refine r_icmp_lt (tgt := 248) S dX12_operand_236 (by decide) (fun c381 => ?_) (fun c381 => ?_)
                      ·
                        have r382 : R (-2147483648) (59) v374 := ⟨by omega, by omega⟩
                        refine r_aload_n S dX12_operand_248 rfl (lv_at hl 3 rfl) ?_
                        refine r_iconst S dX12_operand_249 (by decide) (fun v383 z384 => ?_)
                        have r385 := R_eq z384
                        refine r_ki (q_V (As := [.int v383]) (rest := []) (K := 38) (ci := 10) S X343 (c_X12_bad l G t341 I344 v383 (R_of (lo := -2147483648) (hi := 2147483647) r385 rfl)) ck12_183 (Nat.le_of_ble_eq_true rfl) rfl (fun _ => ⟨_, rfl⟩) ⟨_, _, rfl⟩ ⟨Nat.le_of_ble_eq_true rfl, Nat.le_of_ble_eq_true rfl⟩ rfl hl.1 rfl (Nat.le_of_ble_eq_true rfl) dX12_operand_250 ⟨Nat.le_refl 0, Nat.le_refl 0⟩) X343 (fun v389 t388 H lc q386 X387 => ?_)
                        unfold po_X12_bad at q386
                        obtain ⟨q390, q391, q392⟩ := q386
                        have F393 : Fr [(131, 15), (131, 16), (131, 4), (131, 11), (131, 12), (131, 13), (131, 14), (131, 41), (131, 42), (131, 43), (131, 44), (131, 45)] [135, 148] τ t388 := Fr_call F345 q391 (by decide)
                        exact r_ret S hr hlk X387 ⟨q390, F393, (R_of q392 rfl), (by rw [((q391 131 4 (by decide)).trans ((M342.2 131 4 (Or.inr (by decide))).trans z327))]; exact R_of q321 rfl), (by rw [((q391 131 11 (by decide)).trans ((M342.2 131 11 (Or.inr (by decide))).trans z329))]; exact R_of r373 rfl), (by have h1_0 := congrArg Int32.toInt ((q391 131 4 (by decide)).trans ((M342.2 131 4 (Or.inr (by decide))).trans z327)); have h2_0 := congrArg Int32.toInt z4; omega), (by have h1_0 := congrArg Int32.toInt ((q391 131 4 (by decide)).trans ((M342.2 131 4 (Or.inr (by decide))).trans z327)); have h2_0 := congrArg Int32.toInt z4; have h1_1 := congrArg Int32.toInt ((q391 131 11 (by decide)).trans ((M342.2 131 11 (Or.inr (by decide))).trans z329)); have h2_1 := congrArg Int32.toInt z7; omega), (by have h1_0 := congrArg Int32.toInt ((q391 131 11 (by decide)).trans ((M342.2 131 11 (Or.inr (by decide))).trans z329)); have h2_0 := congrArg Int32.toInt z7; omega), (by rw [((q391 131 41 (by decide)).trans ((M342.2 131 41 (Or.inr (by decide))).trans ((q320 131 41 (by decide)).trans ((M312.2 131 41 (Or.inr (by decide))).trans z10))))]; exact R_of r19 rfl), (by rw [((q391 131 42 (by decide)).trans ((M342.2 131 42 (Or.inr (by decide))).trans ((q320 131 42 (by decide)).trans M312.1)))]; exact R_of r310 rfl), (by rw [((q391 131 43 (by decide)).trans ((M342.2 131 43 (Or.inr (by decide))).trans ((q320 131 43 (by decide)).trans ((M312.2 131 43 (Or.inr (by decide))).trans z16))))]; exact R_of r20 rfl), (by rw [((q391 131 45 (by decide)).trans M342.1)]; exact R_of r340 rfl), (fun h => by exfalso; omega)⟩ (nr_bool (R_of (lo := 0) (hi := 1) q392 rfl)) dX12_operand_253
                      ·
                        have r394 : R (60) (2147483647) v374 := ⟨by omega, by omega⟩
                        refine r_aload_n S dX12_operand_239 rfl (lv_at hl 3 rfl) ?_
                        refine r_geti (K := 38) S X343 (Nat.le_of_ble_eq_true rfl) rfl lk12_167_10 (fun _ => ⟨_, rfl, rfl⟩) z375 dX12_operand_240 ?_
                        refine r_bipush S dX12_operand_243 (by decide) (fun v395 z396 => ?_)
                        have r397 := R_eq z396
                        refine r_icmp_le (tgt := 254) S dX12_operand_245 (by decide) (fun c398 => ?_) (fun c398 => ?_)
                        ·
                          have r399 : R (60) (62) v374 := ⟨by omega, by omega⟩
                          refine r_aload_n S dX12_operand_254 rfl (lv_at hl 3 rfl) ?_
                          refine r_geti (K := 38) S X343 (Nat.le_of_ble_eq_true rfl) rfl lk12_167_10 (fun _ => ⟨_, rfl, rfl⟩) z375 dX12_operand_255 ?_
                          refine r_istore (lv' := [(4, .int v374), (3, .int v42), (2, .int v35), (1, .int v25), (0, .ref (G.2.2.2.1 131))]) S dX12_operand_258 hl (by decide) rfl (fun ls hl => ?_)
                          refine r_aload_n S dX12_operand_260 rfl (lv_at hl 4 rfl) ?_
                          refine r_kv (q_V (As := []) (rest := []) (K := 38) (ci := 10) S X343 (c_X12_skip l G t341 I344 ) ck12_186 (Nat.le_of_ble_eq_true rfl) rfl (fun _ => ⟨_, rfl⟩) ⟨_, _, rfl⟩ ⟨Nat.le_of_ble_eq_true rfl, Nat.le_of_ble_eq_true rfl⟩ rfl hl.1 rfl (Nat.le_of_ble_eq_true rfl) dX12_operand_261 ⟨Nat.le_refl 0, Nat.le_refl 0⟩) X343 (fun t402 H lc q400 X401 => ?_)
                          unfold po_X12_skip at q400
                          obtain ⟨q403, q404, q405, q406, q407, q408⟩ := q400
                          have F409 : Fr [(131, 15), (131, 16), (131, 4), (131, 11), (131, 12), (131, 13), (131, 14), (131, 41), (131, 42), (131, 43), (131, 44), (131, 45)] [135, 148] τ t402 := Fr_call F345 q404 (by decide)
                          obtain ⟨v410, z411⟩ : ∃ x, t402 131 4 = x := ⟨_, rfl⟩
                          rw [z411] at q405
                          obtain ⟨v412, z413⟩ : ∃ x, t402 131 11 = x := ⟨_, rfl⟩
                          rw [z413] at q406
                          have e414 := congrArg Int32.toInt ((M342.2 131 4 (Or.inr (by decide))).trans z327)
                          have e415 := congrArg Int32.toInt z411
                          have e416 := congrArg Int32.toInt ((M342.2 131 4 (Or.inr (by decide))).trans z327)
                          have e417 := congrArg Int32.toInt z411
                          have e418 := congrArg Int32.toInt ((M342.2 131 11 (Or.inr (by decide))).trans z329)
                          have e419 := congrArg Int32.toInt z413
                          refine r_aload_n S dX12_operand_264 rfl (lv_at hl 4 rfl) ?_
                          refine r_geti (K := 38) S X401 (Nat.le_of_ble_eq_true rfl) rfl lk12_157_10 (fun _ => ⟨_, rfl, rfl⟩) z413 dX12_operand_265 ?_
                          refine r_iconst S dX12_operand_268 (by decide) (fun v420 z421 => ?_)
                          have r422 := R_eq z421
                          refine r_icmp_eq (tgt := 278) S dX12_operand_269 (by decide) (fun c423 => ?_) (fun c423 => ?_)
                          ·
                            have r424 : R (2) (2) v412 := ⟨by omega, by omega⟩
                            refine r_aload_n S dX12_operand_278 rfl (lv_at hl 4 rfl) ?_
                            refine r_iload_n S dX12_operand_279 rfl (lv_at hl 1 rfl) ?_
                            refine r_iload S dX12_operand_280 (lv_at hl 0 rfl) ?_
                            refine r_aload_n S dX12_operand_282 rfl (lv_at hl 4 rfl) ?_
                            refine r_getn (K := 38) S X401 (Nat.le_of_ble_eq_true rfl) rfl lk12_167_10 (fun _ => ⟨_, rfl, rfl⟩) dX12_operand_283 (fun v425 z426 => ?_)
                            have r428 := R_any v425
                            refine r_kv (q_V (As := [.int v42, .int v374, .int v425]) (rest := []) (K := 38) (ci := 10) S X401 (c_X12_code l G t402 q403 v42 v374 v425 (R_of (lo := -2147483648) (hi := 2147483647) r356 rfl) (R_of (lo := -2147483648) (hi := 2147483647) r399 rfl) r428 (by rw [((q404 131 41 (by decide)).trans ((M342.2 131 41 (Or.inr (by decide))).trans ((q320 131 41 (by decide)).trans ((M312.2 131 41 (Or.inr (by decide))).trans z10))))]; exact R_of r19 rfl)) ck12_410 (Nat.le_of_ble_eq_true rfl) rfl (fun _ => ⟨_, rfl⟩) ⟨_, _, rfl⟩ ⟨Nat.le_of_ble_eq_true rfl, Nat.le_of_ble_eq_true rfl⟩ rfl hl.1 rfl (Nat.le_of_ble_eq_true rfl) dX12_operand_286 ⟨Nat.le_refl 0, Nat.le_refl 0⟩) X401 (fun t431 H lc q429 X430 => ?_)
                            unfold po_X12_code at q429
                            obtain ⟨q432, q433, q434, q435, q436⟩ := q429
                            have F437 : Fr [(131, 15), (131, 16), (131, 4), (131, 11), (131, 12), (131, 13), (131, 14), (131, 41), (131, 42), (131, 43), (131, 44), (131, 45)] [135, 148] τ t431 := Fr_call F409 q433 (by decide)
                            obtain ⟨v438, z439⟩ : ∃ x, t431 131 41 = x := ⟨_, rfl⟩
                            rw [z439] at q434
                            have e440 := congrArg Int32.toInt ((q404 131 41 (by decide)).trans ((M342.2 131 41 (Or.inr (by decide))).trans ((q320 131 41 (by decide)).trans ((M312.2 131 41 (Or.inr (by decide))).trans z10))))
                            have e441 := congrArg Int32.toInt z439
                            refine r_aload_n S dX12_operand_289 rfl (lv_at hl 4 rfl) ?_
                            refine r_kv (q_V (As := []) (rest := []) (K := 38) (ci := 10) S X430 (c_X12_skip l G t431 q432 ) ck12_186 (Nat.le_of_ble_eq_true rfl) rfl (fun _ => ⟨_, rfl⟩) ⟨_, _, rfl⟩ ⟨Nat.le_of_ble_eq_true rfl, Nat.le_of_ble_eq_true rfl⟩ rfl hl.1 rfl (Nat.le_of_ble_eq_true rfl) dX12_operand_290 ⟨Nat.le_refl 0, Nat.le_refl 0⟩) X430 (fun t444 H lc q442 X443 => ?_)
                            unfold po_X12_skip at q442
                            obtain ⟨q445, q446, q447, q448, q449, q450⟩ := q442
                            have F451 : Fr [(131, 15), (131, 16), (131, 4), (131, 11), (131, 12), (131, 13), (131, 14), (131, 41), (131, 42), (131, 43), (131, 44), (131, 45)] [135, 148] τ t444 := Fr_call F437 q446 (by decide)
                            obtain ⟨v452, z453⟩ : ∃ x, t444 131 4 = x := ⟨_, rfl⟩
                            rw [z453] at q447
                            obtain ⟨v454, z455⟩ : ∃ x, t444 131 11 = x := ⟨_, rfl⟩
                            rw [z455] at q448
                            have e456 := congrArg Int32.toInt ((q433 131 4 (by decide)).trans z411)
                            have e457 := congrArg Int32.toInt z453
                            have e458 := congrArg Int32.toInt ((q433 131 4 (by decide)).trans z411)
                            have e459 := congrArg Int32.toInt z453
                            have e460 := congrArg Int32.toInt ((q433 131 11 (by decide)).trans z413)
                            have e461 := congrArg Int32.toInt z455
                            refine r_iconst S dX12_operand_293 (by decide) (fun v462 z463 => ?_)
                            have r464 := R_eq z463
                            exact r_ret S hr hlk X443 ⟨q445, F451, (R_of r464 rfl), (by rw [z453]; exact R_of q447 rfl), (by rw [z455]; exact R_of q448 rfl), (by have h1_0 := congrArg Int32.toInt z453; have h2_0 := congrArg Int32.toInt z4; omega), (by have h1_0 := congrArg Int32.toInt z453; have h2_0 := congrArg Int32.toInt z4; have h1_1 := congrArg Int32.toInt z455; have h2_1 := congrArg Int32.toInt z7; omega), (by have h1_0 := congrArg Int32.toInt z455; have h2_0 := congrArg Int32.toInt z7; omega), (by rw [((q446 131 41 (by decide)).trans z439)]; exact R_of q434 rfl), (by rw [((q446 131 42 (by decide)).trans ((q433 131 42 (by decide)).trans ((q404 131 42 (by decide)).trans ((M342.2 131 42 (Or.inr (by decide))).trans ((q320 131 42 (by decide)).trans M312.1)))))]; exact R_of r310 rfl), (by rw [((q446 131 43 (by decide)).trans ((q433 131 43 (by decide)).trans ((q404 131 43 (by decide)).trans ((M342.2 131 43 (Or.inr (by decide))).trans ((q320 131 43 (by decide)).trans ((M312.2 131 43 (Or.inr (by decide))).trans z16))))))]; exact R_of r20 rfl), (by rw [((q446 131 45 (by decide)).trans ((q433 131 45 (by decide)).trans ((q404 131 45 (by decide)).trans M342.1)))]; exact R_of r340 rfl), (fun _ => (by have n1 := congrArg Int32.toInt z13; have n2 := congrArg Int32.toInt z2; exact (SI_eq (SI_leaf hp_0 (fun j => ((q404 135 j (by simp [fz])).trans ((M342.2 135 j (Or.inl (by decide))).trans ((q320 135 j (by simp [fz])).trans ((M312.2 135 j (Or.inl (by decide))).trans rfl))))) (fun j => ((q404 148 j (by simp [fz])).trans ((M342.2 148 j (Or.inl (by decide))).trans ((q320 148 j (by simp [fz])).trans ((M312.2 148 j (Or.inl (by decide))).trans rfl))))) ((q404 131 41 (by decide)).trans ((M342.2 131 41 (Or.inr (by decide))).trans ((q320 131 41 (by decide)).trans ((M312.2 131 41 (Or.inr (by decide))).trans rfl)))) ((q404 131 42 (by decide)).trans ((M342.2 131 42 (Or.inr (by decide))).trans ((q320 131 42 (by decide)).trans M312.1))) ((q404 131 43 (by decide)).trans ((M342.2 131 43 (Or.inr (by decide))).trans ((q320 131 43 (by decide)).trans ((M312.2 131 43 (Or.inr (by decide))).trans rfl)))) ((q404 131 45 (by decide)).trans M342.1) (by omega) (by omega) (by omega) ⟨by omega, by omega⟩ (by omega) q436 q433 q435) (fun j => ((q446 135 j (by simp [fz])).trans rfl)) (fun j => ((q446 148 j (by simp [fz])).trans rfl)) ((q446 131 41 (by decide)).trans rfl) ((q446 131 42 (by decide)).trans rfl) ((q446 131 43 (by decide)).trans rfl) ((q446 131 45 (by decide)).trans rfl))))⟩ (nr_bool (R_of (lo := 0) (hi := 1) r464 rfl)) dX12_operand_294
                          ·
                            refine r_aload_n S dX12_operand_272 rfl (lv_at hl 4 rfl) ?_
                            refine r_iconst S dX12_operand_273 (by decide) (fun v465 z466 => ?_)
                            have r467 := R_eq z466
                            refine r_ki (q_V (As := [.int v465]) (rest := []) (K := 38) (ci := 10) S X401 (c_X12_bad l G t402 q403 v465 (R_of (lo := -2147483648) (hi := 2147483647) r467 rfl)) ck12_183 (Nat.le_of_ble_eq_true rfl) rfl (fun _ => ⟨_, rfl⟩) ⟨_, _, rfl⟩ ⟨Nat.le_of_ble_eq_true rfl, Nat.le_of_ble_eq_true rfl⟩ rfl hl.1 rfl (Nat.le_of_ble_eq_true rfl) dX12_operand_274 ⟨Nat.le_refl 0, Nat.le_refl 0⟩) X401 (fun v471 t470 H lc q468 X469 => ?_)
                            unfold po_X12_bad at q468
                            obtain ⟨q472, q473, q474⟩ := q468
                            have F475 : Fr [(131, 15), (131, 16), (131, 4), (131, 11), (131, 12), (131, 13), (131, 14), (131, 41), (131, 42), (131, 43), (131, 44), (131, 45)] [135, 148] τ t470 := Fr_call F409 q473 (by decide)
                            exact r_ret S hr hlk X469 ⟨q472, F475, (R_of q474 rfl), (by rw [((q473 131 4 (by decide)).trans z411)]; exact R_of q405 rfl), (by rw [((q473 131 11 (by decide)).trans z413)]; exact R_of q406 rfl), (by have h1_0 := congrArg Int32.toInt ((q473 131 4 (by decide)).trans z411); have h2_0 := congrArg Int32.toInt z4; omega), (by have h1_0 := congrArg Int32.toInt ((q473 131 4 (by decide)).trans z411); have h2_0 := congrArg Int32.toInt z4; have h1_1 := congrArg Int32.toInt ((q473 131 11 (by decide)).trans z413); have h2_1 := congrArg Int32.toInt z7; omega), (by have h1_0 := congrArg Int32.toInt ((q473 131 11 (by decide)).trans z413); have h2_0 := congrArg Int32.toInt z7; omega), (by rw [((q473 131 41 (by decide)).trans ((q404 131 41 (by decide)).trans ((M342.2 131 41 (Or.inr (by decide))).trans ((q320 131 41 (by decide)).trans ((M312.2 131 41 (Or.inr (by decide))).trans z10)))))]; exact R_of r19 rfl), (by rw [((q473 131 42 (by decide)).trans ((q404 131 42 (by decide)).trans ((M342.2 131 42 (Or.inr (by decide))).trans ((q320 131 42 (by decide)).trans M312.1))))]; exact R_of r310 rfl), (by rw [((q473 131 43 (by decide)).trans ((q404 131 43 (by decide)).trans ((M342.2 131 43 (Or.inr (by decide))).trans ((q320 131 43 (by decide)).trans ((M312.2 131 43 (Or.inr (by decide))).trans z16)))))]; exact R_of r20 rfl), (by rw [((q473 131 45 (by decide)).trans ((q404 131 45 (by decide)).trans M342.1))]; exact R_of r340 rfl), (fun h => by exfalso; omega)⟩ (nr_bool (R_of (lo := 0) (hi := 1) q474 rfl)) dX12_operand_277
                        ·
                          have r476 : R (63) (2147483647) v374 := ⟨by omega, by omega⟩
                          refine r_aload_n S dX12_operand_248 rfl (lv_at hl 3 rfl) ?_
                          refine r_iconst S dX12_operand_249 (by decide) (fun v477 z478 => ?_)
                          have r479 := R_eq z478
                          refine r_ki (q_V (As := [.int v477]) (rest := []) (K := 38) (ci := 10) S X343 (c_X12_bad l G t341 I344 v477 (R_of (lo := -2147483648) (hi := 2147483647) r479 rfl)) ck12_183 (Nat.le_of_ble_eq_true rfl) rfl (fun _ => ⟨_, rfl⟩) ⟨_, _, rfl⟩ ⟨Nat.le_of_ble_eq_true rfl, Nat.le_of_ble_eq_true rfl⟩ rfl hl.1 rfl (Nat.le_of_ble_eq_true rfl) dX12_operand_250 ⟨Nat.le_refl 0, Nat.le_refl 0⟩) X343 (fun v483 t482 H lc q480 X481 => ?_)
                          unfold po_X12_bad at q480
                          obtain ⟨q484, q485, q486⟩ := q480
                          have F487 : Fr [(131, 15), (131, 16), (131, 4), (131, 11), (131, 12), (131, 13), (131, 14), (131, 41), (131, 42), (131, 43), (131, 44), (131, 45)] [135, 148] τ t482 := Fr_call F345 q485 (by decide)
                          exact r_ret S hr hlk X481 ⟨q484, F487, (R_of q486 rfl), (by rw [((q485 131 4 (by decide)).trans ((M342.2 131 4 (Or.inr (by decide))).trans z327))]; exact R_of q321 rfl), (by rw [((q485 131 11 (by decide)).trans ((M342.2 131 11 (Or.inr (by decide))).trans z329))]; exact R_of r373 rfl), (by have h1_0 := congrArg Int32.toInt ((q485 131 4 (by decide)).trans ((M342.2 131 4 (Or.inr (by decide))).trans z327)); have h2_0 := congrArg Int32.toInt z4; omega), (by have h1_0 := congrArg Int32.toInt ((q485 131 4 (by decide)).trans ((M342.2 131 4 (Or.inr (by decide))).trans z327)); have h2_0 := congrArg Int32.toInt z4; have h1_1 := congrArg Int32.toInt ((q485 131 11 (by decide)).trans ((M342.2 131 11 (Or.inr (by decide))).trans z329)); have h2_1 := congrArg Int32.toInt z7; omega), (by have h1_0 := congrArg Int32.toInt ((q485 131 11 (by decide)).trans ((M342.2 131 11 (Or.inr (by decide))).trans z329)); have h2_0 := congrArg Int32.toInt z7; omega), (by rw [((q485 131 41 (by decide)).trans ((M342.2 131 41 (Or.inr (by decide))).trans ((q320 131 41 (by decide)).trans ((M312.2 131 41 (Or.inr (by decide))).trans z10))))]; exact R_of r19 rfl), (by rw [((q485 131 42 (by decide)).trans ((M342.2 131 42 (Or.inr (by decide))).trans ((q320 131 42 (by decide)).trans M312.1)))]; exact R_of r310 rfl), (by rw [((q485 131 43 (by decide)).trans ((M342.2 131 43 (Or.inr (by decide))).trans ((q320 131 43 (by decide)).trans ((M312.2 131 43 (Or.inr (by decide))).trans z16))))]; exact R_of r20 rfl), (by rw [((q485 131 45 (by decide)).trans M342.1)]; exact R_of r340 rfl), (fun h => by exfalso; omega)⟩ (nr_bool (R_of (lo := 0) (hi := 1) q486 rfl)) dX12_operand_253
                  ·
                    have r488 : R (3) (5) v42 := ⟨by omega, by omega⟩
                    have p489 := q45 (by omega)
                    refine r_aload_n S dX12_operand_151 rfl (lv_at hl 3 rfl) ?_
                    refine r_ki (q_V (As := []) (rest := []) (K := 38) (ci := 10) S X343 (c_X12_isName l G t341 I344 ) ck12_196 (Nat.le_of_ble_eq_true rfl) rfl (fun _ => ⟨_, rfl⟩) ⟨_, _, rfl⟩ ⟨Nat.le_of_ble_eq_true rfl, Nat.le_of_ble_eq_true rfl⟩ rfl hl.1 rfl (Nat.le_of_ble_eq_true rfl) dX12_operand_152 ⟨Nat.le_refl 0, Nat.le_refl 0⟩) X343 (fun v493 t492 H lc q490 X491 => ?_)
                    unfold po_X12_isName at q490
                    obtain ⟨q494, q495, q496⟩ := q490
                    rw [q494] at X491
                    rw [q494] at q496
                    refine r_if_ne (tgt := 164) S dX12_operand_155 (by decide) (fun c497 => ?_) (fun c497 => ?_)
                    ·
                      have r498 : R (1) (1) v493 := ⟨by omega, by omega⟩
                      have p499 := q496 (by omega)
                      have r500 : R (1) (1) v328 := ((M342.2 131 11 (Or.inr (by decide))).trans z329) ▸ p499
                      have r501 : R (1) (1) v328 := ⟨by omega, by omega⟩
                      refine r_iload_n S dX12_operand_164 rfl (lv_at hl 0 rfl) ?_
                      refine r_iconst S dX12_operand_165 (by decide) (fun v502 z503 => ?_)
                      have r504 := R_eq z503
                      refine r_icmp_ne (tgt := 184) S dX12_operand_166 (by decide) (fun c505 => ?_) (fun c505 => ?_)
                      ·
                        have r506 : R (4) (5) v42 := ⟨by omega, by omega⟩
                        have p507 := q45 (by omega)
                        refine r_aload_n S dX12_operand_184 rfl (lv_at hl 3 rfl) ?_
                        refine r_iconst S dX12_operand_185 (by decide) (fun v508 z509 => ?_)
                        have r510 := R_eq z509
                        refine r_aload_n S dX12_operand_186 rfl (lv_at hl 3 rfl) ?_
                        refine r_get (K := 38) (v := .ref (G.2.2.2.1 133)) S X491 (Nat.le_of_ble_eq_true rfl) rfl lk12_33_10 (fun _ => ⟨_, rfl, rfl⟩) dX12_operand_187 ?_
                        refine r_iconst S dX12_operand_190 (by decide) (fun v511 z512 => ?_)
                        have r513 := R_eq z512
                        refine r_aldn (n := 513) (K := 40) S X491 (Nat.le_of_ble_eq_true rfl) rfl (fun _ => rfl) (ix_of r513 rfl) dX12_operand_191 (fun v514 z515 => ?_)
                        have r516 : R (0) (9) v514 := rds (K := 40) (a := 0) (n := 1) I344 rfl z515 (R_of r513 rfl) (by decide +kernel)
                        refine r_ki (q_V (As := [.int v508, .int v514]) (rest := []) (K := 38) (ci := 10) S X491 (c_X12_find_a l G t341 I344 v508 v514 (R_of (lo := 0) (hi := 19) r510 rfl) r516) ck12_200 (Nat.le_of_ble_eq_true rfl) rfl (fun _ => ⟨_, rfl⟩) ⟨_, _, rfl⟩ ⟨Nat.le_of_ble_eq_true rfl, Nat.le_of_ble_eq_true rfl⟩ rfl hl.1 rfl (Nat.le_of_ble_eq_true rfl) dX12_operand_192 ⟨Nat.le_refl 0, Nat.le_refl 0⟩) X491 (fun v520 t519 H lc q517 X518 => ?_)
                        unfold po_X12_find_a at q517
                        obtain ⟨q521, q522⟩ := q517
                        rw [q521] at X518
                        refine r_istore (lv' := [(4, .int v520), (3, .int v42), (2, .int v35), (1, .int v25), (0, .ref (G.2.2.2.1 131))]) S dX12_operand_195 hl (by decide) rfl (fun ls hl => ?_)
                        refine r_iload S dX12_operand_197 (lv_at hl 0 rfl) ?_
                        refine r_if_ge (tgt := 208) S dX12_operand_199 (by decide) (fun c523 => ?_) (fun c523 => ?_)
                        ·
                          have r524 : R (0) (8) v520 := ⟨by omega, by omega⟩
                          refine r_aload_n S dX12_operand_208 rfl (lv_at hl 4 rfl) ?_
                          refine r_iload_n S dX12_operand_209 rfl (lv_at hl 1 rfl) ?_
                          refine r_iconst S dX12_operand_210 (by decide) (fun v525 z526 => ?_)
                          have r527 := R_eq z526
                          refine r_iload S dX12_operand_211 (lv_at hl 0 rfl) ?_
                          refine r_kv (q_V (As := [.int v42, .int v525, .int v520]) (rest := []) (K := 38) (ci := 10) S X518 (c_X12_code l G t341 I344 v42 v525 v520 (R_of (lo := -2147483648) (hi := 2147483647) r506 rfl) (R_of (lo := -2147483648) (hi := 2147483647) r527 rfl) (R_of (lo := -2147483648) (hi := 2147483647) r524 rfl) (by rw [((M342.2 131 41 (Or.inr (by decide))).trans ((q320 131 41 (by decide)).trans ((M312.2 131 41 (Or.inr (by decide))).trans z10)))]; exact R_of r19 rfl)) ck12_410 (Nat.le_of_ble_eq_true rfl) rfl (fun _ => ⟨_, rfl⟩) ⟨_, _, rfl⟩ ⟨Nat.le_of_ble_eq_true rfl, Nat.le_of_ble_eq_true rfl⟩ rfl hl.1 rfl (Nat.le_of_ble_eq_true rfl) dX12_operand_213 ⟨Nat.le_refl 0, Nat.le_refl 0⟩) X518 (fun t530 H lc q528 X529 => ?_)
                          unfold po_X12_code at q528
                          obtain ⟨q531, q532, q533, q534, q535⟩ := q528
                          have F536 : Fr [(131, 15), (131, 16), (131, 4), (131, 11), (131, 12), (131, 13), (131, 14), (131, 41), (131, 42), (131, 43), (131, 44), (131, 45)] [135, 148] τ t530 := Fr_call F345 q532 (by decide)
                          obtain ⟨v537, z538⟩ : ∃ x, t530 131 41 = x := ⟨_, rfl⟩
                          rw [z538] at q533
                          have e539 := congrArg Int32.toInt ((M342.2 131 41 (Or.inr (by decide))).trans ((q320 131 41 (by decide)).trans ((M312.2 131 41 (Or.inr (by decide))).trans z10)))
                          have e540 := congrArg Int32.toInt z538
                          refine r_aload_n S dX12_operand_216 rfl (lv_at hl 4 rfl) ?_
                          refine r_kv (q_V (As := []) (rest := []) (K := 38) (ci := 10) S X529 (c_X12_skip l G t530 q531 ) ck12_186 (Nat.le_of_ble_eq_true rfl) rfl (fun _ => ⟨_, rfl⟩) ⟨_, _, rfl⟩ ⟨Nat.le_of_ble_eq_true rfl, Nat.le_of_ble_eq_true rfl⟩ rfl hl.1 rfl (Nat.le_of_ble_eq_true rfl) dX12_operand_217 ⟨Nat.le_refl 0, Nat.le_refl 0⟩) X529 (fun t543 H lc q541 X542 => ?_)
                          unfold po_X12_skip at q541
                          obtain ⟨q544, q545, q546, q547, q548, q549⟩ := q541
                          have F550 : Fr [(131, 15), (131, 16), (131, 4), (131, 11), (131, 12), (131, 13), (131, 14), (131, 41), (131, 42), (131, 43), (131, 44), (131, 45)] [135, 148] τ t543 := Fr_call F536 q545 (by decide)
                          obtain ⟨v551, z552⟩ : ∃ x, t543 131 4 = x := ⟨_, rfl⟩
                          rw [z552] at q546
                          obtain ⟨v553, z554⟩ : ∃ x, t543 131 11 = x := ⟨_, rfl⟩
                          rw [z554] at q547
                          have e555 := congrArg Int32.toInt ((q532 131 4 (by decide)).trans ((M342.2 131 4 (Or.inr (by decide))).trans z327))
                          have e556 := congrArg Int32.toInt z552
                          have e557 := congrArg Int32.toInt ((q532 131 4 (by decide)).trans ((M342.2 131 4 (Or.inr (by decide))).trans z327))
                          have e558 := congrArg Int32.toInt z552
                          have e559 := congrArg Int32.toInt ((q532 131 11 (by decide)).trans ((M342.2 131 11 (Or.inr (by decide))).trans z329))
                          have e560 := congrArg Int32.toInt z554
                          refine r_iconst S dX12_operand_220 (by decide) (fun v561 z562 => ?_)
                          have r563 := R_eq z562
                          exact r_ret S hr hlk X542 ⟨q544, F550, (R_of r563 rfl), (by rw [z552]; exact R_of q546 rfl), (by rw [z554]; exact R_of q547 rfl), (by have h1_0 := congrArg Int32.toInt z552; have h2_0 := congrArg Int32.toInt z4; omega), (by have h1_0 := congrArg Int32.toInt z552; have h2_0 := congrArg Int32.toInt z4; have h1_1 := congrArg Int32.toInt z554; have h2_1 := congrArg Int32.toInt z7; omega), (by have h1_0 := congrArg Int32.toInt z554; have h2_0 := congrArg Int32.toInt z7; omega), (by rw [((q545 131 41 (by decide)).trans z538)]; exact R_of q533 rfl), (by rw [((q545 131 42 (by decide)).trans ((q532 131 42 (by decide)).trans ((M342.2 131 42 (Or.inr (by decide))).trans ((q320 131 42 (by decide)).trans M312.1))))]; exact R_of r310 rfl), (by rw [((q545 131 43 (by decide)).trans ((q532 131 43 (by decide)).trans ((M342.2 131 43 (Or.inr (by decide))).trans ((q320 131 43 (by decide)).trans ((M312.2 131 43 (Or.inr (by decide))).trans z16)))))]; exact R_of r20 rfl), (by rw [((q545 131 45 (by decide)).trans ((q532 131 45 (by decide)).trans M342.1))]; exact R_of r340 rfl), (fun _ => (by have n1 := congrArg Int32.toInt z13; have n2 := congrArg Int32.toInt z2; exact (SI_eq (SI_leaf hp_0 (fun j => ((M342.2 135 j (Or.inl (by decide))).trans ((q320 135 j (by simp [fz])).trans ((M312.2 135 j (Or.inl (by decide))).trans rfl)))) (fun j => ((M342.2 148 j (Or.inl (by decide))).trans ((q320 148 j (by simp [fz])).trans ((M312.2 148 j (Or.inl (by decide))).trans rfl)))) ((M342.2 131 41 (Or.inr (by decide))).trans ((q320 131 41 (by decide)).trans ((M312.2 131 41 (Or.inr (by decide))).trans rfl))) ((M342.2 131 42 (Or.inr (by decide))).trans ((q320 131 42 (by decide)).trans M312.1)) ((M342.2 131 43 (Or.inr (by decide))).trans ((q320 131 43 (by decide)).trans ((M312.2 131 43 (Or.inr (by decide))).trans rfl))) M342.1 (by omega) (by omega) (by omega) ⟨by omega, by omega⟩ (by omega) q535 q532 q534) (fun j => ((q545 135 j (by simp [fz])).trans rfl)) (fun j => ((q545 148 j (by simp [fz])).trans rfl)) ((q545 131 41 (by decide)).trans rfl) ((q545 131 42 (by decide)).trans rfl) ((q545 131 43 (by decide)).trans rfl) ((q545 131 45 (by decide)).trans rfl))))⟩ (nr_bool (R_of (lo := 0) (hi := 1) r563 rfl)) dX12_operand_221
                        ·
                          have r564 : R (-1) (-1) v520 := ⟨by omega, by omega⟩
                          refine r_aload_n S dX12_operand_202 rfl (lv_at hl 4 rfl) ?_
                          refine r_iconst S dX12_operand_203 (by decide) (fun v565 z566 => ?_)
                          have r567 := R_eq z566
                          refine r_ki (q_V (As := [.int v565]) (rest := []) (K := 38) (ci := 10) S X518 (c_X12_bad l G t341 I344 v565 (R_of (lo := -2147483648) (hi := 2147483647) r567 rfl)) ck12_183 (Nat.le_of_ble_eq_true rfl) rfl (fun _ => ⟨_, rfl⟩) ⟨_, _, rfl⟩ ⟨Nat.le_of_ble_eq_true rfl, Nat.le_of_ble_eq_true rfl⟩ rfl hl.1 rfl (Nat.le_of_ble_eq_true rfl) dX12_operand_204 ⟨Nat.le_refl 0, Nat.le_refl 0⟩) X518 (fun v571 t570 H lc q568 X569 => ?_)
                          unfold po_X12_bad at q568
                          obtain ⟨q572, q573, q574⟩ := q568
                          have F575 : Fr [(131, 15), (131, 16), (131, 4), (131, 11), (131, 12), (131, 13), (131, 14), (131, 41), (131, 42), (131, 43), (131, 44), (131, 45)] [135, 148] τ t570 := Fr_call F345 q573 (by decide)
                          exact r_ret S hr hlk X569 ⟨q572, F575, (R_of q574 rfl), (by rw [((q573 131 4 (by decide)).trans ((M342.2 131 4 (Or.inr (by decide))).trans z327))]; exact R_of q321 rfl), (by rw [((q573 131 11 (by decide)).trans ((M342.2 131 11 (Or.inr (by decide))).trans z329))]; exact R_of r501 rfl), (by have h1_0 := congrArg Int32.toInt ((q573 131 4 (by decide)).trans ((M342.2 131 4 (Or.inr (by decide))).trans z327)); have h2_0 := congrArg Int32.toInt z4; omega), (by have h1_0 := congrArg Int32.toInt ((q573 131 4 (by decide)).trans ((M342.2 131 4 (Or.inr (by decide))).trans z327)); have h2_0 := congrArg Int32.toInt z4; have h1_1 := congrArg Int32.toInt ((q573 131 11 (by decide)).trans ((M342.2 131 11 (Or.inr (by decide))).trans z329)); have h2_1 := congrArg Int32.toInt z7; omega), (by have h1_0 := congrArg Int32.toInt ((q573 131 11 (by decide)).trans ((M342.2 131 11 (Or.inr (by decide))).trans z329)); have h2_0 := congrArg Int32.toInt z7; omega), (by rw [((q573 131 41 (by decide)).trans ((M342.2 131 41 (Or.inr (by decide))).trans ((q320 131 41 (by decide)).trans ((M312.2 131 41 (Or.inr (by decide))).trans z10))))]; exact R_of r19 rfl), (by rw [((q573 131 42 (by decide)).trans ((M342.2 131 42 (Or.inr (by decide))).trans ((q320 131 42 (by decide)).trans M312.1)))]; exact R_of r310 rfl), (by rw [((q573 131 43 (by decide)).trans ((M342.2 131 43 (Or.inr (by decide))).trans ((q320 131 43 (by decide)).trans ((M312.2 131 43 (Or.inr (by decide))).trans z16))))]; exact R_of r20 rfl), (by rw [((q573 131 45 (by decide)).trans M342.1)]; exact R_of r340 rfl), (fun h => by exfalso; omega)⟩ (nr_bool (R_of (lo := 0) (hi := 1) q574 rfl)) dX12_operand_207
                      ·
                        have r576 : R (3) (3) v42 := ⟨by omega, by omega⟩
                        have p577 := q45 (by omega)
                        refine r_aload_n S dX12_operand_169 rfl (lv_at hl 3 rfl) ?_
                        refine r_bipush S dX12_operand_170 (by decide) (fun v578 z579 => ?_)
                        have r580 := R_eq z579
                        refine r_aload_n S dX12_operand_172 rfl (lv_at hl 3 rfl) ?_
                        refine r_get (K := 38) (v := .ref (G.2.2.2.1 133)) S X491 (Nat.le_of_ble_eq_true rfl) rfl lk12_33_10 (fun _ => ⟨_, rfl, rfl⟩) dX12_operand_173 ?_
                        refine r_iconst S dX12_operand_176 (by decide) (fun v581 z582 => ?_)
                        have r583 := R_eq z582
                        refine r_aldn (n := 513) (K := 40) S X491 (Nat.le_of_ble_eq_true rfl) rfl (fun _ => rfl) (ix_of r583 rfl) dX12_operand_177 (fun v584 z585 => ?_)
                        have r586 : R (0) (10) v584 := rds (K := 40) (a := 1) (n := 1) I344 rfl z585 (R_of r583 rfl) (by decide +kernel)
                        refine r_ki (q_V (As := [.int v578, .int v584]) (rest := []) (K := 38) (ci := 10) S X491 (c_X12_find_m l G t341 I344 v578 v584 (R_of (lo := 9) (hi := 28) r580 rfl) r586) ck12_200 (Nat.le_of_ble_eq_true rfl) rfl (fun _ => ⟨_, rfl⟩) ⟨_, _, rfl⟩ ⟨Nat.le_of_ble_eq_true rfl, Nat.le_of_ble_eq_true rfl⟩ rfl hl.1 rfl (Nat.le_of_ble_eq_true rfl) dX12_operand_178 ⟨Nat.le_refl 0, Nat.le_refl 0⟩) X491 (fun v590 t589 H lc q587 X588 => ?_)
                        unfold po_X12_find_m at q587
                        obtain ⟨q591, q592⟩ := q587
                        rw [q591] at X588
                        refine r_goto (tgt := 195) S dX12_operand_181 (by decide) ?_
                        refine r_istore (lv' := [(4, .int v590), (3, .int v42), (2, .int v35), (1, .int v25), (0, .ref (G.2.2.2.1 131))]) S dX12_operand_195 hl (by decide) rfl (fun ls hl => ?_)
                        refine r_iload S dX12_operand_197 (lv_at hl 0 rfl) ?_
                        refine r_if_ge (tgt := 208) S dX12_operand_199 (by decide) (fun c593 => ?_) (fun c593 => ?_)
                        ·
                          have r594 : R (0) (9) v590 := ⟨by omega, by omega⟩
                          refine r_aload_n S dX12_operand_208 rfl (lv_at hl 4 rfl) ?_
                          refine r_iload_n S dX12_operand_209 rfl (lv_at hl 1 rfl) ?_
                          refine r_iconst S dX12_operand_210 (by decide) (fun v595 z596 => ?_)
                          have r597 := R_eq z596
                          refine r_iload S dX12_operand_211 (lv_at hl 0 rfl) ?_
                          refine r_kv (q_V (As := [.int v42, .int v595, .int v590]) (rest := []) (K := 38) (ci := 10) S X588 (c_X12_code l G t341 I344 v42 v595 v590 (R_of (lo := -2147483648) (hi := 2147483647) r576 rfl) (R_of (lo := -2147483648) (hi := 2147483647) r597 rfl) (R_of (lo := -2147483648) (hi := 2147483647) r594 rfl) (by rw [((M342.2 131 41 (Or.inr (by decide))).trans ((q320 131 41 (by decide)).trans ((M312.2 131 41 (Or.inr (by decide))).trans z10)))]; exact R_of r19 rfl)) ck12_410 (Nat.le_of_ble_eq_true rfl) rfl (fun _ => ⟨_, rfl⟩) ⟨_, _, rfl⟩ ⟨Nat.le_of_ble_eq_true rfl, Nat.le_of_ble_eq_true rfl⟩ rfl hl.1 rfl (Nat.le_of_ble_eq_true rfl) dX12_operand_213 ⟨Nat.le_refl 0, Nat.le_refl 0⟩) X588 (fun t600 H lc q598 X599 => ?_)
                          unfold po_X12_code at q598
                          obtain ⟨q601, q602, q603, q604, q605⟩ := q598
                          have F606 : Fr [(131, 15), (131, 16), (131, 4), (131, 11), (131, 12), (131, 13), (131, 14), (131, 41), (131, 42), (131, 43), (131, 44), (131, 45)] [135, 148] τ t600 := Fr_call F345 q602 (by decide)
                          obtain ⟨v607, z608⟩ : ∃ x, t600 131 41 = x := ⟨_, rfl⟩
                          rw [z608] at q603
                          have e609 := congrArg Int32.toInt ((M342.2 131 41 (Or.inr (by decide))).trans ((q320 131 41 (by decide)).trans ((M312.2 131 41 (Or.inr (by decide))).trans z10)))
                          have e610 := congrArg Int32.toInt z608
                          refine r_aload_n S dX12_operand_216 rfl (lv_at hl 4 rfl) ?_
                          refine r_kv (q_V (As := []) (rest := []) (K := 38) (ci := 10) S X599 (c_X12_skip l G t600 q601 ) ck12_186 (Nat.le_of_ble_eq_true rfl) rfl (fun _ => ⟨_, rfl⟩) ⟨_, _, rfl⟩ ⟨Nat.le_of_ble_eq_true rfl, Nat.le_of_ble_eq_true rfl⟩ rfl hl.1 rfl (Nat.le_of_ble_eq_true rfl) dX12_operand_217 ⟨Nat.le_refl 0, Nat.le_refl 0⟩) X599 (fun t613 H lc q611 X612 => ?_)
                          unfold po_X12_skip at q611
                          obtain ⟨q614, q615, q616, q617, q618, q619⟩ := q611
                          have F620 : Fr [(131, 15), (131, 16), (131, 4), (131, 11), (131, 12), (131, 13), (131, 14), (131, 41), (131, 42), (131, 43), (131, 44), (131, 45)] [135, 148] τ t613 := Fr_call F606 q615 (by decide)
                          obtain ⟨v621, z622⟩ : ∃ x, t613 131 4 = x := ⟨_, rfl⟩
                          rw [z622] at q616
                          obtain ⟨v623, z624⟩ : ∃ x, t613 131 11 = x := ⟨_, rfl⟩
                          rw [z624] at q617
                          have e625 := congrArg Int32.toInt ((q602 131 4 (by decide)).trans ((M342.2 131 4 (Or.inr (by decide))).trans z327))
                          have e626 := congrArg Int32.toInt z622
                          have e627 := congrArg Int32.toInt ((q602 131 4 (by decide)).trans ((M342.2 131 4 (Or.inr (by decide))).trans z327))
                          have e628 := congrArg Int32.toInt z622
                          have e629 := congrArg Int32.toInt ((q602 131 11 (by decide)).trans ((M342.2 131 11 (Or.inr (by decide))).trans z329))
                          have e630 := congrArg Int32.toInt z624
                          refine r_iconst S dX12_operand_220 (by decide) (fun v631 z632 => ?_)
                          have r633 := R_eq z632
                          exact r_ret S hr hlk X612 ⟨q614, F620, (R_of r633 rfl), (by rw [z622]; exact R_of q616 rfl), (by rw [z624]; exact R_of q617 rfl), (by have h1_0 := congrArg Int32.toInt z622; have h2_0 := congrArg Int32.toInt z4; omega), (by have h1_0 := congrArg Int32.toInt z622; have h2_0 := congrArg Int32.toInt z4; have h1_1 := congrArg Int32.toInt z624; have h2_1 := congrArg Int32.toInt z7; omega), (by have h1_0 := congrArg Int32.toInt z624; have h2_0 := congrArg Int32.toInt z7; omega), (by rw [((q615 131 41 (by decide)).trans z608)]; exact R_of q603 rfl), (by rw [((q615 131 42 (by decide)).trans ((q602 131 42 (by decide)).trans ((M342.2 131 42 (Or.inr (by decide))).trans ((q320 131 42 (by decide)).trans M312.1))))]; exact R_of r310 rfl), (by rw [((q615 131 43 (by decide)).trans ((q602 131 43 (by decide)).trans ((M342.2 131 43 (Or.inr (by decide))).trans ((q320 131 43 (by decide)).trans ((M312.2 131 43 (Or.inr (by decide))).trans z16)))))]; exact R_of r20 rfl), (by rw [((q615 131 45 (by decide)).trans ((q602 131 45 (by decide)).trans M342.1))]; exact R_of r340 rfl), (fun _ => (by have n1 := congrArg Int32.toInt z13; have n2 := congrArg Int32.toInt z2; exact (SI_eq (SI_leaf hp_0 (fun j => ((M342.2 135 j (Or.inl (by decide))).trans ((q320 135 j (by simp [fz])).trans ((M312.2 135 j (Or.inl (by decide))).trans rfl)))) (fun j => ((M342.2 148 j (Or.inl (by decide))).trans ((q320 148 j (by simp [fz])).trans ((M312.2 148 j (Or.inl (by decide))).trans rfl)))) ((M342.2 131 41 (Or.inr (by decide))).trans ((q320 131 41 (by decide)).trans ((M312.2 131 41 (Or.inr (by decide))).trans rfl))) ((M342.2 131 42 (Or.inr (by decide))).trans ((q320 131 42 (by decide)).trans M312.1)) ((M342.2 131 43 (Or.inr (by decide))).trans ((q320 131 43 (by decide)).trans ((M312.2 131 43 (Or.inr (by decide))).trans rfl))) M342.1 (by omega) (by omega) (by omega) ⟨by omega, by omega⟩ (by omega) q605 q602 q604) (fun j => ((q615 135 j (by simp [fz])).trans rfl)) (fun j => ((q615 148 j (by simp [fz])).trans rfl)) ((q615 131 41 (by decide)).trans rfl) ((q615 131 42 (by decide)).trans rfl) ((q615 131 43 (by decide)).trans rfl) ((q615 131 45 (by decide)).trans rfl))))⟩ (nr_bool (R_of (lo := 0) (hi := 1) r633 rfl)) dX12_operand_221
                        ·
                          have r634 : R (-1) (-1) v590 := ⟨by omega, by omega⟩
                          refine r_aload_n S dX12_operand_202 rfl (lv_at hl 4 rfl) ?_
                          refine r_iconst S dX12_operand_203 (by decide) (fun v635 z636 => ?_)
                          have r637 := R_eq z636
                          refine r_ki (q_V (As := [.int v635]) (rest := []) (K := 38) (ci := 10) S X588 (c_X12_bad l G t341 I344 v635 (R_of (lo := -2147483648) (hi := 2147483647) r637 rfl)) ck12_183 (Nat.le_of_ble_eq_true rfl) rfl (fun _ => ⟨_, rfl⟩) ⟨_, _, rfl⟩ ⟨Nat.le_of_ble_eq_true rfl, Nat.le_of_ble_eq_true rfl⟩ rfl hl.1 rfl (Nat.le_of_ble_eq_true rfl) dX12_operand_204 ⟨Nat.le_refl 0, Nat.le_refl 0⟩) X588 (fun v641 t640 H lc q638 X639 => ?_)
                          unfold po_X12_bad at q638
                          obtain ⟨q642, q643, q644⟩ := q638
                          have F645 : Fr [(131, 15), (131, 16), (131, 4), (131, 11), (131, 12), (131, 13), (131, 14), (131, 41), (131, 42), (131, 43), (131, 44), (131, 45)] [135, 148] τ t640 := Fr_call F345 q643 (by decide)
                          exact r_ret S hr hlk X639 ⟨q642, F645, (R_of q644 rfl), (by rw [((q643 131 4 (by decide)).trans ((M342.2 131 4 (Or.inr (by decide))).trans z327))]; exact R_of q321 rfl), (by rw [((q643 131 11 (by decide)).trans ((M342.2 131 11 (Or.inr (by decide))).trans z329))]; exact R_of r501 rfl), (by have h1_0 := congrArg Int32.toInt ((q643 131 4 (by decide)).trans ((M342.2 131 4 (Or.inr (by decide))).trans z327)); have h2_0 := congrArg Int32.toInt z4; omega), (by have h1_0 := congrArg Int32.toInt ((q643 131 4 (by decide)).trans ((M342.2 131 4 (Or.inr (by decide))).trans z327)); have h2_0 := congrArg Int32.toInt z4; have h1_1 := congrArg Int32.toInt ((q643 131 11 (by decide)).trans ((M342.2 131 11 (Or.inr (by decide))).trans z329)); have h2_1 := congrArg Int32.toInt z7; omega), (by have h1_0 := congrArg Int32.toInt ((q643 131 11 (by decide)).trans ((M342.2 131 11 (Or.inr (by decide))).trans z329)); have h2_0 := congrArg Int32.toInt z7; omega), (by rw [((q643 131 41 (by decide)).trans ((M342.2 131 41 (Or.inr (by decide))).trans ((q320 131 41 (by decide)).trans ((M312.2 131 41 (Or.inr (by decide))).trans z10))))]; exact R_of r19 rfl), (by rw [((q643 131 42 (by decide)).trans ((M342.2 131 42 (Or.inr (by decide))).trans ((q320 131 42 (by decide)).trans M312.1)))]; exact R_of r310 rfl), (by rw [((q643 131 43 (by decide)).trans ((M342.2 131 43 (Or.inr (by decide))).trans ((q320 131 43 (by decide)).trans ((M312.2 131 43 (Or.inr (by decide))).trans z16))))]; exact R_of r20 rfl), (by rw [((q643 131 45 (by decide)).trans M342.1)]; exact R_of r340 rfl), (fun h => by exfalso; omega)⟩ (nr_bool (R_of (lo := 0) (hi := 1) q644 rfl)) dX12_operand_207
                    ·
                      have r646 : R (0) (0) v493 := ⟨by omega, by omega⟩
                      refine r_aload_n S dX12_operand_158 rfl (lv_at hl 3 rfl) ?_
                      refine r_iconst S dX12_operand_159 (by decide) (fun v647 z648 => ?_)
                      have r649 := R_eq z648
                      refine r_ki (q_V (As := [.int v647]) (rest := []) (K := 38) (ci := 10) S X491 (c_X12_bad l G t341 I344 v647 (R_of (lo := -2147483648) (hi := 2147483647) r649 rfl)) ck12_183 (Nat.le_of_ble_eq_true rfl) rfl (fun _ => ⟨_, rfl⟩) ⟨_, _, rfl⟩ ⟨Nat.le_of_ble_eq_true rfl, Nat.le_of_ble_eq_true rfl⟩ rfl hl.1 rfl (Nat.le_of_ble_eq_true rfl) dX12_operand_160 ⟨Nat.le_refl 0, Nat.le_refl 0⟩) X491 (fun v653 t652 H lc q650 X651 => ?_)
                      unfold po_X12_bad at q650
                      obtain ⟨q654, q655, q656⟩ := q650
                      have F657 : Fr [(131, 15), (131, 16), (131, 4), (131, 11), (131, 12), (131, 13), (131, 14), (131, 41), (131, 42), (131, 43), (131, 44), (131, 45)] [135, 148] τ t652 := Fr_call F345 q655 (by decide)
                      exact r_ret S hr hlk X651 ⟨q654, F657, (R_of q656 rfl), (by rw [((q655 131 4 (by decide)).trans ((M342.2 131 4 (Or.inr (by decide))).trans z327))]; exact R_of q321 rfl), (by rw [((q655 131 11 (by decide)).trans ((M342.2 131 11 (Or.inr (by decide))).trans z329))]; exact R_of q322 rfl), (by have h1_0 := congrArg Int32.toInt ((q655 131 4 (by decide)).trans ((M342.2 131 4 (Or.inr (by decide))).trans z327)); have h2_0 := congrArg Int32.toInt z4; omega), (by have h1_0 := congrArg Int32.toInt ((q655 131 4 (by decide)).trans ((M342.2 131 4 (Or.inr (by decide))).trans z327)); have h2_0 := congrArg Int32.toInt z4; have h1_1 := congrArg Int32.toInt ((q655 131 11 (by decide)).trans ((M342.2 131 11 (Or.inr (by decide))).trans z329)); have h2_1 := congrArg Int32.toInt z7; omega), (by have h1_0 := congrArg Int32.toInt ((q655 131 11 (by decide)).trans ((M342.2 131 11 (Or.inr (by decide))).trans z329)); have h2_0 := congrArg Int32.toInt z7; omega), (by rw [((q655 131 41 (by decide)).trans ((M342.2 131 41 (Or.inr (by decide))).trans ((q320 131 41 (by decide)).trans ((M312.2 131 41 (Or.inr (by decide))).trans z10))))]; exact R_of r19 rfl), (by rw [((q655 131 42 (by decide)).trans ((M342.2 131 42 (Or.inr (by decide))).trans ((q320 131 42 (by decide)).trans M312.1)))]; exact R_of r310 rfl), (by rw [((q655 131 43 (by decide)).trans ((M342.2 131 43 (Or.inr (by decide))).trans ((q320 131 43 (by decide)).trans ((M312.2 131 43 (Or.inr (by decide))).trans z16))))]; exact R_of r20 rfl), (by rw [((q655 131 45 (by decide)).trans M342.1)]; exact R_of r340 rfl), (fun h => by exfalso; omega)⟩ (nr_bool (R_of (lo := 0) (hi := 1) q656 rfl)) dX12_operand_163
                ·
                  have r658 : R (0) (2) v42 := ⟨by omega, by omega⟩
                  have p659 := q45 (by omega)
                  refine r_aload_n S dX12_operand_136 rfl (lv_at hl 3 rfl) ?_
                  refine r_iload_n S dX12_operand_137 rfl (lv_at hl 0 rfl) ?_
                  refine r_iconst S dX12_operand_138 (by decide) (fun v660 z661 => ?_)
                  have r662 := R_eq z661
                  refine r_iconst S dX12_operand_139 (by decide) (fun v663 z664 => ?_)
                  have r665 := R_eq z664
                  refine r_kv (q_V (As := [.int v42, .int v660, .int v663]) (rest := []) (K := 38) (ci := 10) S X343 (c_X12_code l G t341 I344 v42 v660 v663 (R_of (lo := -2147483648) (hi := 2147483647) r658 rfl) (R_of (lo := -2147483648) (hi := 2147483647) r662 rfl) (R_of (lo := -2147483648) (hi := 2147483647) r665 rfl) (by rw [((M342.2 131 41 (Or.inr (by decide))).trans ((q320 131 41 (by decide)).trans ((M312.2 131 41 (Or.inr (by decide))).trans z10)))]; exact R_of r19 rfl)) ck12_410 (Nat.le_of_ble_eq_true rfl) rfl (fun _ => ⟨_, rfl⟩) ⟨_, _, rfl⟩ ⟨Nat.le_of_ble_eq_true rfl, Nat.le_of_ble_eq_true rfl⟩ rfl hl.1 rfl (Nat.le_of_ble_eq_true rfl) dX12_operand_140 ⟨Nat.le_refl 0, Nat.le_refl 0⟩) X343 (fun t668 H lc q666 X667 => ?_)
                  unfold po_X12_code at q666
                  obtain ⟨q669, q670, q671, q672, q673⟩ := q666
                  have F674 : Fr [(131, 15), (131, 16), (131, 4), (131, 11), (131, 12), (131, 13), (131, 14), (131, 41), (131, 42), (131, 43), (131, 44), (131, 45)] [135, 148] τ t668 := Fr_call F345 q670 (by decide)
                  obtain ⟨v675, z676⟩ : ∃ x, t668 131 41 = x := ⟨_, rfl⟩
                  rw [z676] at q671
                  have e677 := congrArg Int32.toInt ((M342.2 131 41 (Or.inr (by decide))).trans ((q320 131 41 (by decide)).trans ((M312.2 131 41 (Or.inr (by decide))).trans z10)))
                  have e678 := congrArg Int32.toInt z676
                  refine r_iconst S dX12_operand_143 (by decide) (fun v679 z680 => ?_)
                  have r681 := R_eq z680
                  exact r_ret S hr hlk X667 ⟨q669, F674, (R_of r681 rfl), (by rw [((q670 131 4 (by decide)).trans ((M342.2 131 4 (Or.inr (by decide))).trans z327))]; exact R_of q321 rfl), (by rw [((q670 131 11 (by decide)).trans ((M342.2 131 11 (Or.inr (by decide))).trans z329))]; exact R_of q322 rfl), (by have h1_0 := congrArg Int32.toInt ((q670 131 4 (by decide)).trans ((M342.2 131 4 (Or.inr (by decide))).trans z327)); have h2_0 := congrArg Int32.toInt z4; omega), (by have h1_0 := congrArg Int32.toInt ((q670 131 4 (by decide)).trans ((M342.2 131 4 (Or.inr (by decide))).trans z327)); have h2_0 := congrArg Int32.toInt z4; have h1_1 := congrArg Int32.toInt ((q670 131 11 (by decide)).trans ((M342.2 131 11 (Or.inr (by decide))).trans z329)); have h2_1 := congrArg Int32.toInt z7; omega), (by have h1_0 := congrArg Int32.toInt ((q670 131 11 (by decide)).trans ((M342.2 131 11 (Or.inr (by decide))).trans z329)); have h2_0 := congrArg Int32.toInt z7; omega), (by rw [z676]; exact R_of q671 rfl), (by rw [((q670 131 42 (by decide)).trans ((M342.2 131 42 (Or.inr (by decide))).trans ((q320 131 42 (by decide)).trans M312.1)))]; exact R_of r310 rfl), (by rw [((q670 131 43 (by decide)).trans ((M342.2 131 43 (Or.inr (by decide))).trans ((q320 131 43 (by decide)).trans ((M312.2 131 43 (Or.inr (by decide))).trans z16))))]; exact R_of r20 rfl), (by rw [((q670 131 45 (by decide)).trans M342.1)]; exact R_of r340 rfl), (fun _ => (by have n1 := congrArg Int32.toInt z13; have n2 := congrArg Int32.toInt z2; exact (SI_leaf hp_0 (fun j => ((M342.2 135 j (Or.inl (by decide))).trans ((q320 135 j (by simp [fz])).trans ((M312.2 135 j (Or.inl (by decide))).trans rfl)))) (fun j => ((M342.2 148 j (Or.inl (by decide))).trans ((q320 148 j (by simp [fz])).trans ((M312.2 148 j (Or.inl (by decide))).trans rfl)))) ((M342.2 131 41 (Or.inr (by decide))).trans ((q320 131 41 (by decide)).trans ((M312.2 131 41 (Or.inr (by decide))).trans rfl))) ((M342.2 131 42 (Or.inr (by decide))).trans ((q320 131 42 (by decide)).trans M312.1)) ((M342.2 131 43 (Or.inr (by decide))).trans ((q320 131 43 (by decide)).trans ((M312.2 131 43 (Or.inr (by decide))).trans rfl))) M342.1 (by omega) (by omega) (by omega) ⟨by omega, by omega⟩ (by omega) q673 q670 q672)))⟩ (nr_bool (R_of (lo := 0) (hi := 1) r681 rfl)) dX12_operand_144
              ·
                exfalso; omega
          ·
            have r682 : R (9) (2147483647) v295 := ⟨by omega, by omega⟩
            refine r_aload_n S dX12_operand_56 rfl (lv_at hl 3 rfl) ?_
            refine r_iconst S dX12_operand_57 (by decide) (fun v683 z684 => ?_)
            have r685 := R_eq z684
            refine r_ki (q_V (As := [.int v683]) (rest := []) (K := 38) (ci := 10) S X40 (c_X12_bad l G τ hI v683 (R_of (lo := -2147483648) (hi := 2147483647) r685 rfl)) ck12_183 (Nat.le_of_ble_eq_true rfl) rfl (fun _ => ⟨_, rfl⟩) ⟨_, _, rfl⟩ ⟨Nat.le_of_ble_eq_true rfl, Nat.le_of_ble_eq_true rfl⟩ rfl hl.1 rfl (Nat.le_of_ble_eq_true rfl) dX12_operand_58 ⟨Nat.le_refl 0, Nat.le_refl 0⟩) X40 (fun v689 t688 H lc q686 X687 => ?_)
            unfold po_X12_bad at q686
            obtain ⟨q690, q691, q692⟩ := q686
            have F693 : Fr [(131, 15), (131, 16), (131, 4), (131, 11), (131, 12), (131, 13), (131, 14), (131, 41), (131, 42), (131, 43), (131, 44), (131, 45)] [135, 148] τ t688 := Fr_call Fr_rfl q691 (by decide)
            exact r_ret S hr hlk X687 ⟨q690, F693, (R_of q692 rfl), (by rw [((q691 131 4 (by decide)).trans z4)]; exact R_of r5 rfl), (by rw [((q691 131 11 (by decide)).trans z7)]; exact R_of r277 rfl), (by have h1_0 := congrArg Int32.toInt ((q691 131 4 (by decide)).trans z4); have h2_0 := congrArg Int32.toInt z4; omega), (by have h1_0 := congrArg Int32.toInt ((q691 131 4 (by decide)).trans z4); have h2_0 := congrArg Int32.toInt z4; have h1_1 := congrArg Int32.toInt ((q691 131 11 (by decide)).trans z7); have h2_1 := congrArg Int32.toInt z7; omega), (by have h1_0 := congrArg Int32.toInt ((q691 131 11 (by decide)).trans z7); have h2_0 := congrArg Int32.toInt z7; omega), (by rw [((q691 131 41 (by decide)).trans z10)]; exact R_of r19 rfl), (by rw [((q691 131 42 (by decide)).trans z13)]; exact R_of r294 rfl), (by rw [((q691 131 43 (by decide)).trans z16)]; exact R_of r20 rfl), (by rw [((q691 131 45 (by decide)).trans z2)]; exact R_of hf_0 rfl), (fun h => by exfalso; omega)⟩ (nr_bool (R_of (lo := 0) (hi := 1) q692 rfl)) dX12_operand_61
      ·
        have r694 : R (-1) (-1) v42 := ⟨by omega, by omega⟩
        refine r_aload_n S dX12_operand_32 rfl (lv_at hl 3 rfl) ?_
        refine r_iconst S dX12_operand_33 (by decide) (fun v695 z696 => ?_)
        have r697 := R_eq z696
        refine r_ki (q_V (As := [.int v695]) (rest := []) (K := 38) (ci := 10) S X40 (c_X12_bad l G τ hI v695 (R_of (lo := -2147483648) (hi := 2147483647) r697 rfl)) ck12_183 (Nat.le_of_ble_eq_true rfl) rfl (fun _ => ⟨_, rfl⟩) ⟨_, _, rfl⟩ ⟨Nat.le_of_ble_eq_true rfl, Nat.le_of_ble_eq_true rfl⟩ rfl hl.1 rfl (Nat.le_of_ble_eq_true rfl) dX12_operand_34 ⟨Nat.le_refl 0, Nat.le_refl 0⟩) X40 (fun v701 t700 H lc q698 X699 => ?_)
        unfold po_X12_bad at q698
        obtain ⟨q702, q703, q704⟩ := q698
        have F705 : Fr [(131, 15), (131, 16), (131, 4), (131, 11), (131, 12), (131, 13), (131, 14), (131, 41), (131, 42), (131, 43), (131, 44), (131, 45)] [135, 148] τ t700 := Fr_call Fr_rfl q703 (by decide)
        exact r_ret S hr hlk X699 ⟨q702, F705, (R_of q704 rfl), (by rw [((q703 131 4 (by decide)).trans z4)]; exact R_of r5 rfl), (by rw [((q703 131 11 (by decide)).trans z7)]; exact R_of r8 rfl), (by have h1_0 := congrArg Int32.toInt ((q703 131 4 (by decide)).trans z4); have h2_0 := congrArg Int32.toInt z4; omega), (by have h1_0 := congrArg Int32.toInt ((q703 131 4 (by decide)).trans z4); have h2_0 := congrArg Int32.toInt z4; have h1_1 := congrArg Int32.toInt ((q703 131 11 (by decide)).trans z7); have h2_1 := congrArg Int32.toInt z7; omega), (by have h1_0 := congrArg Int32.toInt ((q703 131 11 (by decide)).trans z7); have h2_0 := congrArg Int32.toInt z7; omega), (by rw [((q703 131 41 (by decide)).trans z10)]; exact R_of r19 rfl), (by rw [((q703 131 42 (by decide)).trans z13)]; exact R_of r14 rfl), (by rw [((q703 131 43 (by decide)).trans z16)]; exact R_of r20 rfl), (by rw [((q703 131 45 (by decide)).trans z2)]; exact R_of hf_0 rfl), (fun h => by exfalso; omega)⟩ (nr_bool (R_of (lo := 0) (hi := 1) q704 rfl)) dX12_operand_37
def po_X12_behind (τ : Tau)   (r : Int32) (u : Tau) : Prop := Inv u ∧ Fr [(131, 15), (131, 16), (131, 4), (131, 11), (131, 12), (131, 13), (131, 14), (131, 41), (131, 43), (131, 44), (131, 45)] [135, 148] τ u ∧ R (0) (1) r ∧ R (0) (940) (u 131 4) ∧ R (0) (4) (u 131 11) ∧ (τ 131 4).toInt ≤ (u 131 4).toInt ∧ (r.toInt = 1 ∧ 1 ≤ (u 131 11).toInt ∧ (u 131 11).toInt ≤ 3 → (τ 131 4).toInt < (u 131 4).toInt) ∧ (r.toInt = 1 → 1 ≤ (τ 131 11).toInt ∧ (τ 131 11).toInt ≤ 3) ∧ R (0) (53) (u 131 41) ∧ R (0) (20) (u 131 42) ∧ R (0) (45) (u 131 43) ∧ R (0) (1) (u 131 45) ∧ (r.toInt = 1 → SI u)
set_option maxHeartbeats 4000000 in
set_option maxRecDepth 100000 in
theorem c_X12_behind (l : Launch) (G : Gx) (τ : Tau) (hI : Inv τ) (hf_0 : R (1) (1) (τ 131 45)) (hp_0 : SI τ) : Ci l G yX12_behind cX12_behind 1 (some .boolean) 2 44 [.ref (G.2.2.2.1 131)] τ (po_X12_behind τ  ) := by
  unfold Ci
  refine C_of (own := RX12) (by decide) rfl (Nat.le_of_ble_eq_true rfl) ?_
  intro p e s m below meth c ls S hr hlk X hl
  have hl : lv_has ls 1 [(0, .ref (G.2.2.2.1 131))] := hl
  obtain ⟨v1, z2⟩ : ∃ x, τ 131 45 = x := ⟨_, rfl⟩
  rw [z2] at hf_0
  obtain ⟨v3, z4⟩ : ∃ x, τ 131 4 = x := ⟨_, rfl⟩
  have r5 : R (0) (940) v3 := rd hI rfl z4
  obtain ⟨v6, z7⟩ : ∃ x, τ 131 11 = x := ⟨_, rfl⟩
  have r8 : R (0) (4) v6 := rd hI rfl z7
  obtain ⟨v9, z10⟩ : ∃ x, τ 131 41 = x := ⟨_, rfl⟩
  have r11 : R (0) (53) v9 := rd hI rfl z10
  obtain ⟨v12, z13⟩ : ∃ x, τ 131 42 = x := ⟨_, rfl⟩
  have r14 : R (0) (20) v12 := rd hI rfl z13
  obtain ⟨v15, z16⟩ : ∃ x, τ 131 43 = x := ⟨_, rfl⟩
  have r17 : R (0) (45) v15 := rd hI rfl z16
  refine r_aload_n S dX12_behind_0 rfl (lv_at hl 0 rfl) ?_
  refine r_kv (q_V (As := []) (rest := []) (K := 38) (ci := 10) S X (c_X12_nots l G τ hI (by rw [z2]; exact R_of hf_0 rfl) hp_0) ck12_425 (Nat.le_of_ble_eq_true rfl) rfl (fun _ => ⟨_, rfl⟩) ⟨_, _, rfl⟩ ⟨Nat.le_of_ble_eq_true rfl, Nat.le_of_ble_eq_true rfl⟩ rfl hl.1 rfl (Nat.le_of_ble_eq_true rfl) dX12_behind_1 ⟨Nat.le_refl 0, Nat.le_refl 0⟩) X (fun t20 H lc q18 X19 => ?_)
  unfold po_X12_nots at q18
  obtain ⟨q21, q22, q23, q24, q25⟩ := q18
  have F26 : Fr [(131, 15), (131, 16), (131, 4), (131, 11), (131, 12), (131, 13), (131, 14), (131, 41), (131, 43), (131, 44), (131, 45)] [135, 148] τ t20 := Fr_call Fr_rfl q22 (by decide)
  obtain ⟨v27, z28⟩ : ∃ x, t20 131 41 = x := ⟨_, rfl⟩
  rw [z28] at q23
  obtain ⟨v29, z30⟩ : ∃ x, t20 131 43 = x := ⟨_, rfl⟩
  rw [z30] at q24
  refine r_aload_n S dX12_behind_4 rfl (lv_at hl 0 rfl) ?_
  refine lv_ldc2 S.1.1 S.1.2.1 S.1.2.2.2.1 (S.1.2.2.2.2 _ kw50) dX12_behind_5 ?_
  refine lv_topl (fun j31 _ => ?_)
  refine r_ki (q_V (As := [.long j31]) (rest := []) (K := 38) (ci := 10) S X19 (c_X12_isWord l G t20 q21 j31) ck12_208 (Nat.le_of_ble_eq_true rfl) rfl (fun _ => ⟨_, rfl⟩) ⟨_, _, rfl⟩ ⟨Nat.le_of_ble_eq_true rfl, Nat.le_of_ble_eq_true rfl⟩ rfl hl.1 rfl (Nat.le_of_ble_eq_true rfl) dX12_behind_8 ⟨Nat.le_refl 0, Nat.le_refl 0⟩) X19 (fun v35 t34 H lc q32 X33 => ?_)
  unfold po_X12_isWord at q32
  obtain ⟨q36, q37, q38⟩ := q32
  rw [q36] at X33
  rw [q36] at q38
  refine r_if_ne (tgt := 24) S dX12_behind_11 (by decide) (fun c39 => ?_) (fun c39 => ?_)
  ·
    have r40 : R (1) (1) v35 := ⟨by omega, by omega⟩
    have p41 := q38 (by omega)
    have r42 : R (1) (1) v6 := ((q22 131 11 (by decide)).trans z7) ▸ p41
    have r43 : R (1) (1) v6 := ⟨by omega, by omega⟩
    refine r_aload_n S dX12_behind_24 rfl (lv_at hl 0 rfl) ?_
    refine r_aload_n S dX12_behind_25 rfl (lv_at hl 0 rfl) ?_
    refine lv_ldc2 S.1.1 S.1.2.1 S.1.2.2.2.1 (S.1.2.2.2.2 _ kw50) dX12_behind_26 ?_
    refine lv_topl (fun j44 _ => ?_)
    refine r_ki (q_V (As := [.long j44]) (rest := [.ref (G.2.2.2.1 131)]) (K := 38) (ci := 10) S X33 (c_X12_isWord l G t20 q21 j44) ck12_208 (Nat.le_of_ble_eq_true rfl) rfl (fun _ => ⟨_, rfl⟩) ⟨_, _, rfl⟩ ⟨Nat.le_of_ble_eq_true rfl, Nat.le_of_ble_eq_true rfl⟩ rfl hl.1 rfl (Nat.le_of_ble_eq_true rfl) dX12_behind_29 ⟨Nat.le_refl 0, Nat.le_refl 0⟩) X33 (fun v48 t47 H lc q45 X46 => ?_)
    unfold po_X12_isWord at q45
    obtain ⟨q49, q50, q51⟩ := q45
    rw [q49] at X46
    rw [q49] at q51
    refine r_if_eq (tgt := 40) S dX12_behind_32 (by decide) (fun c52 => ?_) (fun c52 => ?_)
    ·
      have r53 : R (0) (0) v48 := ⟨by omega, by omega⟩
      refine r_bipush S dX12_behind_40 (by decide) (fun v54 z55 => ?_)
      have r56 := R_eq z55
      refine r_kv (q_V (As := [.int v54]) (rest := []) (K := 38) (ci := 10) S X46 (c_X12_joins_22 l G t20 q21 v54 r56 (by rw [((q22 131 45 (by decide)).trans z2)]; exact R_of hf_0 rfl) q25) ck12_428 (Nat.le_of_ble_eq_true rfl) rfl (fun _ => ⟨_, rfl⟩) ⟨_, _, rfl⟩ ⟨Nat.le_of_ble_eq_true rfl, Nat.le_of_ble_eq_true rfl⟩ rfl hl.1 rfl (Nat.le_of_ble_eq_true rfl) dX12_behind_42 ⟨Nat.le_refl 0, Nat.le_refl 0⟩) X46 (fun t59 H lc q57 X58 => ?_)
      unfold po_X12_joins_22 at q57
      obtain ⟨q60, q61, q62, q63, q64, q65⟩ := q57
      have F66 : Fr [(131, 15), (131, 16), (131, 4), (131, 11), (131, 12), (131, 13), (131, 14), (131, 41), (131, 43), (131, 44), (131, 45)] [135, 148] τ t59 := Fr_call F26 q61 (by decide)
      obtain ⟨v67, z68⟩ : ∃ x, t59 131 41 = x := ⟨_, rfl⟩
      rw [z68] at q62
      obtain ⟨v69, z70⟩ : ∃ x, t59 131 43 = x := ⟨_, rfl⟩
      rw [z70] at q63
      have h71 := SI_b q64 z68 ((q61 131 42 (by decide)).trans ((q22 131 42 (by decide)).trans z13)) z70 ((q61 131 45 (by decide)).trans ((q22 131 45 (by decide)).trans z2))
      have r72 : R (0) (39) v67 := ⟨by omega, by omega⟩
      have r73 : R (0) (39) v69 := ⟨by omega, by omega⟩
      refine r_aload_n S dX12_behind_45 rfl (lv_at hl 0 rfl) ?_
      refine r_get (K := 38) (v := .ref (G.2.2.2.1 148)) S X58 (Nat.le_of_ble_eq_true rfl) rfl lk12_84_10 (fun _ => ⟨_, rfl, rfl⟩) dX12_behind_46 ?_
      refine r_aload_n S dX12_behind_49 rfl (lv_at hl 0 rfl) ?_
      refine r_geti (K := 38) S X58 (Nat.le_of_ble_eq_true rfl) rfl lk12_407_10 (fun _ => ⟨_, rfl, rfl⟩) z70 dX12_behind_50 ?_
      refine r_aload_n S dX12_behind_53 rfl (lv_at hl 0 rfl) ?_
      refine lv_ldc2 S.1.1 S.1.2.1 S.1.2.2.2.1 (S.1.2.2.2.2 _ kw50) dX12_behind_54 ?_
      refine lv_topl (fun j74 _ => ?_)
      refine r_ki (q_V (As := [.long j74]) (rest := [.int v69, .ref (G.2.2.2.1 148)]) (K := 38) (ci := 10) S X58 (c_X12_isWord l G t59 q60 j74) ck12_208 (Nat.le_of_ble_eq_true rfl) rfl (fun _ => ⟨_, rfl⟩) ⟨_, _, rfl⟩ ⟨Nat.le_of_ble_eq_true rfl, Nat.le_of_ble_eq_true rfl⟩ rfl hl.1 rfl (Nat.le_of_ble_eq_true rfl) dX12_behind_57 ⟨Nat.le_refl 0, Nat.le_refl 0⟩) X58 (fun v78 t77 H lc q75 X76 => ?_)
      unfold po_X12_isWord at q75
      obtain ⟨q79, q80, q81⟩ := q75
      rw [q79] at X76
      rw [q79] at q81
      refine r_if_eq (tgt := 68) S dX12_behind_60 (by decide) (fun c82 => ?_) (fun c82 => ?_)
      ·
        have r83 : R (0) (0) v78 := ⟨by omega, by omega⟩
        refine r_bipush S dX12_behind_68 (by decide) (fun v84 z85 => ?_)
        have r86 := R_eq z85
        refine r_ast (n := 45) (K := 55) S X76 (Nat.le_of_ble_eq_true rfl) rfl (fun _ _ => rfl) (ix_of r73 rfl) dX12_behind_70 (fun t87 H lc M88 X89 => ?_)
        have I90 := Inv_mu q60 M88 (R_any v84)
        have F91 : Fr [(131, 15), (131, 16), (131, 4), (131, 11), (131, 12), (131, 13), (131, 14), (131, 41), (131, 43), (131, 44), (131, 45)] [135, 148] τ t87 := Fr_cell F66 M88 (by decide)
        refine r_aload_n S dX12_behind_71 rfl (lv_at hl 0 rfl) ?_
        refine r_dup S dX12_behind_72 rfl ?_
        refine r_geti (K := 38) S X89 (Nat.le_of_ble_eq_true rfl) rfl lk12_407_10 (fun _ => ⟨_, rfl, rfl⟩) ((M88.2 131 43 (Or.inl (by decide))).trans z70) dX12_behind_73 ?_
        refine r_iconst S dX12_behind_76 (by decide) (fun v92 z93 => ?_)
        have r94 := R_eq z93
        refine r_iadd S dX12_behind_77 (fun v95 z96 => ?_)
        obtain ⟨e97, r98⟩ := i_add (lo := 1) (hi := 40) z96 r73 r94 rfl
        refine r_put (K := 38) (ty := .int) S X89 (Nat.le_of_ble_eq_true rfl) rfl lk12_407_10 (fun _ => ⟨_, rfl, Nat.le_of_ble_eq_true rfl, rfl⟩) (fun _ _ _ h => by cases h; exact ⟨rfl, rfl⟩) rfl rfl dX12_behind_78 (fun t99 H lc M100 X101 => ?_)
        have I102 := Inv_mu I90 M100 (show Rg (kd 131) 43 v95 from (R_of (lo := 0) (hi := 45) r98 rfl))
        have F103 : Fr [(131, 15), (131, 16), (131, 4), (131, 11), (131, 12), (131, 13), (131, 14), (131, 41), (131, 43), (131, 44), (131, 45)] [135, 148] τ t99 := Fr_mu F91 M100 (by decide)
        refine r_aload_n S dX12_behind_81 rfl (lv_at hl 0 rfl) ?_
        refine r_iconst S dX12_behind_82 (by decide) (fun v104 z105 => ?_)
        have r106 := R_eq z105
        refine r_put (K := 38) (ty := .boolean) S X101 (Nat.le_of_ble_eq_true rfl) rfl lk12_422_10 (fun _ => ⟨_, rfl, Nat.le_of_ble_eq_true rfl, rfl⟩) (fun _ _ _ h => by cases h; exact ⟨rfl, rfl⟩) (nr_bool (R_of (lo := 0) (hi := 1) r106 rfl)) (ft_bool (R_of (lo := 0) (hi := 1) r106 rfl)) dX12_behind_83 (fun t107 H lc M108 X109 => ?_)
        have I110 := Inv_mu I102 M108 (show Rg (kd 131) 45 v104 from (R_of (lo := 0) (hi := 1) r106 rfl))
        have F111 : Fr [(131, 15), (131, 16), (131, 4), (131, 11), (131, 12), (131, 13), (131, 14), (131, 41), (131, 43), (131, 44), (131, 45)] [135, 148] τ t107 := Fr_mu F103 M108 (by decide)
        refine r_aload_n S dX12_behind_86 rfl (lv_at hl 0 rfl) ?_
        refine r_kv (q_V (As := []) (rest := []) (K := 38) (ci := 10) S X109 (c_X12_skip l G t107 I110 ) ck12_186 (Nat.le_of_ble_eq_true rfl) rfl (fun _ => ⟨_, rfl⟩) ⟨_, _, rfl⟩ ⟨Nat.le_of_ble_eq_true rfl, Nat.le_of_ble_eq_true rfl⟩ rfl hl.1 rfl (Nat.le_of_ble_eq_true rfl) dX12_behind_87 ⟨Nat.le_refl 0, Nat.le_refl 0⟩) X109 (fun t114 H lc q112 X113 => ?_)
        unfold po_X12_skip at q112
        obtain ⟨q115, q116, q117, q118, q119, q120⟩ := q112
        have F121 : Fr [(131, 15), (131, 16), (131, 4), (131, 11), (131, 12), (131, 13), (131, 14), (131, 41), (131, 43), (131, 44), (131, 45)] [135, 148] τ t114 := Fr_call F111 q116 (by decide)
        obtain ⟨v122, z123⟩ : ∃ x, t114 131 4 = x := ⟨_, rfl⟩
        rw [z123] at q117
        obtain ⟨v124, z125⟩ : ∃ x, t114 131 11 = x := ⟨_, rfl⟩
        rw [z125] at q118
        have e126 := congrArg Int32.toInt ((M108.2 131 4 (Or.inr (by decide))).trans ((M100.2 131 4 (Or.inr (by decide))).trans ((M88.2 131 4 (Or.inl (by decide))).trans ((q61 131 4 (by decide)).trans ((q22 131 4 (by decide)).trans z4)))))
        have e127 := congrArg Int32.toInt z123
        have e128 := congrArg Int32.toInt ((M108.2 131 4 (Or.inr (by decide))).trans ((M100.2 131 4 (Or.inr (by decide))).trans ((M88.2 131 4 (Or.inl (by decide))).trans ((q61 131 4 (by decide)).trans ((q22 131 4 (by decide)).trans z4)))))
        have e129 := congrArg Int32.toInt z123
        have e130 := congrArg Int32.toInt ((M108.2 131 11 (Or.inr (by decide))).trans ((M100.2 131 11 (Or.inr (by decide))).trans ((M88.2 131 11 (Or.inl (by decide))).trans ((q61 131 11 (by decide)).trans ((q22 131 11 (by decide)).trans z7)))))
        have e131 := congrArg Int32.toInt z125
        refine r_iconst S dX12_behind_90 (by decide) (fun v132 z133 => ?_)
        have r134 := R_eq z133
        exact r_ret S hr hlk X113 ⟨q115, F121, (R_of r134 rfl), (by rw [z123]; exact R_of q117 rfl), (by rw [z125]; exact R_of q118 rfl), (by have h1_0 := congrArg Int32.toInt z123; have h2_0 := congrArg Int32.toInt z4; omega), (by have h1_0 := congrArg Int32.toInt z123; have h2_0 := congrArg Int32.toInt z4; have h1_1 := congrArg Int32.toInt z125; have h2_1 := congrArg Int32.toInt z7; omega), (by have h1_0 := congrArg Int32.toInt z125; have h2_0 := congrArg Int32.toInt z7; omega), (by rw [((q116 131 41 (by decide)).trans ((M108.2 131 41 (Or.inr (by decide))).trans ((M100.2 131 41 (Or.inr (by decide))).trans ((M88.2 131 41 (Or.inl (by decide))).trans z68))))]; exact R_of r72 rfl), (by rw [((q116 131 42 (by decide)).trans ((M108.2 131 42 (Or.inr (by decide))).trans ((M100.2 131 42 (Or.inr (by decide))).trans ((M88.2 131 42 (Or.inl (by decide))).trans ((q61 131 42 (by decide)).trans ((q22 131 42 (by decide)).trans z13))))))]; exact R_of r14 rfl), (by rw [((q116 131 43 (by decide)).trans ((M108.2 131 43 (Or.inr (by decide))).trans M100.1))]; exact R_of r98 rfl), (by rw [((q116 131 45 (by decide)).trans M108.1)]; exact R_of r106 rfl), (fun _ => (by have n1 := congrArg Int32.toInt ((q61 131 42 (by decide)).trans ((q22 131 42 (by decide)).trans z13)); have n2 := congrArg Int32.toInt ((q61 131 45 (by decide)).trans ((q22 131 45 (by decide)).trans z2)); exact SI_push q64 (fun j => ((q116 135 j (by simp [fz])).trans ((M108.2 135 j (Or.inl (by decide))).trans ((M100.2 135 j (Or.inl (by decide))).trans ((M88.2 135 j (Or.inl (by decide))).trans rfl))))) ((q116 131 41 (by decide)).trans ((M108.2 131 41 (Or.inr (by decide))).trans ((M100.2 131 41 (Or.inr (by decide))).trans ((M88.2 131 41 (Or.inl (by decide))).trans rfl)))) ((q116 131 42 (by decide)).trans ((M108.2 131 42 (Or.inr (by decide))).trans ((M100.2 131 42 (Or.inr (by decide))).trans ((M88.2 131 42 (Or.inl (by decide))).trans ((q61 131 42 (by decide)).trans ((q22 131 42 (by decide)).trans z13)))))) ((q116 131 43 (by decide)).trans ((M108.2 131 43 (Or.inr (by decide))).trans M100.1)) ((q116 131 45 (by decide)).trans M108.1) z70 (fun j hj => ((q116 148 j (by simp [fz])).trans ((M108.2 148 j (Or.inl (by decide))).trans ((M100.2 148 j (Or.inl (by decide))).trans ((M88.2 148 j (Or.inr hj)).trans rfl))))) (((q116 148 v69.toNatClampNeg (by simp [fz])).trans ((M108.2 148 v69.toNatClampNeg (Or.inl (by decide))).trans ((M100.2 148 v69.toNatClampNeg (Or.inl (by decide))).trans rfl))).trans M88.1) (by omega) (Or.inr ⟨by omega, by omega, by omega, by omega⟩)))⟩ (nr_bool (R_of (lo := 0) (hi := 1) r134 rfl)) dX12_behind_91
      ·
        have r135 : R (1) (1) v78 := ⟨by omega, by omega⟩
        have p136 := q81 (by omega)
        have r137 : R (1) (1) v6 := ((q61 131 11 (by decide)).trans ((q22 131 11 (by decide)).trans z7)) ▸ p136
        have r138 : R (1) (1) v6 := ⟨by omega, by omega⟩
        refine r_bipush S dX12_behind_63 (by decide) (fun v139 z140 => ?_)
        have r141 := R_eq z140
        refine r_goto (tgt := 70) S dX12_behind_65 (by decide) ?_
        refine r_ast (n := 45) (K := 55) S X76 (Nat.le_of_ble_eq_true rfl) rfl (fun _ _ => rfl) (ix_of r73 rfl) dX12_behind_70 (fun t142 H lc M143 X144 => ?_)
        have I145 := Inv_mu q60 M143 (R_any v139)
        have F146 : Fr [(131, 15), (131, 16), (131, 4), (131, 11), (131, 12), (131, 13), (131, 14), (131, 41), (131, 43), (131, 44), (131, 45)] [135, 148] τ t142 := Fr_cell F66 M143 (by decide)
        refine r_aload_n S dX12_behind_71 rfl (lv_at hl 0 rfl) ?_
        refine r_dup S dX12_behind_72 rfl ?_
        refine r_geti (K := 38) S X144 (Nat.le_of_ble_eq_true rfl) rfl lk12_407_10 (fun _ => ⟨_, rfl, rfl⟩) ((M143.2 131 43 (Or.inl (by decide))).trans z70) dX12_behind_73 ?_
        refine r_iconst S dX12_behind_76 (by decide) (fun v147 z148 => ?_)
        have r149 := R_eq z148
        refine r_iadd S dX12_behind_77 (fun v150 z151 => ?_)
        obtain ⟨e152, r153⟩ := i_add (lo := 1) (hi := 40) z151 r73 r149 rfl
        refine r_put (K := 38) (ty := .int) S X144 (Nat.le_of_ble_eq_true rfl) rfl lk12_407_10 (fun _ => ⟨_, rfl, Nat.le_of_ble_eq_true rfl, rfl⟩) (fun _ _ _ h => by cases h; exact ⟨rfl, rfl⟩) rfl rfl dX12_behind_78 (fun t154 H lc M155 X156 => ?_)
        have I157 := Inv_mu I145 M155 (show Rg (kd 131) 43 v150 from (R_of (lo := 0) (hi := 45) r153 rfl))
        have F158 : Fr [(131, 15), (131, 16), (131, 4), (131, 11), (131, 12), (131, 13), (131, 14), (131, 41), (131, 43), (131, 44), (131, 45)] [135, 148] τ t154 := Fr_mu F146 M155 (by decide)
        refine r_aload_n S dX12_behind_81 rfl (lv_at hl 0 rfl) ?_
        refine r_iconst S dX12_behind_82 (by decide) (fun v159 z160 => ?_)
        have r161 := R_eq z160
        refine r_put (K := 38) (ty := .boolean) S X156 (Nat.le_of_ble_eq_true rfl) rfl lk12_422_10 (fun _ => ⟨_, rfl, Nat.le_of_ble_eq_true rfl, rfl⟩) (fun _ _ _ h => by cases h; exact ⟨rfl, rfl⟩) (nr_bool (R_of (lo := 0) (hi := 1) r161 rfl)) (ft_bool (R_of (lo := 0) (hi := 1) r161 rfl)) dX12_behind_83 (fun t162 H lc M163 X164 => ?_)
        have I165 := Inv_mu I157 M163 (show Rg (kd 131) 45 v159 from (R_of (lo := 0) (hi := 1) r161 rfl))
        have F166 : Fr [(131, 15), (131, 16), (131, 4), (131, 11), (131, 12), (131, 13), (131, 14), (131, 41), (131, 43), (131, 44), (131, 45)] [135, 148] τ t162 := Fr_mu F158 M163 (by decide)
        refine r_aload_n S dX12_behind_86 rfl (lv_at hl 0 rfl) ?_
        refine r_kv (q_V (As := []) (rest := []) (K := 38) (ci := 10) S X164 (c_X12_skip l G t162 I165 ) ck12_186 (Nat.le_of_ble_eq_true rfl) rfl (fun _ => ⟨_, rfl⟩) ⟨_, _, rfl⟩ ⟨Nat.le_of_ble_eq_true rfl, Nat.le_of_ble_eq_true rfl⟩ rfl hl.1 rfl (Nat.le_of_ble_eq_true rfl) dX12_behind_87 ⟨Nat.le_refl 0, Nat.le_refl 0⟩) X164 (fun t169 H lc q167 X168 => ?_)
        unfold po_X12_skip at q167
        obtain ⟨q170, q171, q172, q173, q174, q175⟩ := q167
        have F176 : Fr [(131, 15), (131, 16), (131, 4), (131, 11), (131, 12), (131, 13), (131, 14), (131, 41), (131, 43), (131, 44), (131, 45)] [135, 148] τ t169 := Fr_call F166 q171 (by decide)
        obtain ⟨v177, z178⟩ : ∃ x, t169 131 4 = x := ⟨_, rfl⟩
        rw [z178] at q172
        obtain ⟨v179, z180⟩ : ∃ x, t169 131 11 = x := ⟨_, rfl⟩
        rw [z180] at q173
        have e181 := congrArg Int32.toInt ((M163.2 131 4 (Or.inr (by decide))).trans ((M155.2 131 4 (Or.inr (by decide))).trans ((M143.2 131 4 (Or.inl (by decide))).trans ((q61 131 4 (by decide)).trans ((q22 131 4 (by decide)).trans z4)))))
        have e182 := congrArg Int32.toInt z178
        have e183 := congrArg Int32.toInt ((M163.2 131 4 (Or.inr (by decide))).trans ((M155.2 131 4 (Or.inr (by decide))).trans ((M143.2 131 4 (Or.inl (by decide))).trans ((q61 131 4 (by decide)).trans ((q22 131 4 (by decide)).trans z4)))))
        have e184 := congrArg Int32.toInt z178
        have e185 := congrArg Int32.toInt ((M163.2 131 11 (Or.inr (by decide))).trans ((M155.2 131 11 (Or.inr (by decide))).trans ((M143.2 131 11 (Or.inl (by decide))).trans ((q61 131 11 (by decide)).trans ((q22 131 11 (by decide)).trans z7)))))
        have e186 := congrArg Int32.toInt z180
        refine r_iconst S dX12_behind_90 (by decide) (fun v187 z188 => ?_)
        have r189 := R_eq z188
        exact r_ret S hr hlk X168 ⟨q170, F176, (R_of r189 rfl), (by rw [z178]; exact R_of q172 rfl), (by rw [z180]; exact R_of q173 rfl), (by have h1_0 := congrArg Int32.toInt z178; have h2_0 := congrArg Int32.toInt z4; omega), (by have h1_0 := congrArg Int32.toInt z178; have h2_0 := congrArg Int32.toInt z4; have h1_1 := congrArg Int32.toInt z180; have h2_1 := congrArg Int32.toInt z7; omega), (by have h1_0 := congrArg Int32.toInt z180; have h2_0 := congrArg Int32.toInt z7; omega), (by rw [((q171 131 41 (by decide)).trans ((M163.2 131 41 (Or.inr (by decide))).trans ((M155.2 131 41 (Or.inr (by decide))).trans ((M143.2 131 41 (Or.inl (by decide))).trans z68))))]; exact R_of r72 rfl), (by rw [((q171 131 42 (by decide)).trans ((M163.2 131 42 (Or.inr (by decide))).trans ((M155.2 131 42 (Or.inr (by decide))).trans ((M143.2 131 42 (Or.inl (by decide))).trans ((q61 131 42 (by decide)).trans ((q22 131 42 (by decide)).trans z13))))))]; exact R_of r14 rfl), (by rw [((q171 131 43 (by decide)).trans ((M163.2 131 43 (Or.inr (by decide))).trans M155.1))]; exact R_of r153 rfl), (by rw [((q171 131 45 (by decide)).trans M163.1)]; exact R_of r161 rfl), (fun _ => (by have n1 := congrArg Int32.toInt ((q61 131 42 (by decide)).trans ((q22 131 42 (by decide)).trans z13)); have n2 := congrArg Int32.toInt ((q61 131 45 (by decide)).trans ((q22 131 45 (by decide)).trans z2)); exact SI_push q64 (fun j => ((q171 135 j (by simp [fz])).trans ((M163.2 135 j (Or.inl (by decide))).trans ((M155.2 135 j (Or.inl (by decide))).trans ((M143.2 135 j (Or.inl (by decide))).trans rfl))))) ((q171 131 41 (by decide)).trans ((M163.2 131 41 (Or.inr (by decide))).trans ((M155.2 131 41 (Or.inr (by decide))).trans ((M143.2 131 41 (Or.inl (by decide))).trans rfl)))) ((q171 131 42 (by decide)).trans ((M163.2 131 42 (Or.inr (by decide))).trans ((M155.2 131 42 (Or.inr (by decide))).trans ((M143.2 131 42 (Or.inl (by decide))).trans ((q61 131 42 (by decide)).trans ((q22 131 42 (by decide)).trans z13)))))) ((q171 131 43 (by decide)).trans ((M163.2 131 43 (Or.inr (by decide))).trans M155.1)) ((q171 131 45 (by decide)).trans M163.1) z70 (fun j hj => ((q171 148 j (by simp [fz])).trans ((M163.2 148 j (Or.inl (by decide))).trans ((M155.2 148 j (Or.inl (by decide))).trans ((M143.2 148 j (Or.inr hj)).trans rfl))))) (((q171 148 v69.toNatClampNeg (by simp [fz])).trans ((M163.2 148 v69.toNatClampNeg (Or.inl (by decide))).trans ((M155.2 148 v69.toNatClampNeg (Or.inl (by decide))).trans rfl))).trans M143.1) (by omega) (Or.inr ⟨by omega, by omega, by omega, by omega⟩)))⟩ (nr_bool (R_of (lo := 0) (hi := 1) r189 rfl)) dX12_behind_91
    ·
      have r190 : R (1) (1) v48 := ⟨by omega, by omega⟩
      have p191 := q51 (by omega)
      have r192 : R (1) (1) v6 := ((q22 131 11 (by decide)).trans z7) ▸ p191
      have r193 : R (1) (1) v6 := ⟨by omega, by omega⟩
      refine r_bipush S dX12_behind_35 (by decide) (fun v194 z195 => ?_)
      have r196 := R_eq z195
      refine r_goto (tgt := 42) S dX12_behind_37 (by decide) ?_
      refine r_kv (q_V (As := [.int v194]) (rest := []) (K := 38) (ci := 10) S X46 (c_X12_joins_21 l G t20 q21 v194 r196 (by rw [((q22 131 45 (by decide)).trans z2)]; exact R_of hf_0 rfl) q25) ck12_428 (Nat.le_of_ble_eq_true rfl) rfl (fun _ => ⟨_, rfl⟩) ⟨_, _, rfl⟩ ⟨Nat.le_of_ble_eq_true rfl, Nat.le_of_ble_eq_true rfl⟩ rfl hl.1 rfl (Nat.le_of_ble_eq_true rfl) dX12_behind_42 ⟨Nat.le_refl 0, Nat.le_refl 0⟩) X46 (fun t199 H lc q197 X198 => ?_)
      unfold po_X12_joins_21 at q197
      obtain ⟨q200, q201, q202, q203, q204⟩ := q197
      have F205 : Fr [(131, 15), (131, 16), (131, 4), (131, 11), (131, 12), (131, 13), (131, 14), (131, 41), (131, 43), (131, 44), (131, 45)] [135, 148] τ t199 := Fr_call F26 q201 (by decide)
      obtain ⟨v206, z207⟩ : ∃ x, t199 131 41 = x := ⟨_, rfl⟩
      rw [z207] at q202
      obtain ⟨v208, z209⟩ : ∃ x, t199 131 43 = x := ⟨_, rfl⟩
      rw [z209] at q203
      have h210 := SI_b q204 z207 ((q201 131 42 (by decide)).trans ((q22 131 42 (by decide)).trans z13)) z209 ((q201 131 45 (by decide)).trans ((q22 131 45 (by decide)).trans z2))
      have r211 : R (0) (39) v206 := ⟨by omega, by omega⟩
      have r212 : R (0) (39) v208 := ⟨by omega, by omega⟩
      refine r_aload_n S dX12_behind_45 rfl (lv_at hl 0 rfl) ?_
      refine r_get (K := 38) (v := .ref (G.2.2.2.1 148)) S X198 (Nat.le_of_ble_eq_true rfl) rfl lk12_84_10 (fun _ => ⟨_, rfl, rfl⟩) dX12_behind_46 ?_
      refine r_aload_n S dX12_behind_49 rfl (lv_at hl 0 rfl) ?_
      refine r_geti (K := 38) S X198 (Nat.le_of_ble_eq_true rfl) rfl lk12_407_10 (fun _ => ⟨_, rfl, rfl⟩) z209 dX12_behind_50 ?_
      refine r_aload_n S dX12_behind_53 rfl (lv_at hl 0 rfl) ?_
      refine lv_ldc2 S.1.1 S.1.2.1 S.1.2.2.2.1 (S.1.2.2.2.2 _ kw50) dX12_behind_54 ?_
      refine lv_topl (fun j213 _ => ?_)
      refine r_ki (q_V (As := [.long j213]) (rest := [.int v208, .ref (G.2.2.2.1 148)]) (K := 38) (ci := 10) S X198 (c_X12_isWord l G t199 q200 j213) ck12_208 (Nat.le_of_ble_eq_true rfl) rfl (fun _ => ⟨_, rfl⟩) ⟨_, _, rfl⟩ ⟨Nat.le_of_ble_eq_true rfl, Nat.le_of_ble_eq_true rfl⟩ rfl hl.1 rfl (Nat.le_of_ble_eq_true rfl) dX12_behind_57 ⟨Nat.le_refl 0, Nat.le_refl 0⟩) X198 (fun v217 t216 H lc q214 X215 => ?_)
      unfold po_X12_isWord at q214
      obtain ⟨q218, q219, q220⟩ := q214
      rw [q218] at X215
      rw [q218] at q220
      refine r_if_eq (tgt := 68) S dX12_behind_60 (by decide) (fun c221 => ?_) (fun c221 => ?_)
      ·
        have r222 : R (0) (0) v217 := ⟨by omega, by omega⟩
        refine r_bipush S dX12_behind_68 (by decide) (fun v223 z224 => ?_)
        have r225 := R_eq z224
        refine r_ast (n := 45) (K := 55) S X215 (Nat.le_of_ble_eq_true rfl) rfl (fun _ _ => rfl) (ix_of r212 rfl) dX12_behind_70 (fun t226 H lc M227 X228 => ?_)
        have I229 := Inv_mu q200 M227 (R_any v223)
        have F230 : Fr [(131, 15), (131, 16), (131, 4), (131, 11), (131, 12), (131, 13), (131, 14), (131, 41), (131, 43), (131, 44), (131, 45)] [135, 148] τ t226 := Fr_cell F205 M227 (by decide)
        refine r_aload_n S dX12_behind_71 rfl (lv_at hl 0 rfl) ?_
        refine r_dup S dX12_behind_72 rfl ?_
        refine r_geti (K := 38) S X228 (Nat.le_of_ble_eq_true rfl) rfl lk12_407_10 (fun _ => ⟨_, rfl, rfl⟩) ((M227.2 131 43 (Or.inl (by decide))).trans z209) dX12_behind_73 ?_
        refine r_iconst S dX12_behind_76 (by decide) (fun v231 z232 => ?_)
        have r233 := R_eq z232
        refine r_iadd S dX12_behind_77 (fun v234 z235 => ?_)
        obtain ⟨e236, r237⟩ := i_add (lo := 1) (hi := 40) z235 r212 r233 rfl
        refine r_put (K := 38) (ty := .int) S X228 (Nat.le_of_ble_eq_true rfl) rfl lk12_407_10 (fun _ => ⟨_, rfl, Nat.le_of_ble_eq_true rfl, rfl⟩) (fun _ _ _ h => by cases h; exact ⟨rfl, rfl⟩) rfl rfl dX12_behind_78 (fun t238 H lc M239 X240 => ?_)
        have I241 := Inv_mu I229 M239 (show Rg (kd 131) 43 v234 from (R_of (lo := 0) (hi := 45) r237 rfl))
        have F242 : Fr [(131, 15), (131, 16), (131, 4), (131, 11), (131, 12), (131, 13), (131, 14), (131, 41), (131, 43), (131, 44), (131, 45)] [135, 148] τ t238 := Fr_mu F230 M239 (by decide)
        refine r_aload_n S dX12_behind_81 rfl (lv_at hl 0 rfl) ?_
        refine r_iconst S dX12_behind_82 (by decide) (fun v243 z244 => ?_)
        have r245 := R_eq z244
        refine r_put (K := 38) (ty := .boolean) S X240 (Nat.le_of_ble_eq_true rfl) rfl lk12_422_10 (fun _ => ⟨_, rfl, Nat.le_of_ble_eq_true rfl, rfl⟩) (fun _ _ _ h => by cases h; exact ⟨rfl, rfl⟩) (nr_bool (R_of (lo := 0) (hi := 1) r245 rfl)) (ft_bool (R_of (lo := 0) (hi := 1) r245 rfl)) dX12_behind_83 (fun t246 H lc M247 X248 => ?_)
        have I249 := Inv_mu I241 M247 (show Rg (kd 131) 45 v243 from (R_of (lo := 0) (hi := 1) r245 rfl))
        have F250 : Fr [(131, 15), (131, 16), (131, 4), (131, 11), (131, 12), (131, 13), (131, 14), (131, 41), (131, 43), (131, 44), (131, 45)] [135, 148] τ t246 := Fr_mu F242 M247 (by decide)
        refine r_aload_n S dX12_behind_86 rfl (lv_at hl 0 rfl) ?_
        refine r_kv (q_V (As := []) (rest := []) (K := 38) (ci := 10) S X248 (c_X12_skip l G t246 I249 ) ck12_186 (Nat.le_of_ble_eq_true rfl) rfl (fun _ => ⟨_, rfl⟩) ⟨_, _, rfl⟩ ⟨Nat.le_of_ble_eq_true rfl, Nat.le_of_ble_eq_true rfl⟩ rfl hl.1 rfl (Nat.le_of_ble_eq_true rfl) dX12_behind_87 ⟨Nat.le_refl 0, Nat.le_refl 0⟩) X248 (fun t253 H lc q251 X252 => ?_)
        unfold po_X12_skip at q251
        obtain ⟨q254, q255, q256, q257, q258, q259⟩ := q251
        have F260 : Fr [(131, 15), (131, 16), (131, 4), (131, 11), (131, 12), (131, 13), (131, 14), (131, 41), (131, 43), (131, 44), (131, 45)] [135, 148] τ t253 := Fr_call F250 q255 (by decide)
        obtain ⟨v261, z262⟩ : ∃ x, t253 131 4 = x := ⟨_, rfl⟩
        rw [z262] at q256
        obtain ⟨v263, z264⟩ : ∃ x, t253 131 11 = x := ⟨_, rfl⟩
        rw [z264] at q257
        have e265 := congrArg Int32.toInt ((M247.2 131 4 (Or.inr (by decide))).trans ((M239.2 131 4 (Or.inr (by decide))).trans ((M227.2 131 4 (Or.inl (by decide))).trans ((q201 131 4 (by decide)).trans ((q22 131 4 (by decide)).trans z4)))))
        have e266 := congrArg Int32.toInt z262
        have e267 := congrArg Int32.toInt ((M247.2 131 4 (Or.inr (by decide))).trans ((M239.2 131 4 (Or.inr (by decide))).trans ((M227.2 131 4 (Or.inl (by decide))).trans ((q201 131 4 (by decide)).trans ((q22 131 4 (by decide)).trans z4)))))
        have e268 := congrArg Int32.toInt z262
        have e269 := congrArg Int32.toInt ((M247.2 131 11 (Or.inr (by decide))).trans ((M239.2 131 11 (Or.inr (by decide))).trans ((M227.2 131 11 (Or.inl (by decide))).trans ((q201 131 11 (by decide)).trans ((q22 131 11 (by decide)).trans z7)))))
        have e270 := congrArg Int32.toInt z264
        refine r_iconst S dX12_behind_90 (by decide) (fun v271 z272 => ?_)
        have r273 := R_eq z272
        exact r_ret S hr hlk X252 ⟨q254, F260, (R_of r273 rfl), (by rw [z262]; exact R_of q256 rfl), (by rw [z264]; exact R_of q257 rfl), (by have h1_0 := congrArg Int32.toInt z262; have h2_0 := congrArg Int32.toInt z4; omega), (by have h1_0 := congrArg Int32.toInt z262; have h2_0 := congrArg Int32.toInt z4; have h1_1 := congrArg Int32.toInt z264; have h2_1 := congrArg Int32.toInt z7; omega), (by have h1_0 := congrArg Int32.toInt z264; have h2_0 := congrArg Int32.toInt z7; omega), (by rw [((q255 131 41 (by decide)).trans ((M247.2 131 41 (Or.inr (by decide))).trans ((M239.2 131 41 (Or.inr (by decide))).trans ((M227.2 131 41 (Or.inl (by decide))).trans z207))))]; exact R_of r211 rfl), (by rw [((q255 131 42 (by decide)).trans ((M247.2 131 42 (Or.inr (by decide))).trans ((M239.2 131 42 (Or.inr (by decide))).trans ((M227.2 131 42 (Or.inl (by decide))).trans ((q201 131 42 (by decide)).trans ((q22 131 42 (by decide)).trans z13))))))]; exact R_of r14 rfl), (by rw [((q255 131 43 (by decide)).trans ((M247.2 131 43 (Or.inr (by decide))).trans M239.1))]; exact R_of r237 rfl), (by rw [((q255 131 45 (by decide)).trans M247.1)]; exact R_of r245 rfl), (fun _ => (by have n1 := congrArg Int32.toInt ((q201 131 42 (by decide)).trans ((q22 131 42 (by decide)).trans z13)); have n2 := congrArg Int32.toInt ((q201 131 45 (by decide)).trans ((q22 131 45 (by decide)).trans z2)); exact SI_push q204 (fun j => ((q255 135 j (by simp [fz])).trans ((M247.2 135 j (Or.inl (by decide))).trans ((M239.2 135 j (Or.inl (by decide))).trans ((M227.2 135 j (Or.inl (by decide))).trans rfl))))) ((q255 131 41 (by decide)).trans ((M247.2 131 41 (Or.inr (by decide))).trans ((M239.2 131 41 (Or.inr (by decide))).trans ((M227.2 131 41 (Or.inl (by decide))).trans rfl)))) ((q255 131 42 (by decide)).trans ((M247.2 131 42 (Or.inr (by decide))).trans ((M239.2 131 42 (Or.inr (by decide))).trans ((M227.2 131 42 (Or.inl (by decide))).trans ((q201 131 42 (by decide)).trans ((q22 131 42 (by decide)).trans z13)))))) ((q255 131 43 (by decide)).trans ((M247.2 131 43 (Or.inr (by decide))).trans M239.1)) ((q255 131 45 (by decide)).trans M247.1) z209 (fun j hj => ((q255 148 j (by simp [fz])).trans ((M247.2 148 j (Or.inl (by decide))).trans ((M239.2 148 j (Or.inl (by decide))).trans ((M227.2 148 j (Or.inr hj)).trans rfl))))) (((q255 148 v208.toNatClampNeg (by simp [fz])).trans ((M247.2 148 v208.toNatClampNeg (Or.inl (by decide))).trans ((M239.2 148 v208.toNatClampNeg (Or.inl (by decide))).trans rfl))).trans M227.1) (by omega) (Or.inr ⟨by omega, by omega, by omega, by omega⟩)))⟩ (nr_bool (R_of (lo := 0) (hi := 1) r273 rfl)) dX12_behind_91
      ·
        have r274 : R (1) (1) v217 := ⟨by omega, by omega⟩
        have p275 := q220 (by omega)
        have r276 : R (1) (1) v6 := ((q201 131 11 (by decide)).trans ((q22 131 11 (by decide)).trans z7)) ▸ p275
        have r277 : R (1) (1) v6 := ⟨by omega, by omega⟩
        refine r_bipush S dX12_behind_63 (by decide) (fun v278 z279 => ?_)
        have r280 := R_eq z279
        refine r_goto (tgt := 70) S dX12_behind_65 (by decide) ?_
        refine r_ast (n := 45) (K := 55) S X215 (Nat.le_of_ble_eq_true rfl) rfl (fun _ _ => rfl) (ix_of r212 rfl) dX12_behind_70 (fun t281 H lc M282 X283 => ?_)
        have I284 := Inv_mu q200 M282 (R_any v278)
        have F285 : Fr [(131, 15), (131, 16), (131, 4), (131, 11), (131, 12), (131, 13), (131, 14), (131, 41), (131, 43), (131, 44), (131, 45)] [135, 148] τ t281 := Fr_cell F205 M282 (by decide)
        refine r_aload_n S dX12_behind_71 rfl (lv_at hl 0 rfl) ?_
        refine r_dup S dX12_behind_72 rfl ?_
        refine r_geti (K := 38) S X283 (Nat.le_of_ble_eq_true rfl) rfl lk12_407_10 (fun _ => ⟨_, rfl, rfl⟩) ((M282.2 131 43 (Or.inl (by decide))).trans z209) dX12_behind_73 ?_
        refine r_iconst S dX12_behind_76 (by decide) (fun v286 z287 => ?_)
        have r288 := R_eq z287
        refine r_iadd S dX12_behind_77 (fun v289 z290 => ?_)
        obtain ⟨e291, r292⟩ := i_add (lo := 1) (hi := 40) z290 r212 r288 rfl
        refine r_put (K := 38) (ty := .int) S X283 (Nat.le_of_ble_eq_true rfl) rfl lk12_407_10 (fun _ => ⟨_, rfl, Nat.le_of_ble_eq_true rfl, rfl⟩) (fun _ _ _ h => by cases h; exact ⟨rfl, rfl⟩) rfl rfl dX12_behind_78 (fun t293 H lc M294 X295 => ?_)
        have I296 := Inv_mu I284 M294 (show Rg (kd 131) 43 v289 from (R_of (lo := 0) (hi := 45) r292 rfl))
        have F297 : Fr [(131, 15), (131, 16), (131, 4), (131, 11), (131, 12), (131, 13), (131, 14), (131, 41), (131, 43), (131, 44), (131, 45)] [135, 148] τ t293 := Fr_mu F285 M294 (by decide)
        refine r_aload_n S dX12_behind_81 rfl (lv_at hl 0 rfl) ?_
        refine r_iconst S dX12_behind_82 (by decide) (fun v298 z299 => ?_)
        have r300 := R_eq z299
        refine r_put (K := 38) (ty := .boolean) S X295 (Nat.le_of_ble_eq_true rfl) rfl lk12_422_10 (fun _ => ⟨_, rfl, Nat.le_of_ble_eq_true rfl, rfl⟩) (fun _ _ _ h => by cases h; exact ⟨rfl, rfl⟩) (nr_bool (R_of (lo := 0) (hi := 1) r300 rfl)) (ft_bool (R_of (lo := 0) (hi := 1) r300 rfl)) dX12_behind_83 (fun t301 H lc M302 X303 => ?_)
        have I304 := Inv_mu I296 M302 (show Rg (kd 131) 45 v298 from (R_of (lo := 0) (hi := 1) r300 rfl))
        have F305 : Fr [(131, 15), (131, 16), (131, 4), (131, 11), (131, 12), (131, 13), (131, 14), (131, 41), (131, 43), (131, 44), (131, 45)] [135, 148] τ t301 := Fr_mu F297 M302 (by decide)
        refine r_aload_n S dX12_behind_86 rfl (lv_at hl 0 rfl) ?_
        refine r_kv (q_V (As := []) (rest := []) (K := 38) (ci := 10) S X303 (c_X12_skip l G t301 I304 ) ck12_186 (Nat.le_of_ble_eq_true rfl) rfl (fun _ => ⟨_, rfl⟩) ⟨_, _, rfl⟩ ⟨Nat.le_of_ble_eq_true rfl, Nat.le_of_ble_eq_true rfl⟩ rfl hl.1 rfl (Nat.le_of_ble_eq_true rfl) dX12_behind_87 ⟨Nat.le_refl 0, Nat.le_refl 0⟩) X303 (fun t308 H lc q306 X307 => ?_)
        unfold po_X12_skip at q306
        obtain ⟨q309, q310, q311, q312, q313, q314⟩ := q306
        have F315 : Fr [(131, 15), (131, 16), (131, 4), (131, 11), (131, 12), (131, 13), (131, 14), (131, 41), (131, 43), (131, 44), (131, 45)] [135, 148] τ t308 := Fr_call F305 q310 (by decide)
        obtain ⟨v316, z317⟩ : ∃ x, t308 131 4 = x := ⟨_, rfl⟩
        rw [z317] at q311
        obtain ⟨v318, z319⟩ : ∃ x, t308 131 11 = x := ⟨_, rfl⟩
        rw [z319] at q312
        have e320 := congrArg Int32.toInt ((M302.2 131 4 (Or.inr (by decide))).trans ((M294.2 131 4 (Or.inr (by decide))).trans ((M282.2 131 4 (Or.inl (by decide))).trans ((q201 131 4 (by decide)).trans ((q22 131 4 (by decide)).trans z4)))))
        have e321 := congrArg Int32.toInt z317
        have e322 := congrArg Int32.toInt ((M302.2 131 4 (Or.inr (by decide))).trans ((M294.2 131 4 (Or.inr (by decide))).trans ((M282.2 131 4 (Or.inl (by decide))).trans ((q201 131 4 (by decide)).trans ((q22 131 4 (by decide)).trans z4)))))
        have e323 := congrArg Int32.toInt z317
        have e324 := congrArg Int32.toInt ((M302.2 131 11 (Or.inr (by decide))).trans ((M294.2 131 11 (Or.inr (by decide))).trans ((M282.2 131 11 (Or.inl (by decide))).trans ((q201 131 11 (by decide)).trans ((q22 131 11 (by decide)).trans z7)))))
        have e325 := congrArg Int32.toInt z319
        refine r_iconst S dX12_behind_90 (by decide) (fun v326 z327 => ?_)
        have r328 := R_eq z327
        exact r_ret S hr hlk X307 ⟨q309, F315, (R_of r328 rfl), (by rw [z317]; exact R_of q311 rfl), (by rw [z319]; exact R_of q312 rfl), (by have h1_0 := congrArg Int32.toInt z317; have h2_0 := congrArg Int32.toInt z4; omega), (by have h1_0 := congrArg Int32.toInt z317; have h2_0 := congrArg Int32.toInt z4; have h1_1 := congrArg Int32.toInt z319; have h2_1 := congrArg Int32.toInt z7; omega), (by have h1_0 := congrArg Int32.toInt z319; have h2_0 := congrArg Int32.toInt z7; omega), (by rw [((q310 131 41 (by decide)).trans ((M302.2 131 41 (Or.inr (by decide))).trans ((M294.2 131 41 (Or.inr (by decide))).trans ((M282.2 131 41 (Or.inl (by decide))).trans z207))))]; exact R_of r211 rfl), (by rw [((q310 131 42 (by decide)).trans ((M302.2 131 42 (Or.inr (by decide))).trans ((M294.2 131 42 (Or.inr (by decide))).trans ((M282.2 131 42 (Or.inl (by decide))).trans ((q201 131 42 (by decide)).trans ((q22 131 42 (by decide)).trans z13))))))]; exact R_of r14 rfl), (by rw [((q310 131 43 (by decide)).trans ((M302.2 131 43 (Or.inr (by decide))).trans M294.1))]; exact R_of r292 rfl), (by rw [((q310 131 45 (by decide)).trans M302.1)]; exact R_of r300 rfl), (fun _ => (by have n1 := congrArg Int32.toInt ((q201 131 42 (by decide)).trans ((q22 131 42 (by decide)).trans z13)); have n2 := congrArg Int32.toInt ((q201 131 45 (by decide)).trans ((q22 131 45 (by decide)).trans z2)); exact SI_push q204 (fun j => ((q310 135 j (by simp [fz])).trans ((M302.2 135 j (Or.inl (by decide))).trans ((M294.2 135 j (Or.inl (by decide))).trans ((M282.2 135 j (Or.inl (by decide))).trans rfl))))) ((q310 131 41 (by decide)).trans ((M302.2 131 41 (Or.inr (by decide))).trans ((M294.2 131 41 (Or.inr (by decide))).trans ((M282.2 131 41 (Or.inl (by decide))).trans rfl)))) ((q310 131 42 (by decide)).trans ((M302.2 131 42 (Or.inr (by decide))).trans ((M294.2 131 42 (Or.inr (by decide))).trans ((M282.2 131 42 (Or.inl (by decide))).trans ((q201 131 42 (by decide)).trans ((q22 131 42 (by decide)).trans z13)))))) ((q310 131 43 (by decide)).trans ((M302.2 131 43 (Or.inr (by decide))).trans M294.1)) ((q310 131 45 (by decide)).trans M302.1) z209 (fun j hj => ((q310 148 j (by simp [fz])).trans ((M302.2 148 j (Or.inl (by decide))).trans ((M294.2 148 j (Or.inl (by decide))).trans ((M282.2 148 j (Or.inr hj)).trans rfl))))) (((q310 148 v208.toNatClampNeg (by simp [fz])).trans ((M302.2 148 v208.toNatClampNeg (Or.inl (by decide))).trans ((M294.2 148 v208.toNatClampNeg (Or.inl (by decide))).trans rfl))).trans M282.1) (by omega) (Or.inr ⟨by omega, by omega, by omega, by omega⟩)))⟩ (nr_bool (R_of (lo := 0) (hi := 1) r328 rfl)) dX12_behind_91
  ·
    have r329 : R (0) (0) v35 := ⟨by omega, by omega⟩
    refine r_aload_n S dX12_behind_14 rfl (lv_at hl 0 rfl) ?_
    refine lv_ldc2 S.1.1 S.1.2.1 S.1.2.2.2.1 (S.1.2.2.2.2 _ kw51) dX12_behind_15 ?_
    refine lv_topl (fun j330 _ => ?_)
    refine r_ki (q_V (As := [.long j330]) (rest := []) (K := 38) (ci := 10) S X33 (c_X12_isWord l G t20 q21 j330) ck12_208 (Nat.le_of_ble_eq_true rfl) rfl (fun _ => ⟨_, rfl⟩) ⟨_, _, rfl⟩ ⟨Nat.le_of_ble_eq_true rfl, Nat.le_of_ble_eq_true rfl⟩ rfl hl.1 rfl (Nat.le_of_ble_eq_true rfl) dX12_behind_18 ⟨Nat.le_refl 0, Nat.le_refl 0⟩) X33 (fun v334 t333 H lc q331 X332 => ?_)
    unfold po_X12_isWord at q331
    obtain ⟨q335, q336, q337⟩ := q331
    rw [q335] at X332
    rw [q335] at q337
    refine r_if_eq (tgt := 92) S dX12_behind_21 (by decide) (fun c338 => ?_) (fun c338 => ?_)
    ·
      have r339 : R (0) (0) v334 := ⟨by omega, by omega⟩
      refine r_aload_n S dX12_behind_92 rfl (lv_at hl 0 rfl) ?_
      refine r_bipush S dX12_behind_93 (by decide) (fun v340 z341 => ?_)
      have r342 := R_eq z341
      refine r_kv (q_V (As := [.int v340]) (rest := []) (K := 38) (ci := 10) S X332 (c_X12_joins_22 l G t20 q21 v340 r342 (by rw [((q22 131 45 (by decide)).trans z2)]; exact R_of hf_0 rfl) q25) ck12_428 (Nat.le_of_ble_eq_true rfl) rfl (fun _ => ⟨_, rfl⟩) ⟨_, _, rfl⟩ ⟨Nat.le_of_ble_eq_true rfl, Nat.le_of_ble_eq_true rfl⟩ rfl hl.1 rfl (Nat.le_of_ble_eq_true rfl) dX12_behind_95 ⟨Nat.le_refl 0, Nat.le_refl 0⟩) X332 (fun t345 H lc q343 X344 => ?_)
      unfold po_X12_joins_22 at q343
      obtain ⟨q346, q347, q348, q349, q350, q351⟩ := q343
      have F352 : Fr [(131, 15), (131, 16), (131, 4), (131, 11), (131, 12), (131, 13), (131, 14), (131, 41), (131, 43), (131, 44), (131, 45)] [135, 148] τ t345 := Fr_call F26 q347 (by decide)
      obtain ⟨v353, z354⟩ : ∃ x, t345 131 41 = x := ⟨_, rfl⟩
      rw [z354] at q348
      obtain ⟨v355, z356⟩ : ∃ x, t345 131 43 = x := ⟨_, rfl⟩
      rw [z356] at q349
      have h357 := SI_b q350 z354 ((q347 131 42 (by decide)).trans ((q22 131 42 (by decide)).trans z13)) z356 ((q347 131 45 (by decide)).trans ((q22 131 45 (by decide)).trans z2))
      have r358 : R (0) (39) v353 := ⟨by omega, by omega⟩
      have r359 : R (0) (39) v355 := ⟨by omega, by omega⟩
      refine r_aload_n S dX12_behind_98 rfl (lv_at hl 0 rfl) ?_
      refine r_bipush S dX12_behind_99 (by decide) (fun v360 z361 => ?_)
      have r362 := R_eq z361
      refine r_ki (q_V (As := [.int v360]) (rest := []) (K := 38) (ci := 10) S X344 (c_X12_isSign l G t345 q346 v360 (R_of (lo := -2147483648) (hi := 2147483647) r362 rfl)) ck12_180 (Nat.le_of_ble_eq_true rfl) rfl (fun _ => ⟨_, rfl⟩) ⟨_, _, rfl⟩ ⟨Nat.le_of_ble_eq_true rfl, Nat.le_of_ble_eq_true rfl⟩ rfl hl.1 rfl (Nat.le_of_ble_eq_true rfl) dX12_behind_101 ⟨Nat.le_refl 0, Nat.le_refl 0⟩) X344 (fun v366 t365 H lc q363 X364 => ?_)
      unfold po_X12_isSign at q363
      obtain ⟨q367, q368, q369⟩ := q363
      rw [q367] at X364
      rw [q367] at q369
      refine r_if_eq (tgt := 114) S dX12_behind_104 (by decide) (fun c370 => ?_) (fun c370 => ?_)
      ·
        have r371 : R (0) (0) v366 := ⟨by omega, by omega⟩
        refine r_aload_n S dX12_behind_114 rfl (lv_at hl 0 rfl) ?_
        refine r_iconst S dX12_behind_115 (by decide) (fun v372 z373 => ?_)
        have r374 := R_eq z373
        refine r_ki (q_V (As := [.int v372]) (rest := []) (K := 38) (ci := 10) S X364 (c_X12_bad l G t345 q346 v372 (R_of (lo := -2147483648) (hi := 2147483647) r374 rfl)) ck12_183 (Nat.le_of_ble_eq_true rfl) rfl (fun _ => ⟨_, rfl⟩) ⟨_, _, rfl⟩ ⟨Nat.le_of_ble_eq_true rfl, Nat.le_of_ble_eq_true rfl⟩ rfl hl.1 rfl (Nat.le_of_ble_eq_true rfl) dX12_behind_116 ⟨Nat.le_refl 0, Nat.le_refl 0⟩) X364 (fun v378 t377 H lc q375 X376 => ?_)
        unfold po_X12_bad at q375
        obtain ⟨q379, q380, q381⟩ := q375
        have F382 : Fr [(131, 15), (131, 16), (131, 4), (131, 11), (131, 12), (131, 13), (131, 14), (131, 41), (131, 43), (131, 44), (131, 45)] [135, 148] τ t377 := Fr_call F352 q380 (by decide)
        exact r_ret S hr hlk X376 ⟨q379, F382, (R_of q381 rfl), (by rw [((q380 131 4 (by decide)).trans ((q347 131 4 (by decide)).trans ((q22 131 4 (by decide)).trans z4)))]; exact R_of r5 rfl), (by rw [((q380 131 11 (by decide)).trans ((q347 131 11 (by decide)).trans ((q22 131 11 (by decide)).trans z7)))]; exact R_of r8 rfl), (by have h1_0 := congrArg Int32.toInt ((q380 131 4 (by decide)).trans ((q347 131 4 (by decide)).trans ((q22 131 4 (by decide)).trans z4))); have h2_0 := congrArg Int32.toInt z4; omega), (by have h1_0 := congrArg Int32.toInt ((q380 131 4 (by decide)).trans ((q347 131 4 (by decide)).trans ((q22 131 4 (by decide)).trans z4))); have h2_0 := congrArg Int32.toInt z4; have h1_1 := congrArg Int32.toInt ((q380 131 11 (by decide)).trans ((q347 131 11 (by decide)).trans ((q22 131 11 (by decide)).trans z7))); have h2_1 := congrArg Int32.toInt z7; omega), (by have h1_0 := congrArg Int32.toInt ((q380 131 11 (by decide)).trans ((q347 131 11 (by decide)).trans ((q22 131 11 (by decide)).trans z7))); have h2_0 := congrArg Int32.toInt z7; omega), (by rw [((q380 131 41 (by decide)).trans z354)]; exact R_of r358 rfl), (by rw [((q380 131 42 (by decide)).trans ((q347 131 42 (by decide)).trans ((q22 131 42 (by decide)).trans z13)))]; exact R_of r14 rfl), (by rw [((q380 131 43 (by decide)).trans z356)]; exact R_of r359 rfl), (by rw [((q380 131 45 (by decide)).trans ((q347 131 45 (by decide)).trans ((q22 131 45 (by decide)).trans z2)))]; exact R_of hf_0 rfl), (fun h => by exfalso; omega)⟩ (nr_bool (R_of (lo := 0) (hi := 1) q381 rfl)) dX12_behind_119
      ·
        have r383 : R (1) (1) v366 := ⟨by omega, by omega⟩
        have p384 := q369 (by omega)
        have r385 : R (3) (3) v6 := ((q347 131 11 (by decide)).trans ((q22 131 11 (by decide)).trans z7)) ▸ p384
        have r386 : R (3) (3) v6 := ⟨by omega, by omega⟩
        refine r_aload_n S dX12_behind_107 rfl (lv_at hl 0 rfl) ?_
        refine r_geti (K := 38) S X364 (Nat.le_of_ble_eq_true rfl) rfl lk12_407_10 (fun _ => ⟨_, rfl, rfl⟩) z356 dX12_behind_108 ?_
        refine r_if_ne (tgt := 120) S dX12_behind_111 (by decide) (fun c387 => ?_) (fun c387 => ?_)
        ·
          have r388 : R (1) (39) v355 := ⟨by omega, by omega⟩
          refine r_aload_n S dX12_behind_120 rfl (lv_at hl 0 rfl) ?_
          refine r_dup S dX12_behind_121 rfl ?_
          refine r_geti (K := 38) S X364 (Nat.le_of_ble_eq_true rfl) rfl lk12_407_10 (fun _ => ⟨_, rfl, rfl⟩) z356 dX12_behind_122 ?_
          refine r_iconst S dX12_behind_125 (by decide) (fun v389 z390 => ?_)
          have r391 := R_eq z390
          refine r_isub S dX12_behind_126 (fun v392 z393 => ?_)
          obtain ⟨e394, r395⟩ := i_sub (lo := 0) (hi := 38) z393 r388 r391 rfl
          refine r_put (K := 38) (ty := .int) S X364 (Nat.le_of_ble_eq_true rfl) rfl lk12_407_10 (fun _ => ⟨_, rfl, Nat.le_of_ble_eq_true rfl, rfl⟩) (fun _ _ _ h => by cases h; exact ⟨rfl, rfl⟩) rfl rfl dX12_behind_127 (fun t396 H lc M397 X398 => ?_)
          have I399 := Inv_mu q346 M397 (show Rg (kd 131) 43 v392 from (R_of (lo := 0) (hi := 45) r395 rfl))
          have F400 : Fr [(131, 15), (131, 16), (131, 4), (131, 11), (131, 12), (131, 13), (131, 14), (131, 41), (131, 43), (131, 44), (131, 45)] [135, 148] τ t396 := Fr_mu F352 M397 (by decide)
          refine r_aload_n S dX12_behind_130 rfl (lv_at hl 0 rfl) ?_
          refine r_dup S dX12_behind_131 rfl ?_
          refine r_getn (K := 38) S X398 (Nat.le_of_ble_eq_true rfl) rfl lk12_413_10 (fun _ => ⟨_, rfl, rfl⟩) dX12_behind_132 (fun v401 z402 => ?_)
          have r404 := R_any v401
          refine r_iconst S dX12_behind_135 (by decide) (fun v405 z406 => ?_)
          have r407 := R_eq z406
          refine r_isub S dX12_behind_136 (fun v408 z409 => ?_)
          have r410 := R_any v408
          refine r_put (K := 38) (ty := .int) S X398 (Nat.le_of_ble_eq_true rfl) rfl lk12_413_10 (fun _ => ⟨_, rfl, Nat.le_of_ble_eq_true rfl, rfl⟩) (fun _ _ _ h => by cases h; exact ⟨rfl, rfl⟩) rfl rfl dX12_behind_137 (fun t411 H lc M412 X413 => ?_)
          have I414 := Inv_mu I399 M412 (R_any v408)
          have F415 : Fr [(131, 15), (131, 16), (131, 4), (131, 11), (131, 12), (131, 13), (131, 14), (131, 41), (131, 43), (131, 44), (131, 45)] [135, 148] τ t411 := Fr_mu F400 M412 (by decide)
          refine r_aload_n S dX12_behind_140 rfl (lv_at hl 0 rfl) ?_
          refine r_kv (q_V (As := []) (rest := []) (K := 38) (ci := 10) S X413 (c_X12_skip l G t411 I414 ) ck12_186 (Nat.le_of_ble_eq_true rfl) rfl (fun _ => ⟨_, rfl⟩) ⟨_, _, rfl⟩ ⟨Nat.le_of_ble_eq_true rfl, Nat.le_of_ble_eq_true rfl⟩ rfl hl.1 rfl (Nat.le_of_ble_eq_true rfl) dX12_behind_141 ⟨Nat.le_refl 0, Nat.le_refl 0⟩) X413 (fun t418 H lc q416 X417 => ?_)
          unfold po_X12_skip at q416
          obtain ⟨q419, q420, q421, q422, q423, q424⟩ := q416
          have F425 : Fr [(131, 15), (131, 16), (131, 4), (131, 11), (131, 12), (131, 13), (131, 14), (131, 41), (131, 43), (131, 44), (131, 45)] [135, 148] τ t418 := Fr_call F415 q420 (by decide)
          obtain ⟨v426, z427⟩ : ∃ x, t418 131 4 = x := ⟨_, rfl⟩
          rw [z427] at q421
          obtain ⟨v428, z429⟩ : ∃ x, t418 131 11 = x := ⟨_, rfl⟩
          rw [z429] at q422
          have e430 := congrArg Int32.toInt ((M412.2 131 4 (Or.inr (by decide))).trans ((M397.2 131 4 (Or.inr (by decide))).trans ((q347 131 4 (by decide)).trans ((q22 131 4 (by decide)).trans z4))))
          have e431 := congrArg Int32.toInt z427
          have e432 := congrArg Int32.toInt ((M412.2 131 4 (Or.inr (by decide))).trans ((M397.2 131 4 (Or.inr (by decide))).trans ((q347 131 4 (by decide)).trans ((q22 131 4 (by decide)).trans z4))))
          have e433 := congrArg Int32.toInt z427
          have e434 := congrArg Int32.toInt ((M412.2 131 11 (Or.inr (by decide))).trans ((M397.2 131 11 (Or.inr (by decide))).trans ((q347 131 11 (by decide)).trans ((q22 131 11 (by decide)).trans z7))))
          have e435 := congrArg Int32.toInt z429
          refine r_iconst S dX12_behind_144 (by decide) (fun v436 z437 => ?_)
          have r438 := R_eq z437
          exact r_ret S hr hlk X417 ⟨q419, F425, (R_of r438 rfl), (by rw [z427]; exact R_of q421 rfl), (by rw [z429]; exact R_of q422 rfl), (by have h1_0 := congrArg Int32.toInt z427; have h2_0 := congrArg Int32.toInt z4; omega), (by have h1_0 := congrArg Int32.toInt z427; have h2_0 := congrArg Int32.toInt z4; have h1_1 := congrArg Int32.toInt z429; have h2_1 := congrArg Int32.toInt z7; omega), (by have h1_0 := congrArg Int32.toInt z429; have h2_0 := congrArg Int32.toInt z7; omega), (by rw [((q420 131 41 (by decide)).trans ((M412.2 131 41 (Or.inr (by decide))).trans ((M397.2 131 41 (Or.inr (by decide))).trans z354)))]; exact R_of r358 rfl), (by rw [((q420 131 42 (by decide)).trans ((M412.2 131 42 (Or.inr (by decide))).trans ((M397.2 131 42 (Or.inr (by decide))).trans ((q347 131 42 (by decide)).trans ((q22 131 42 (by decide)).trans z13)))))]; exact R_of r14 rfl), (by rw [((q420 131 43 (by decide)).trans ((M412.2 131 43 (Or.inr (by decide))).trans M397.1))]; exact R_of r395 rfl), (by rw [((q420 131 45 (by decide)).trans ((M412.2 131 45 (Or.inr (by decide))).trans ((M397.2 131 45 (Or.inr (by decide))).trans ((q347 131 45 (by decide)).trans ((q22 131 45 (by decide)).trans z2)))))]; exact R_of hf_0 rfl), (fun _ => SI_close q350 (fun j => ((q420 135 j (by simp [fz])).trans ((M412.2 135 j (Or.inl (by decide))).trans ((M397.2 135 j (Or.inl (by decide))).trans rfl)))) (fun j => ((q420 148 j (by simp [fz])).trans ((M412.2 148 j (Or.inl (by decide))).trans ((M397.2 148 j (Or.inl (by decide))).trans rfl)))) ((q420 131 41 (by decide)).trans ((M412.2 131 41 (Or.inr (by decide))).trans ((M397.2 131 41 (Or.inr (by decide))).trans rfl))) ((q420 131 42 (by decide)).trans ((M412.2 131 42 (Or.inr (by decide))).trans ((M397.2 131 42 (Or.inr (by decide))).trans rfl))) ((q420 131 43 (by decide)).trans ((M412.2 131 43 (Or.inr (by decide))).trans M397.1)) ((q420 131 45 (by decide)).trans ((M412.2 131 45 (Or.inr (by decide))).trans ((M397.2 131 45 (Or.inr (by decide))).trans rfl))) z356 (by omega) (by omega) (by have q := q351; rw [z356] at q; exact q (by omega)))⟩ (nr_bool (R_of (lo := 0) (hi := 1) r438 rfl)) dX12_behind_145
        ·
          have r439 : R (0) (0) v355 := ⟨by omega, by omega⟩
          refine r_aload_n S dX12_behind_114 rfl (lv_at hl 0 rfl) ?_
          refine r_iconst S dX12_behind_115 (by decide) (fun v440 z441 => ?_)
          have r442 := R_eq z441
          refine r_ki (q_V (As := [.int v440]) (rest := []) (K := 38) (ci := 10) S X364 (c_X12_bad l G t345 q346 v440 (R_of (lo := -2147483648) (hi := 2147483647) r442 rfl)) ck12_183 (Nat.le_of_ble_eq_true rfl) rfl (fun _ => ⟨_, rfl⟩) ⟨_, _, rfl⟩ ⟨Nat.le_of_ble_eq_true rfl, Nat.le_of_ble_eq_true rfl⟩ rfl hl.1 rfl (Nat.le_of_ble_eq_true rfl) dX12_behind_116 ⟨Nat.le_refl 0, Nat.le_refl 0⟩) X364 (fun v446 t445 H lc q443 X444 => ?_)
          unfold po_X12_bad at q443
          obtain ⟨q447, q448, q449⟩ := q443
          have F450 : Fr [(131, 15), (131, 16), (131, 4), (131, 11), (131, 12), (131, 13), (131, 14), (131, 41), (131, 43), (131, 44), (131, 45)] [135, 148] τ t445 := Fr_call F352 q448 (by decide)
          exact r_ret S hr hlk X444 ⟨q447, F450, (R_of q449 rfl), (by rw [((q448 131 4 (by decide)).trans ((q347 131 4 (by decide)).trans ((q22 131 4 (by decide)).trans z4)))]; exact R_of r5 rfl), (by rw [((q448 131 11 (by decide)).trans ((q347 131 11 (by decide)).trans ((q22 131 11 (by decide)).trans z7)))]; exact R_of r386 rfl), (by have h1_0 := congrArg Int32.toInt ((q448 131 4 (by decide)).trans ((q347 131 4 (by decide)).trans ((q22 131 4 (by decide)).trans z4))); have h2_0 := congrArg Int32.toInt z4; omega), (by have h1_0 := congrArg Int32.toInt ((q448 131 4 (by decide)).trans ((q347 131 4 (by decide)).trans ((q22 131 4 (by decide)).trans z4))); have h2_0 := congrArg Int32.toInt z4; have h1_1 := congrArg Int32.toInt ((q448 131 11 (by decide)).trans ((q347 131 11 (by decide)).trans ((q22 131 11 (by decide)).trans z7))); have h2_1 := congrArg Int32.toInt z7; omega), (by have h1_0 := congrArg Int32.toInt ((q448 131 11 (by decide)).trans ((q347 131 11 (by decide)).trans ((q22 131 11 (by decide)).trans z7))); have h2_0 := congrArg Int32.toInt z7; omega), (by rw [((q448 131 41 (by decide)).trans z354)]; exact R_of r358 rfl), (by rw [((q448 131 42 (by decide)).trans ((q347 131 42 (by decide)).trans ((q22 131 42 (by decide)).trans z13)))]; exact R_of r14 rfl), (by rw [((q448 131 43 (by decide)).trans z356)]; exact R_of r439 rfl), (by rw [((q448 131 45 (by decide)).trans ((q347 131 45 (by decide)).trans ((q22 131 45 (by decide)).trans z2)))]; exact R_of hf_0 rfl), (fun h => by exfalso; omega)⟩ (nr_bool (R_of (lo := 0) (hi := 1) q449 rfl)) dX12_behind_119
    ·
      have r451 : R (1) (1) v334 := ⟨by omega, by omega⟩
      have p452 := q337 (by omega)
      have r453 : R (1) (1) v6 := ((q22 131 11 (by decide)).trans z7) ▸ p452
      have r454 : R (1) (1) v6 := ⟨by omega, by omega⟩
      refine r_aload_n S dX12_behind_24 rfl (lv_at hl 0 rfl) ?_
      refine r_aload_n S dX12_behind_25 rfl (lv_at hl 0 rfl) ?_
      refine lv_ldc2 S.1.1 S.1.2.1 S.1.2.2.2.1 (S.1.2.2.2.2 _ kw50) dX12_behind_26 ?_
      refine lv_topl (fun j455 _ => ?_)
      refine r_ki (q_V (As := [.long j455]) (rest := [.ref (G.2.2.2.1 131)]) (K := 38) (ci := 10) S X332 (c_X12_isWord l G t20 q21 j455) ck12_208 (Nat.le_of_ble_eq_true rfl) rfl (fun _ => ⟨_, rfl⟩) ⟨_, _, rfl⟩ ⟨Nat.le_of_ble_eq_true rfl, Nat.le_of_ble_eq_true rfl⟩ rfl hl.1 rfl (Nat.le_of_ble_eq_true rfl) dX12_behind_29 ⟨Nat.le_refl 0, Nat.le_refl 0⟩) X332 (fun v459 t458 H lc q456 X457 => ?_)
      unfold po_X12_isWord at q456
      obtain ⟨q460, q461, q462⟩ := q456
      rw [q460] at X457
      rw [q460] at q462
      refine r_if_eq (tgt := 40) S dX12_behind_32 (by decide) (fun c463 => ?_) (fun c463 => ?_)
      ·
        have r464 : R (0) (0) v459 := ⟨by omega, by omega⟩
        refine r_bipush S dX12_behind_40 (by decide) (fun v465 z466 => ?_)
        have r467 := R_eq z466
        refine r_kv (q_V (As := [.int v465]) (rest := []) (K := 38) (ci := 10) S X457 (c_X12_joins_22 l G t20 q21 v465 r467 (by rw [((q22 131 45 (by decide)).trans z2)]; exact R_of hf_0 rfl) q25) ck12_428 (Nat.le_of_ble_eq_true rfl) rfl (fun _ => ⟨_, rfl⟩) ⟨_, _, rfl⟩ ⟨Nat.le_of_ble_eq_true rfl, Nat.le_of_ble_eq_true rfl⟩ rfl hl.1 rfl (Nat.le_of_ble_eq_true rfl) dX12_behind_42 ⟨Nat.le_refl 0, Nat.le_refl 0⟩) X457 (fun t470 H lc q468 X469 => ?_)
        unfold po_X12_joins_22 at q468
        obtain ⟨q471, q472, q473, q474, q475, q476⟩ := q468
        have F477 : Fr [(131, 15), (131, 16), (131, 4), (131, 11), (131, 12), (131, 13), (131, 14), (131, 41), (131, 43), (131, 44), (131, 45)] [135, 148] τ t470 := Fr_call F26 q472 (by decide)
        obtain ⟨v478, z479⟩ : ∃ x, t470 131 41 = x := ⟨_, rfl⟩
        rw [z479] at q473
        obtain ⟨v480, z481⟩ : ∃ x, t470 131 43 = x := ⟨_, rfl⟩
        rw [z481] at q474
        have h482 := SI_b q475 z479 ((q472 131 42 (by decide)).trans ((q22 131 42 (by decide)).trans z13)) z481 ((q472 131 45 (by decide)).trans ((q22 131 45 (by decide)).trans z2))
        have r483 : R (0) (39) v478 := ⟨by omega, by omega⟩
        have r484 : R (0) (39) v480 := ⟨by omega, by omega⟩
        refine r_aload_n S dX12_behind_45 rfl (lv_at hl 0 rfl) ?_
        refine r_get (K := 38) (v := .ref (G.2.2.2.1 148)) S X469 (Nat.le_of_ble_eq_true rfl) rfl lk12_84_10 (fun _ => ⟨_, rfl, rfl⟩) dX12_behind_46 ?_
        refine r_aload_n S dX12_behind_49 rfl (lv_at hl 0 rfl) ?_
        refine r_geti (K := 38) S X469 (Nat.le_of_ble_eq_true rfl) rfl lk12_407_10 (fun _ => ⟨_, rfl, rfl⟩) z481 dX12_behind_50 ?_
        refine r_aload_n S dX12_behind_53 rfl (lv_at hl 0 rfl) ?_
        refine lv_ldc2 S.1.1 S.1.2.1 S.1.2.2.2.1 (S.1.2.2.2.2 _ kw50) dX12_behind_54 ?_
        refine lv_topl (fun j485 _ => ?_)
        refine r_ki (q_V (As := [.long j485]) (rest := [.int v480, .ref (G.2.2.2.1 148)]) (K := 38) (ci := 10) S X469 (c_X12_isWord l G t470 q471 j485) ck12_208 (Nat.le_of_ble_eq_true rfl) rfl (fun _ => ⟨_, rfl⟩) ⟨_, _, rfl⟩ ⟨Nat.le_of_ble_eq_true rfl, Nat.le_of_ble_eq_true rfl⟩ rfl hl.1 rfl (Nat.le_of_ble_eq_true rfl) dX12_behind_57 ⟨Nat.le_refl 0, Nat.le_refl 0⟩) X469 (fun v489 t488 H lc q486 X487 => ?_)
        unfold po_X12_isWord at q486
        obtain ⟨q490, q491, q492⟩ := q486
        rw [q490] at X487
        rw [q490] at q492
        refine r_if_eq (tgt := 68) S dX12_behind_60 (by decide) (fun c493 => ?_) (fun c493 => ?_)
        ·
          have r494 : R (0) (0) v489 := ⟨by omega, by omega⟩
          refine r_bipush S dX12_behind_68 (by decide) (fun v495 z496 => ?_)
          have r497 := R_eq z496
          refine r_ast (n := 45) (K := 55) S X487 (Nat.le_of_ble_eq_true rfl) rfl (fun _ _ => rfl) (ix_of r484 rfl) dX12_behind_70 (fun t498 H lc M499 X500 => ?_)
          have I501 := Inv_mu q471 M499 (R_any v495)
          have F502 : Fr [(131, 15), (131, 16), (131, 4), (131, 11), (131, 12), (131, 13), (131, 14), (131, 41), (131, 43), (131, 44), (131, 45)] [135, 148] τ t498 := Fr_cell F477 M499 (by decide)
          refine r_aload_n S dX12_behind_71 rfl (lv_at hl 0 rfl) ?_
          refine r_dup S dX12_behind_72 rfl ?_
          refine r_geti (K := 38) S X500 (Nat.le_of_ble_eq_true rfl) rfl lk12_407_10 (fun _ => ⟨_, rfl, rfl⟩) ((M499.2 131 43 (Or.inl (by decide))).trans z481) dX12_behind_73 ?_
          refine r_iconst S dX12_behind_76 (by decide) (fun v503 z504 => ?_)
          have r505 := R_eq z504
          refine r_iadd S dX12_behind_77 (fun v506 z507 => ?_)
          obtain ⟨e508, r509⟩ := i_add (lo := 1) (hi := 40) z507 r484 r505 rfl
          refine r_put (K := 38) (ty := .int) S X500 (Nat.le_of_ble_eq_true rfl) rfl lk12_407_10 (fun _ => ⟨_, rfl, Nat.le_of_ble_eq_true rfl, rfl⟩) (fun _ _ _ h => by cases h; exact ⟨rfl, rfl⟩) rfl rfl dX12_behind_78 (fun t510 H lc M511 X512 => ?_)
          have I513 := Inv_mu I501 M511 (show Rg (kd 131) 43 v506 from (R_of (lo := 0) (hi := 45) r509 rfl))
          have F514 : Fr [(131, 15), (131, 16), (131, 4), (131, 11), (131, 12), (131, 13), (131, 14), (131, 41), (131, 43), (131, 44), (131, 45)] [135, 148] τ t510 := Fr_mu F502 M511 (by decide)
          refine r_aload_n S dX12_behind_81 rfl (lv_at hl 0 rfl) ?_
          refine r_iconst S dX12_behind_82 (by decide) (fun v515 z516 => ?_)
          have r517 := R_eq z516
          refine r_put (K := 38) (ty := .boolean) S X512 (Nat.le_of_ble_eq_true rfl) rfl lk12_422_10 (fun _ => ⟨_, rfl, Nat.le_of_ble_eq_true rfl, rfl⟩) (fun _ _ _ h => by cases h; exact ⟨rfl, rfl⟩) (nr_bool (R_of (lo := 0) (hi := 1) r517 rfl)) (ft_bool (R_of (lo := 0) (hi := 1) r517 rfl)) dX12_behind_83 (fun t518 H lc M519 X520 => ?_)
          have I521 := Inv_mu I513 M519 (show Rg (kd 131) 45 v515 from (R_of (lo := 0) (hi := 1) r517 rfl))
          have F522 : Fr [(131, 15), (131, 16), (131, 4), (131, 11), (131, 12), (131, 13), (131, 14), (131, 41), (131, 43), (131, 44), (131, 45)] [135, 148] τ t518 := Fr_mu F514 M519 (by decide)
          refine r_aload_n S dX12_behind_86 rfl (lv_at hl 0 rfl) ?_
          refine r_kv (q_V (As := []) (rest := []) (K := 38) (ci := 10) S X520 (c_X12_skip l G t518 I521 ) ck12_186 (Nat.le_of_ble_eq_true rfl) rfl (fun _ => ⟨_, rfl⟩) ⟨_, _, rfl⟩ ⟨Nat.le_of_ble_eq_true rfl, Nat.le_of_ble_eq_true rfl⟩ rfl hl.1 rfl (Nat.le_of_ble_eq_true rfl) dX12_behind_87 ⟨Nat.le_refl 0, Nat.le_refl 0⟩) X520 (fun t525 H lc q523 X524 => ?_)
          unfold po_X12_skip at q523
          obtain ⟨q526, q527, q528, q529, q530, q531⟩ := q523
          have F532 : Fr [(131, 15), (131, 16), (131, 4), (131, 11), (131, 12), (131, 13), (131, 14), (131, 41), (131, 43), (131, 44), (131, 45)] [135, 148] τ t525 := Fr_call F522 q527 (by decide)
          obtain ⟨v533, z534⟩ : ∃ x, t525 131 4 = x := ⟨_, rfl⟩
          rw [z534] at q528
          obtain ⟨v535, z536⟩ : ∃ x, t525 131 11 = x := ⟨_, rfl⟩
          rw [z536] at q529
          have e537 := congrArg Int32.toInt ((M519.2 131 4 (Or.inr (by decide))).trans ((M511.2 131 4 (Or.inr (by decide))).trans ((M499.2 131 4 (Or.inl (by decide))).trans ((q472 131 4 (by decide)).trans ((q22 131 4 (by decide)).trans z4)))))
          have e538 := congrArg Int32.toInt z534
          have e539 := congrArg Int32.toInt ((M519.2 131 4 (Or.inr (by decide))).trans ((M511.2 131 4 (Or.inr (by decide))).trans ((M499.2 131 4 (Or.inl (by decide))).trans ((q472 131 4 (by decide)).trans ((q22 131 4 (by decide)).trans z4)))))
          have e540 := congrArg Int32.toInt z534
          have e541 := congrArg Int32.toInt ((M519.2 131 11 (Or.inr (by decide))).trans ((M511.2 131 11 (Or.inr (by decide))).trans ((M499.2 131 11 (Or.inl (by decide))).trans ((q472 131 11 (by decide)).trans ((q22 131 11 (by decide)).trans z7)))))
          have e542 := congrArg Int32.toInt z536
          refine r_iconst S dX12_behind_90 (by decide) (fun v543 z544 => ?_)
          have r545 := R_eq z544
          exact r_ret S hr hlk X524 ⟨q526, F532, (R_of r545 rfl), (by rw [z534]; exact R_of q528 rfl), (by rw [z536]; exact R_of q529 rfl), (by have h1_0 := congrArg Int32.toInt z534; have h2_0 := congrArg Int32.toInt z4; omega), (by have h1_0 := congrArg Int32.toInt z534; have h2_0 := congrArg Int32.toInt z4; have h1_1 := congrArg Int32.toInt z536; have h2_1 := congrArg Int32.toInt z7; omega), (by have h1_0 := congrArg Int32.toInt z536; have h2_0 := congrArg Int32.toInt z7; omega), (by rw [((q527 131 41 (by decide)).trans ((M519.2 131 41 (Or.inr (by decide))).trans ((M511.2 131 41 (Or.inr (by decide))).trans ((M499.2 131 41 (Or.inl (by decide))).trans z479))))]; exact R_of r483 rfl), (by rw [((q527 131 42 (by decide)).trans ((M519.2 131 42 (Or.inr (by decide))).trans ((M511.2 131 42 (Or.inr (by decide))).trans ((M499.2 131 42 (Or.inl (by decide))).trans ((q472 131 42 (by decide)).trans ((q22 131 42 (by decide)).trans z13))))))]; exact R_of r14 rfl), (by rw [((q527 131 43 (by decide)).trans ((M519.2 131 43 (Or.inr (by decide))).trans M511.1))]; exact R_of r509 rfl), (by rw [((q527 131 45 (by decide)).trans M519.1)]; exact R_of r517 rfl), (fun _ => (by have n1 := congrArg Int32.toInt ((q472 131 42 (by decide)).trans ((q22 131 42 (by decide)).trans z13)); have n2 := congrArg Int32.toInt ((q472 131 45 (by decide)).trans ((q22 131 45 (by decide)).trans z2)); exact SI_push q475 (fun j => ((q527 135 j (by simp [fz])).trans ((M519.2 135 j (Or.inl (by decide))).trans ((M511.2 135 j (Or.inl (by decide))).trans ((M499.2 135 j (Or.inl (by decide))).trans rfl))))) ((q527 131 41 (by decide)).trans ((M519.2 131 41 (Or.inr (by decide))).trans ((M511.2 131 41 (Or.inr (by decide))).trans ((M499.2 131 41 (Or.inl (by decide))).trans rfl)))) ((q527 131 42 (by decide)).trans ((M519.2 131 42 (Or.inr (by decide))).trans ((M511.2 131 42 (Or.inr (by decide))).trans ((M499.2 131 42 (Or.inl (by decide))).trans ((q472 131 42 (by decide)).trans ((q22 131 42 (by decide)).trans z13)))))) ((q527 131 43 (by decide)).trans ((M519.2 131 43 (Or.inr (by decide))).trans M511.1)) ((q527 131 45 (by decide)).trans M519.1) z481 (fun j hj => ((q527 148 j (by simp [fz])).trans ((M519.2 148 j (Or.inl (by decide))).trans ((M511.2 148 j (Or.inl (by decide))).trans ((M499.2 148 j (Or.inr hj)).trans rfl))))) (((q527 148 v480.toNatClampNeg (by simp [fz])).trans ((M519.2 148 v480.toNatClampNeg (Or.inl (by decide))).trans ((M511.2 148 v480.toNatClampNeg (Or.inl (by decide))).trans rfl))).trans M499.1) (by omega) (Or.inr ⟨by omega, by omega, by omega, by omega⟩)))⟩ (nr_bool (R_of (lo := 0) (hi := 1) r545 rfl)) dX12_behind_91
        ·
          have r546 : R (1) (1) v489 := ⟨by omega, by omega⟩
          have p547 := q492 (by omega)
          have r548 : R (1) (1) v6 := ((q472 131 11 (by decide)).trans ((q22 131 11 (by decide)).trans z7)) ▸ p547
          have r549 : R (1) (1) v6 := ⟨by omega, by omega⟩
          refine r_bipush S dX12_behind_63 (by decide) (fun v550 z551 => ?_)
          have r552 := R_eq z551
          refine r_goto (tgt := 70) S dX12_behind_65 (by decide) ?_
          refine r_ast (n := 45) (K := 55) S X487 (Nat.le_of_ble_eq_true rfl) rfl (fun _ _ => rfl) (ix_of r484 rfl) dX12_behind_70 (fun t553 H lc M554 X555 => ?_)
          have I556 := Inv_mu q471 M554 (R_any v550)
          have F557 : Fr [(131, 15), (131, 16), (131, 4), (131, 11), (131, 12), (131, 13), (131, 14), (131, 41), (131, 43), (131, 44), (131, 45)] [135, 148] τ t553 := Fr_cell F477 M554 (by decide)
          refine r_aload_n S dX12_behind_71 rfl (lv_at hl 0 rfl) ?_
          refine r_dup S dX12_behind_72 rfl ?_
          refine r_geti (K := 38) S X555 (Nat.le_of_ble_eq_true rfl) rfl lk12_407_10 (fun _ => ⟨_, rfl, rfl⟩) ((M554.2 131 43 (Or.inl (by decide))).trans z481) dX12_behind_73 ?_
          refine r_iconst S dX12_behind_76 (by decide) (fun v558 z559 => ?_)
          have r560 := R_eq z559
          refine r_iadd S dX12_behind_77 (fun v561 z562 => ?_)
          obtain ⟨e563, r564⟩ := i_add (lo := 1) (hi := 40) z562 r484 r560 rfl
          refine r_put (K := 38) (ty := .int) S X555 (Nat.le_of_ble_eq_true rfl) rfl lk12_407_10 (fun _ => ⟨_, rfl, Nat.le_of_ble_eq_true rfl, rfl⟩) (fun _ _ _ h => by cases h; exact ⟨rfl, rfl⟩) rfl rfl dX12_behind_78 (fun t565 H lc M566 X567 => ?_)
          have I568 := Inv_mu I556 M566 (show Rg (kd 131) 43 v561 from (R_of (lo := 0) (hi := 45) r564 rfl))
          have F569 : Fr [(131, 15), (131, 16), (131, 4), (131, 11), (131, 12), (131, 13), (131, 14), (131, 41), (131, 43), (131, 44), (131, 45)] [135, 148] τ t565 := Fr_mu F557 M566 (by decide)
          refine r_aload_n S dX12_behind_81 rfl (lv_at hl 0 rfl) ?_
          refine r_iconst S dX12_behind_82 (by decide) (fun v570 z571 => ?_)
          have r572 := R_eq z571
          refine r_put (K := 38) (ty := .boolean) S X567 (Nat.le_of_ble_eq_true rfl) rfl lk12_422_10 (fun _ => ⟨_, rfl, Nat.le_of_ble_eq_true rfl, rfl⟩) (fun _ _ _ h => by cases h; exact ⟨rfl, rfl⟩) (nr_bool (R_of (lo := 0) (hi := 1) r572 rfl)) (ft_bool (R_of (lo := 0) (hi := 1) r572 rfl)) dX12_behind_83 (fun t573 H lc M574 X575 => ?_)
          have I576 := Inv_mu I568 M574 (show Rg (kd 131) 45 v570 from (R_of (lo := 0) (hi := 1) r572 rfl))
          have F577 : Fr [(131, 15), (131, 16), (131, 4), (131, 11), (131, 12), (131, 13), (131, 14), (131, 41), (131, 43), (131, 44), (131, 45)] [135, 148] τ t573 := Fr_mu F569 M574 (by decide)
          refine r_aload_n S dX12_behind_86 rfl (lv_at hl 0 rfl) ?_
          refine r_kv (q_V (As := []) (rest := []) (K := 38) (ci := 10) S X575 (c_X12_skip l G t573 I576 ) ck12_186 (Nat.le_of_ble_eq_true rfl) rfl (fun _ => ⟨_, rfl⟩) ⟨_, _, rfl⟩ ⟨Nat.le_of_ble_eq_true rfl, Nat.le_of_ble_eq_true rfl⟩ rfl hl.1 rfl (Nat.le_of_ble_eq_true rfl) dX12_behind_87 ⟨Nat.le_refl 0, Nat.le_refl 0⟩) X575 (fun t580 H lc q578 X579 => ?_)
          unfold po_X12_skip at q578
          obtain ⟨q581, q582, q583, q584, q585, q586⟩ := q578
          have F587 : Fr [(131, 15), (131, 16), (131, 4), (131, 11), (131, 12), (131, 13), (131, 14), (131, 41), (131, 43), (131, 44), (131, 45)] [135, 148] τ t580 := Fr_call F577 q582 (by decide)
          obtain ⟨v588, z589⟩ : ∃ x, t580 131 4 = x := ⟨_, rfl⟩
          rw [z589] at q583
          obtain ⟨v590, z591⟩ : ∃ x, t580 131 11 = x := ⟨_, rfl⟩
          rw [z591] at q584
          have e592 := congrArg Int32.toInt ((M574.2 131 4 (Or.inr (by decide))).trans ((M566.2 131 4 (Or.inr (by decide))).trans ((M554.2 131 4 (Or.inl (by decide))).trans ((q472 131 4 (by decide)).trans ((q22 131 4 (by decide)).trans z4)))))
          have e593 := congrArg Int32.toInt z589
          have e594 := congrArg Int32.toInt ((M574.2 131 4 (Or.inr (by decide))).trans ((M566.2 131 4 (Or.inr (by decide))).trans ((M554.2 131 4 (Or.inl (by decide))).trans ((q472 131 4 (by decide)).trans ((q22 131 4 (by decide)).trans z4)))))
          have e595 := congrArg Int32.toInt z589
          have e596 := congrArg Int32.toInt ((M574.2 131 11 (Or.inr (by decide))).trans ((M566.2 131 11 (Or.inr (by decide))).trans ((M554.2 131 11 (Or.inl (by decide))).trans ((q472 131 11 (by decide)).trans ((q22 131 11 (by decide)).trans z7)))))
          have e597 := congrArg Int32.toInt z591
          refine r_iconst S dX12_behind_90 (by decide) (fun v598 z599 => ?_)
          have r600 := R_eq z599
          exact r_ret S hr hlk X579 ⟨q581, F587, (R_of r600 rfl), (by rw [z589]; exact R_of q583 rfl), (by rw [z591]; exact R_of q584 rfl), (by have h1_0 := congrArg Int32.toInt z589; have h2_0 := congrArg Int32.toInt z4; omega), (by have h1_0 := congrArg Int32.toInt z589; have h2_0 := congrArg Int32.toInt z4; have h1_1 := congrArg Int32.toInt z591; have h2_1 := congrArg Int32.toInt z7; omega), (by have h1_0 := congrArg Int32.toInt z591; have h2_0 := congrArg Int32.toInt z7; omega), (by rw [((q582 131 41 (by decide)).trans ((M574.2 131 41 (Or.inr (by decide))).trans ((M566.2 131 41 (Or.inr (by decide))).trans ((M554.2 131 41 (Or.inl (by decide))).trans z479))))]; exact R_of r483 rfl), (by rw [((q582 131 42 (by decide)).trans ((M574.2 131 42 (Or.inr (by decide))).trans ((M566.2 131 42 (Or.inr (by decide))).trans ((M554.2 131 42 (Or.inl (by decide))).trans ((q472 131 42 (by decide)).trans ((q22 131 42 (by decide)).trans z13))))))]; exact R_of r14 rfl), (by rw [((q582 131 43 (by decide)).trans ((M574.2 131 43 (Or.inr (by decide))).trans M566.1))]; exact R_of r564 rfl), (by rw [((q582 131 45 (by decide)).trans M574.1)]; exact R_of r572 rfl), (fun _ => (by have n1 := congrArg Int32.toInt ((q472 131 42 (by decide)).trans ((q22 131 42 (by decide)).trans z13)); have n2 := congrArg Int32.toInt ((q472 131 45 (by decide)).trans ((q22 131 45 (by decide)).trans z2)); exact SI_push q475 (fun j => ((q582 135 j (by simp [fz])).trans ((M574.2 135 j (Or.inl (by decide))).trans ((M566.2 135 j (Or.inl (by decide))).trans ((M554.2 135 j (Or.inl (by decide))).trans rfl))))) ((q582 131 41 (by decide)).trans ((M574.2 131 41 (Or.inr (by decide))).trans ((M566.2 131 41 (Or.inr (by decide))).trans ((M554.2 131 41 (Or.inl (by decide))).trans rfl)))) ((q582 131 42 (by decide)).trans ((M574.2 131 42 (Or.inr (by decide))).trans ((M566.2 131 42 (Or.inr (by decide))).trans ((M554.2 131 42 (Or.inl (by decide))).trans ((q472 131 42 (by decide)).trans ((q22 131 42 (by decide)).trans z13)))))) ((q582 131 43 (by decide)).trans ((M574.2 131 43 (Or.inr (by decide))).trans M566.1)) ((q582 131 45 (by decide)).trans M574.1) z481 (fun j hj => ((q582 148 j (by simp [fz])).trans ((M574.2 148 j (Or.inl (by decide))).trans ((M566.2 148 j (Or.inl (by decide))).trans ((M554.2 148 j (Or.inr hj)).trans rfl))))) (((q582 148 v480.toNatClampNeg (by simp [fz])).trans ((M574.2 148 v480.toNatClampNeg (Or.inl (by decide))).trans ((M566.2 148 v480.toNatClampNeg (Or.inl (by decide))).trans rfl))).trans M554.1) (by omega) (Or.inr ⟨by omega, by omega, by omega, by omega⟩)))⟩ (nr_bool (R_of (lo := 0) (hi := 1) r600 rfl)) dX12_behind_91
      ·
        have r601 : R (1) (1) v459 := ⟨by omega, by omega⟩
        have p602 := q462 (by omega)
        have r603 : R (1) (1) v6 := ((q22 131 11 (by decide)).trans z7) ▸ p602
        have r604 : R (1) (1) v6 := ⟨by omega, by omega⟩
        refine r_bipush S dX12_behind_35 (by decide) (fun v605 z606 => ?_)
        have r607 := R_eq z606
        refine r_goto (tgt := 42) S dX12_behind_37 (by decide) ?_
        refine r_kv (q_V (As := [.int v605]) (rest := []) (K := 38) (ci := 10) S X457 (c_X12_joins_21 l G t20 q21 v605 r607 (by rw [((q22 131 45 (by decide)).trans z2)]; exact R_of hf_0 rfl) q25) ck12_428 (Nat.le_of_ble_eq_true rfl) rfl (fun _ => ⟨_, rfl⟩) ⟨_, _, rfl⟩ ⟨Nat.le_of_ble_eq_true rfl, Nat.le_of_ble_eq_true rfl⟩ rfl hl.1 rfl (Nat.le_of_ble_eq_true rfl) dX12_behind_42 ⟨Nat.le_refl 0, Nat.le_refl 0⟩) X457 (fun t610 H lc q608 X609 => ?_)
        unfold po_X12_joins_21 at q608
        obtain ⟨q611, q612, q613, q614, q615⟩ := q608
        have F616 : Fr [(131, 15), (131, 16), (131, 4), (131, 11), (131, 12), (131, 13), (131, 14), (131, 41), (131, 43), (131, 44), (131, 45)] [135, 148] τ t610 := Fr_call F26 q612 (by decide)
        obtain ⟨v617, z618⟩ : ∃ x, t610 131 41 = x := ⟨_, rfl⟩
        rw [z618] at q613
        obtain ⟨v619, z620⟩ : ∃ x, t610 131 43 = x := ⟨_, rfl⟩
        rw [z620] at q614
        have h621 := SI_b q615 z618 ((q612 131 42 (by decide)).trans ((q22 131 42 (by decide)).trans z13)) z620 ((q612 131 45 (by decide)).trans ((q22 131 45 (by decide)).trans z2))
        have r622 : R (0) (39) v617 := ⟨by omega, by omega⟩
        have r623 : R (0) (39) v619 := ⟨by omega, by omega⟩
        refine r_aload_n S dX12_behind_45 rfl (lv_at hl 0 rfl) ?_
        refine r_get (K := 38) (v := .ref (G.2.2.2.1 148)) S X609 (Nat.le_of_ble_eq_true rfl) rfl lk12_84_10 (fun _ => ⟨_, rfl, rfl⟩) dX12_behind_46 ?_
        refine r_aload_n S dX12_behind_49 rfl (lv_at hl 0 rfl) ?_
        refine r_geti (K := 38) S X609 (Nat.le_of_ble_eq_true rfl) rfl lk12_407_10 (fun _ => ⟨_, rfl, rfl⟩) z620 dX12_behind_50 ?_
        refine r_aload_n S dX12_behind_53 rfl (lv_at hl 0 rfl) ?_
        refine lv_ldc2 S.1.1 S.1.2.1 S.1.2.2.2.1 (S.1.2.2.2.2 _ kw50) dX12_behind_54 ?_
        refine lv_topl (fun j624 _ => ?_)
        refine r_ki (q_V (As := [.long j624]) (rest := [.int v619, .ref (G.2.2.2.1 148)]) (K := 38) (ci := 10) S X609 (c_X12_isWord l G t610 q611 j624) ck12_208 (Nat.le_of_ble_eq_true rfl) rfl (fun _ => ⟨_, rfl⟩) ⟨_, _, rfl⟩ ⟨Nat.le_of_ble_eq_true rfl, Nat.le_of_ble_eq_true rfl⟩ rfl hl.1 rfl (Nat.le_of_ble_eq_true rfl) dX12_behind_57 ⟨Nat.le_refl 0, Nat.le_refl 0⟩) X609 (fun v628 t627 H lc q625 X626 => ?_)
        unfold po_X12_isWord at q625
        obtain ⟨q629, q630, q631⟩ := q625
        rw [q629] at X626
        rw [q629] at q631
        refine r_if_eq (tgt := 68) S dX12_behind_60 (by decide) (fun c632 => ?_) (fun c632 => ?_)
        ·
          have r633 : R (0) (0) v628 := ⟨by omega, by omega⟩
          refine r_bipush S dX12_behind_68 (by decide) (fun v634 z635 => ?_)
          have r636 := R_eq z635
          refine r_ast (n := 45) (K := 55) S X626 (Nat.le_of_ble_eq_true rfl) rfl (fun _ _ => rfl) (ix_of r623 rfl) dX12_behind_70 (fun t637 H lc M638 X639 => ?_)
          have I640 := Inv_mu q611 M638 (R_any v634)
          have F641 : Fr [(131, 15), (131, 16), (131, 4), (131, 11), (131, 12), (131, 13), (131, 14), (131, 41), (131, 43), (131, 44), (131, 45)] [135, 148] τ t637 := Fr_cell F616 M638 (by decide)
          refine r_aload_n S dX12_behind_71 rfl (lv_at hl 0 rfl) ?_
          refine r_dup S dX12_behind_72 rfl ?_
          refine r_geti (K := 38) S X639 (Nat.le_of_ble_eq_true rfl) rfl lk12_407_10 (fun _ => ⟨_, rfl, rfl⟩) ((M638.2 131 43 (Or.inl (by decide))).trans z620) dX12_behind_73 ?_
          refine r_iconst S dX12_behind_76 (by decide) (fun v642 z643 => ?_)
          have r644 := R_eq z643
          refine r_iadd S dX12_behind_77 (fun v645 z646 => ?_)
          obtain ⟨e647, r648⟩ := i_add (lo := 1) (hi := 40) z646 r623 r644 rfl
          refine r_put (K := 38) (ty := .int) S X639 (Nat.le_of_ble_eq_true rfl) rfl lk12_407_10 (fun _ => ⟨_, rfl, Nat.le_of_ble_eq_true rfl, rfl⟩) (fun _ _ _ h => by cases h; exact ⟨rfl, rfl⟩) rfl rfl dX12_behind_78 (fun t649 H lc M650 X651 => ?_)
          have I652 := Inv_mu I640 M650 (show Rg (kd 131) 43 v645 from (R_of (lo := 0) (hi := 45) r648 rfl))
          have F653 : Fr [(131, 15), (131, 16), (131, 4), (131, 11), (131, 12), (131, 13), (131, 14), (131, 41), (131, 43), (131, 44), (131, 45)] [135, 148] τ t649 := Fr_mu F641 M650 (by decide)
          refine r_aload_n S dX12_behind_81 rfl (lv_at hl 0 rfl) ?_
          refine r_iconst S dX12_behind_82 (by decide) (fun v654 z655 => ?_)
          have r656 := R_eq z655
          refine r_put (K := 38) (ty := .boolean) S X651 (Nat.le_of_ble_eq_true rfl) rfl lk12_422_10 (fun _ => ⟨_, rfl, Nat.le_of_ble_eq_true rfl, rfl⟩) (fun _ _ _ h => by cases h; exact ⟨rfl, rfl⟩) (nr_bool (R_of (lo := 0) (hi := 1) r656 rfl)) (ft_bool (R_of (lo := 0) (hi := 1) r656 rfl)) dX12_behind_83 (fun t657 H lc M658 X659 => ?_)
          have I660 := Inv_mu I652 M658 (show Rg (kd 131) 45 v654 from (R_of (lo := 0) (hi := 1) r656 rfl))
          have F661 : Fr [(131, 15), (131, 16), (131, 4), (131, 11), (131, 12), (131, 13), (131, 14), (131, 41), (131, 43), (131, 44), (131, 45)] [135, 148] τ t657 := Fr_mu F653 M658 (by decide)
          refine r_aload_n S dX12_behind_86 rfl (lv_at hl 0 rfl) ?_
          refine r_kv (q_V (As := []) (rest := []) (K := 38) (ci := 10) S X659 (c_X12_skip l G t657 I660 ) ck12_186 (Nat.le_of_ble_eq_true rfl) rfl (fun _ => ⟨_, rfl⟩) ⟨_, _, rfl⟩ ⟨Nat.le_of_ble_eq_true rfl, Nat.le_of_ble_eq_true rfl⟩ rfl hl.1 rfl (Nat.le_of_ble_eq_true rfl) dX12_behind_87 ⟨Nat.le_refl 0, Nat.le_refl 0⟩) X659 (fun t664 H lc q662 X663 => ?_)
          unfold po_X12_skip at q662
          obtain ⟨q665, q666, q667, q668, q669, q670⟩ := q662
          have F671 : Fr [(131, 15), (131, 16), (131, 4), (131, 11), (131, 12), (131, 13), (131, 14), (131, 41), (131, 43), (131, 44), (131, 45)] [135, 148] τ t664 := Fr_call F661 q666 (by decide)
          obtain ⟨v672, z673⟩ : ∃ x, t664 131 4 = x := ⟨_, rfl⟩
          rw [z673] at q667
          obtain ⟨v674, z675⟩ : ∃ x, t664 131 11 = x := ⟨_, rfl⟩
          rw [z675] at q668
          have e676 := congrArg Int32.toInt ((M658.2 131 4 (Or.inr (by decide))).trans ((M650.2 131 4 (Or.inr (by decide))).trans ((M638.2 131 4 (Or.inl (by decide))).trans ((q612 131 4 (by decide)).trans ((q22 131 4 (by decide)).trans z4)))))
          have e677 := congrArg Int32.toInt z673
          have e678 := congrArg Int32.toInt ((M658.2 131 4 (Or.inr (by decide))).trans ((M650.2 131 4 (Or.inr (by decide))).trans ((M638.2 131 4 (Or.inl (by decide))).trans ((q612 131 4 (by decide)).trans ((q22 131 4 (by decide)).trans z4)))))
          have e679 := congrArg Int32.toInt z673
          have e680 := congrArg Int32.toInt ((M658.2 131 11 (Or.inr (by decide))).trans ((M650.2 131 11 (Or.inr (by decide))).trans ((M638.2 131 11 (Or.inl (by decide))).trans ((q612 131 11 (by decide)).trans ((q22 131 11 (by decide)).trans z7)))))
          have e681 := congrArg Int32.toInt z675
          refine r_iconst S dX12_behind_90 (by decide) (fun v682 z683 => ?_)
          have r684 := R_eq z683
          exact r_ret S hr hlk X663 ⟨q665, F671, (R_of r684 rfl), (by rw [z673]; exact R_of q667 rfl), (by rw [z675]; exact R_of q668 rfl), (by have h1_0 := congrArg Int32.toInt z673; have h2_0 := congrArg Int32.toInt z4; omega), (by have h1_0 := congrArg Int32.toInt z673; have h2_0 := congrArg Int32.toInt z4; have h1_1 := congrArg Int32.toInt z675; have h2_1 := congrArg Int32.toInt z7; omega), (by have h1_0 := congrArg Int32.toInt z675; have h2_0 := congrArg Int32.toInt z7; omega), (by rw [((q666 131 41 (by decide)).trans ((M658.2 131 41 (Or.inr (by decide))).trans ((M650.2 131 41 (Or.inr (by decide))).trans ((M638.2 131 41 (Or.inl (by decide))).trans z618))))]; exact R_of r622 rfl), (by rw [((q666 131 42 (by decide)).trans ((M658.2 131 42 (Or.inr (by decide))).trans ((M650.2 131 42 (Or.inr (by decide))).trans ((M638.2 131 42 (Or.inl (by decide))).trans ((q612 131 42 (by decide)).trans ((q22 131 42 (by decide)).trans z13))))))]; exact R_of r14 rfl), (by rw [((q666 131 43 (by decide)).trans ((M658.2 131 43 (Or.inr (by decide))).trans M650.1))]; exact R_of r648 rfl), (by rw [((q666 131 45 (by decide)).trans M658.1)]; exact R_of r656 rfl), (fun _ => (by have n1 := congrArg Int32.toInt ((q612 131 42 (by decide)).trans ((q22 131 42 (by decide)).trans z13)); have n2 := congrArg Int32.toInt ((q612 131 45 (by decide)).trans ((q22 131 45 (by decide)).trans z2)); exact SI_push q615 (fun j => ((q666 135 j (by simp [fz])).trans ((M658.2 135 j (Or.inl (by decide))).trans ((M650.2 135 j (Or.inl (by decide))).trans ((M638.2 135 j (Or.inl (by decide))).trans rfl))))) ((q666 131 41 (by decide)).trans ((M658.2 131 41 (Or.inr (by decide))).trans ((M650.2 131 41 (Or.inr (by decide))).trans ((M638.2 131 41 (Or.inl (by decide))).trans rfl)))) ((q666 131 42 (by decide)).trans ((M658.2 131 42 (Or.inr (by decide))).trans ((M650.2 131 42 (Or.inr (by decide))).trans ((M638.2 131 42 (Or.inl (by decide))).trans ((q612 131 42 (by decide)).trans ((q22 131 42 (by decide)).trans z13)))))) ((q666 131 43 (by decide)).trans ((M658.2 131 43 (Or.inr (by decide))).trans M650.1)) ((q666 131 45 (by decide)).trans M658.1) z620 (fun j hj => ((q666 148 j (by simp [fz])).trans ((M658.2 148 j (Or.inl (by decide))).trans ((M650.2 148 j (Or.inl (by decide))).trans ((M638.2 148 j (Or.inr hj)).trans rfl))))) (((q666 148 v619.toNatClampNeg (by simp [fz])).trans ((M658.2 148 v619.toNatClampNeg (Or.inl (by decide))).trans ((M650.2 148 v619.toNatClampNeg (Or.inl (by decide))).trans rfl))).trans M638.1) (by omega) (Or.inr ⟨by omega, by omega, by omega, by omega⟩)))⟩ (nr_bool (R_of (lo := 0) (hi := 1) r684 rfl)) dX12_behind_91
        ·
          have r685 : R (1) (1) v628 := ⟨by omega, by omega⟩
          have p686 := q631 (by omega)
          have r687 : R (1) (1) v6 := ((q612 131 11 (by decide)).trans ((q22 131 11 (by decide)).trans z7)) ▸ p686
          have r688 : R (1) (1) v6 := ⟨by omega, by omega⟩
          refine r_bipush S dX12_behind_63 (by decide) (fun v689 z690 => ?_)
          have r691 := R_eq z690
          refine r_goto (tgt := 70) S dX12_behind_65 (by decide) ?_
          refine r_ast (n := 45) (K := 55) S X626 (Nat.le_of_ble_eq_true rfl) rfl (fun _ _ => rfl) (ix_of r623 rfl) dX12_behind_70 (fun t692 H lc M693 X694 => ?_)
          have I695 := Inv_mu q611 M693 (R_any v689)
          have F696 : Fr [(131, 15), (131, 16), (131, 4), (131, 11), (131, 12), (131, 13), (131, 14), (131, 41), (131, 43), (131, 44), (131, 45)] [135, 148] τ t692 := Fr_cell F616 M693 (by decide)
          refine r_aload_n S dX12_behind_71 rfl (lv_at hl 0 rfl) ?_
          refine r_dup S dX12_behind_72 rfl ?_
          refine r_geti (K := 38) S X694 (Nat.le_of_ble_eq_true rfl) rfl lk12_407_10 (fun _ => ⟨_, rfl, rfl⟩) ((M693.2 131 43 (Or.inl (by decide))).trans z620) dX12_behind_73 ?_
          refine r_iconst S dX12_behind_76 (by decide) (fun v697 z698 => ?_)
          have r699 := R_eq z698
          refine r_iadd S dX12_behind_77 (fun v700 z701 => ?_)
          obtain ⟨e702, r703⟩ := i_add (lo := 1) (hi := 40) z701 r623 r699 rfl
          refine r_put (K := 38) (ty := .int) S X694 (Nat.le_of_ble_eq_true rfl) rfl lk12_407_10 (fun _ => ⟨_, rfl, Nat.le_of_ble_eq_true rfl, rfl⟩) (fun _ _ _ h => by cases h; exact ⟨rfl, rfl⟩) rfl rfl dX12_behind_78 (fun t704 H lc M705 X706 => ?_)
          have I707 := Inv_mu I695 M705 (show Rg (kd 131) 43 v700 from (R_of (lo := 0) (hi := 45) r703 rfl))
          have F708 : Fr [(131, 15), (131, 16), (131, 4), (131, 11), (131, 12), (131, 13), (131, 14), (131, 41), (131, 43), (131, 44), (131, 45)] [135, 148] τ t704 := Fr_mu F696 M705 (by decide)
          refine r_aload_n S dX12_behind_81 rfl (lv_at hl 0 rfl) ?_
          refine r_iconst S dX12_behind_82 (by decide) (fun v709 z710 => ?_)
          have r711 := R_eq z710
          refine r_put (K := 38) (ty := .boolean) S X706 (Nat.le_of_ble_eq_true rfl) rfl lk12_422_10 (fun _ => ⟨_, rfl, Nat.le_of_ble_eq_true rfl, rfl⟩) (fun _ _ _ h => by cases h; exact ⟨rfl, rfl⟩) (nr_bool (R_of (lo := 0) (hi := 1) r711 rfl)) (ft_bool (R_of (lo := 0) (hi := 1) r711 rfl)) dX12_behind_83 (fun t712 H lc M713 X714 => ?_)
          have I715 := Inv_mu I707 M713 (show Rg (kd 131) 45 v709 from (R_of (lo := 0) (hi := 1) r711 rfl))
          have F716 : Fr [(131, 15), (131, 16), (131, 4), (131, 11), (131, 12), (131, 13), (131, 14), (131, 41), (131, 43), (131, 44), (131, 45)] [135, 148] τ t712 := Fr_mu F708 M713 (by decide)
          refine r_aload_n S dX12_behind_86 rfl (lv_at hl 0 rfl) ?_
          refine r_kv (q_V (As := []) (rest := []) (K := 38) (ci := 10) S X714 (c_X12_skip l G t712 I715 ) ck12_186 (Nat.le_of_ble_eq_true rfl) rfl (fun _ => ⟨_, rfl⟩) ⟨_, _, rfl⟩ ⟨Nat.le_of_ble_eq_true rfl, Nat.le_of_ble_eq_true rfl⟩ rfl hl.1 rfl (Nat.le_of_ble_eq_true rfl) dX12_behind_87 ⟨Nat.le_refl 0, Nat.le_refl 0⟩) X714 (fun t719 H lc q717 X718 => ?_)
          unfold po_X12_skip at q717
          obtain ⟨q720, q721, q722, q723, q724, q725⟩ := q717
          have F726 : Fr [(131, 15), (131, 16), (131, 4), (131, 11), (131, 12), (131, 13), (131, 14), (131, 41), (131, 43), (131, 44), (131, 45)] [135, 148] τ t719 := Fr_call F716 q721 (by decide)
          obtain ⟨v727, z728⟩ : ∃ x, t719 131 4 = x := ⟨_, rfl⟩
          rw [z728] at q722
          obtain ⟨v729, z730⟩ : ∃ x, t719 131 11 = x := ⟨_, rfl⟩
          rw [z730] at q723
          have e731 := congrArg Int32.toInt ((M713.2 131 4 (Or.inr (by decide))).trans ((M705.2 131 4 (Or.inr (by decide))).trans ((M693.2 131 4 (Or.inl (by decide))).trans ((q612 131 4 (by decide)).trans ((q22 131 4 (by decide)).trans z4)))))
          have e732 := congrArg Int32.toInt z728
          have e733 := congrArg Int32.toInt ((M713.2 131 4 (Or.inr (by decide))).trans ((M705.2 131 4 (Or.inr (by decide))).trans ((M693.2 131 4 (Or.inl (by decide))).trans ((q612 131 4 (by decide)).trans ((q22 131 4 (by decide)).trans z4)))))
          have e734 := congrArg Int32.toInt z728
          have e735 := congrArg Int32.toInt ((M713.2 131 11 (Or.inr (by decide))).trans ((M705.2 131 11 (Or.inr (by decide))).trans ((M693.2 131 11 (Or.inl (by decide))).trans ((q612 131 11 (by decide)).trans ((q22 131 11 (by decide)).trans z7)))))
          have e736 := congrArg Int32.toInt z730
          refine r_iconst S dX12_behind_90 (by decide) (fun v737 z738 => ?_)
          have r739 := R_eq z738
          exact r_ret S hr hlk X718 ⟨q720, F726, (R_of r739 rfl), (by rw [z728]; exact R_of q722 rfl), (by rw [z730]; exact R_of q723 rfl), (by have h1_0 := congrArg Int32.toInt z728; have h2_0 := congrArg Int32.toInt z4; omega), (by have h1_0 := congrArg Int32.toInt z728; have h2_0 := congrArg Int32.toInt z4; have h1_1 := congrArg Int32.toInt z730; have h2_1 := congrArg Int32.toInt z7; omega), (by have h1_0 := congrArg Int32.toInt z730; have h2_0 := congrArg Int32.toInt z7; omega), (by rw [((q721 131 41 (by decide)).trans ((M713.2 131 41 (Or.inr (by decide))).trans ((M705.2 131 41 (Or.inr (by decide))).trans ((M693.2 131 41 (Or.inl (by decide))).trans z618))))]; exact R_of r622 rfl), (by rw [((q721 131 42 (by decide)).trans ((M713.2 131 42 (Or.inr (by decide))).trans ((M705.2 131 42 (Or.inr (by decide))).trans ((M693.2 131 42 (Or.inl (by decide))).trans ((q612 131 42 (by decide)).trans ((q22 131 42 (by decide)).trans z13))))))]; exact R_of r14 rfl), (by rw [((q721 131 43 (by decide)).trans ((M713.2 131 43 (Or.inr (by decide))).trans M705.1))]; exact R_of r703 rfl), (by rw [((q721 131 45 (by decide)).trans M713.1)]; exact R_of r711 rfl), (fun _ => (by have n1 := congrArg Int32.toInt ((q612 131 42 (by decide)).trans ((q22 131 42 (by decide)).trans z13)); have n2 := congrArg Int32.toInt ((q612 131 45 (by decide)).trans ((q22 131 45 (by decide)).trans z2)); exact SI_push q615 (fun j => ((q721 135 j (by simp [fz])).trans ((M713.2 135 j (Or.inl (by decide))).trans ((M705.2 135 j (Or.inl (by decide))).trans ((M693.2 135 j (Or.inl (by decide))).trans rfl))))) ((q721 131 41 (by decide)).trans ((M713.2 131 41 (Or.inr (by decide))).trans ((M705.2 131 41 (Or.inr (by decide))).trans ((M693.2 131 41 (Or.inl (by decide))).trans rfl)))) ((q721 131 42 (by decide)).trans ((M713.2 131 42 (Or.inr (by decide))).trans ((M705.2 131 42 (Or.inr (by decide))).trans ((M693.2 131 42 (Or.inl (by decide))).trans ((q612 131 42 (by decide)).trans ((q22 131 42 (by decide)).trans z13)))))) ((q721 131 43 (by decide)).trans ((M713.2 131 43 (Or.inr (by decide))).trans M705.1)) ((q721 131 45 (by decide)).trans M713.1) z620 (fun j hj => ((q721 148 j (by simp [fz])).trans ((M713.2 148 j (Or.inl (by decide))).trans ((M705.2 148 j (Or.inl (by decide))).trans ((M693.2 148 j (Or.inr hj)).trans rfl))))) (((q721 148 v619.toNatClampNeg (by simp [fz])).trans ((M713.2 148 v619.toNatClampNeg (Or.inl (by decide))).trans ((M705.2 148 v619.toNatClampNeg (Or.inl (by decide))).trans rfl))).trans M693.1) (by omega) (Or.inr ⟨by omega, by omega, by omega, by omega⟩)))⟩ (nr_bool (R_of (lo := 0) (hi := 1) r739 rfl)) dX12_behind_91
def po_X12_sentence (τ : Tau)   (r : Int32) (u : Tau) : Prop := Inv u ∧ Fr [(131, 0), (131, 15), (131, 16), (131, 4), (131, 11), (131, 12), (131, 13), (131, 14), (131, 2), (131, 3), (131, 5), (131, 41), (131, 42), (131, 43), (131, 44), (131, 45)] [135, 148, 133] τ u ∧ R (0) (0) (u 131 2) ∧ PF u
set_option maxHeartbeats 4000000 in
set_option maxRecDepth 100000 in
theorem c_X12_sentence (l : Launch) (G : Gx) (τ : Tau) (hI : Inv τ) (hp_0 : PF τ) : Ci l G yX12_sentence cX12_sentence 3 (some .int) 3 67 [.ref (G.2.2.2.1 131)] τ (po_X12_sentence τ  ) := by
  unfold Ci
  refine C_of (own := RX12) (by decide) rfl (Nat.le_of_ble_eq_true rfl) ?_
  intro p e s m below meth c ls S hr hlk X hl
  have hl : lv_has ls 3 [(0, .ref (G.2.2.2.1 131))] := hl
  refine r_aload_n S dX12_sentence_0 rfl (lv_at hl 0 rfl) ?_
  refine r_iconst S dX12_sentence_1 (by decide) (fun v1 z2 => ?_)
  have r3 := R_eq z2
  refine r_put (K := 38) (ty := .int) S X (Nat.le_of_ble_eq_true rfl) rfl lk12_1_10 (fun _ => ⟨_, rfl, Nat.le_of_ble_eq_true rfl, rfl⟩) (fun _ _ _ h => by cases h; exact ⟨rfl, rfl⟩) rfl rfl dX12_sentence_2 (fun t4 H lc M5 X6 => ?_)
  have I7 := Inv_mu hI M5 (R_any v1)
  have F8 : Fr [(131, 0), (131, 15), (131, 16), (131, 4), (131, 11), (131, 12), (131, 13), (131, 14), (131, 2), (131, 3), (131, 5), (131, 41), (131, 42), (131, 43), (131, 44), (131, 45)] [135, 148, 133] τ t4 := Fr_mu Fr_rfl M5 (by decide)
  refine r_aload_n S dX12_sentence_5 rfl (lv_at hl 0 rfl) ?_
  refine r_sipush S dX12_sentence_6 (by decide) (fun v9 z10 => ?_)
  have r11 := R_eq z10
  refine r_kv (q_V (As := [.int v9]) (rest := []) (K := 38) (ci := 10) S X6 (c_X12_taken l G t4 I7 v9 (R_of (lo := 0) (hi := 940) r11 rfl)) ck12_237 (Nat.le_of_ble_eq_true rfl) rfl (fun _ => ⟨_, rfl⟩) ⟨_, _, rfl⟩ ⟨Nat.le_of_ble_eq_true rfl, Nat.le_of_ble_eq_true rfl⟩ rfl hl.1 rfl (Nat.le_of_ble_eq_true rfl) dX12_sentence_9 ⟨Nat.le_refl 0, Nat.le_refl 0⟩) X6 (fun t14 H lc q12 X13 => ?_)
  unfold po_X12_taken at q12
  obtain ⟨q15, q16, q17⟩ := q12
  have F18 : Fr [(131, 0), (131, 15), (131, 16), (131, 4), (131, 11), (131, 12), (131, 13), (131, 14), (131, 2), (131, 3), (131, 5), (131, 41), (131, 42), (131, 43), (131, 44), (131, 45)] [135, 148, 133] τ t14 := Fr_call F8 q16 (by decide)
  obtain ⟨v19, z20⟩ : ∃ x, t14 131 2 = x := ⟨_, rfl⟩
  rw [z20] at q17
  refine r_aload_n S dX12_sentence_12 rfl (lv_at hl 0 rfl) ?_
  refine r_iconst S dX12_sentence_13 (by decide) (fun v21 z22 => ?_)
  have r23 := R_eq z22
  refine r_put (K := 38) (ty := .int) S X13 (Nat.le_of_ble_eq_true rfl) rfl lk12_174_10 (fun _ => ⟨_, rfl, Nat.le_of_ble_eq_true rfl, rfl⟩) (fun _ _ _ h => by cases h; exact ⟨rfl, rfl⟩) rfl rfl dX12_sentence_14 (fun t24 H lc M25 X26 => ?_)
  have I27 := Inv_mu q15 M25 (R_any v21)
  have F28 : Fr [(131, 0), (131, 15), (131, 16), (131, 4), (131, 11), (131, 12), (131, 13), (131, 14), (131, 2), (131, 3), (131, 5), (131, 41), (131, 42), (131, 43), (131, 44), (131, 45)] [135, 148, 133] τ t24 := Fr_mu F18 M25 (by decide)
  refine r_aload_n S dX12_sentence_17 rfl (lv_at hl 0 rfl) ?_
  refine r_iconst S dX12_sentence_18 (by decide) (fun v29 z30 => ?_)
  have r31 := R_eq z30
  refine r_put (K := 38) (ty := .int) S X26 (Nat.le_of_ble_eq_true rfl) rfl lk12_404_10 (fun _ => ⟨_, rfl, Nat.le_of_ble_eq_true rfl, rfl⟩) (fun _ _ _ h => by cases h; exact ⟨rfl, rfl⟩) rfl rfl dX12_sentence_19 (fun t32 H lc M33 X34 => ?_)
  have I35 := Inv_mu I27 M33 (show Rg (kd 131) 41 v29 from (R_of (lo := 0) (hi := 53) r31 rfl))
  have F36 : Fr [(131, 0), (131, 15), (131, 16), (131, 4), (131, 11), (131, 12), (131, 13), (131, 14), (131, 2), (131, 3), (131, 5), (131, 41), (131, 42), (131, 43), (131, 44), (131, 45)] [135, 148, 133] τ t32 := Fr_mu F28 M33 (by decide)
  refine r_aload_n S dX12_sentence_22 rfl (lv_at hl 0 rfl) ?_
  refine r_iconst S dX12_sentence_23 (by decide) (fun v37 z38 => ?_)
  have r39 := R_eq z38
  refine r_put (K := 38) (ty := .int) S X34 (Nat.le_of_ble_eq_true rfl) rfl lk12_419_10 (fun _ => ⟨_, rfl, Nat.le_of_ble_eq_true rfl, rfl⟩) (fun _ _ _ h => by cases h; exact ⟨rfl, rfl⟩) rfl rfl dX12_sentence_24 (fun t40 H lc M41 X42 => ?_)
  have I43 := Inv_mu I35 M41 (show Rg (kd 131) 42 v37 from (R_of (lo := 0) (hi := 20) r39 rfl))
  have F44 : Fr [(131, 0), (131, 15), (131, 16), (131, 4), (131, 11), (131, 12), (131, 13), (131, 14), (131, 2), (131, 3), (131, 5), (131, 41), (131, 42), (131, 43), (131, 44), (131, 45)] [135, 148, 133] τ t40 := Fr_mu F36 M41 (by decide)
  refine r_aload_n S dX12_sentence_27 rfl (lv_at hl 0 rfl) ?_
  refine r_iconst S dX12_sentence_28 (by decide) (fun v45 z46 => ?_)
  have r47 := R_eq z46
  refine r_put (K := 38) (ty := .int) S X42 (Nat.le_of_ble_eq_true rfl) rfl lk12_407_10 (fun _ => ⟨_, rfl, Nat.le_of_ble_eq_true rfl, rfl⟩) (fun _ _ _ h => by cases h; exact ⟨rfl, rfl⟩) rfl rfl dX12_sentence_29 (fun t48 H lc M49 X50 => ?_)
  have I51 := Inv_mu I43 M49 (show Rg (kd 131) 43 v45 from (R_of (lo := 0) (hi := 45) r47 rfl))
  have F52 : Fr [(131, 0), (131, 15), (131, 16), (131, 4), (131, 11), (131, 12), (131, 13), (131, 14), (131, 2), (131, 3), (131, 5), (131, 41), (131, 42), (131, 43), (131, 44), (131, 45)] [135, 148, 133] τ t48 := Fr_mu F44 M49 (by decide)
  refine r_aload_n S dX12_sentence_32 rfl (lv_at hl 0 rfl) ?_
  refine r_iconst S dX12_sentence_33 (by decide) (fun v53 z54 => ?_)
  have r55 := R_eq z54
  refine r_put (K := 38) (ty := .int) S X50 (Nat.le_of_ble_eq_true rfl) rfl lk12_413_10 (fun _ => ⟨_, rfl, Nat.le_of_ble_eq_true rfl, rfl⟩) (fun _ _ _ h => by cases h; exact ⟨rfl, rfl⟩) rfl rfl dX12_sentence_34 (fun t56 H lc M57 X58 => ?_)
  have I59 := Inv_mu I51 M57 (R_any v53)
  have F60 : Fr [(131, 0), (131, 15), (131, 16), (131, 4), (131, 11), (131, 12), (131, 13), (131, 14), (131, 2), (131, 3), (131, 5), (131, 41), (131, 42), (131, 43), (131, 44), (131, 45)] [135, 148, 133] τ t56 := Fr_mu F52 M57 (by decide)
  refine r_aload_n S dX12_sentence_37 rfl (lv_at hl 0 rfl) ?_
  refine r_iconst S dX12_sentence_38 (by decide) (fun v61 z62 => ?_)
  have r63 := R_eq z62
  refine r_put (K := 38) (ty := .boolean) S X58 (Nat.le_of_ble_eq_true rfl) rfl lk12_422_10 (fun _ => ⟨_, rfl, Nat.le_of_ble_eq_true rfl, rfl⟩) (fun _ _ _ h => by cases h; exact ⟨rfl, rfl⟩) (nr_bool (R_of (lo := 0) (hi := 1) r63 rfl)) (ft_bool (R_of (lo := 0) (hi := 1) r63 rfl)) dX12_sentence_39 (fun t64 H lc M65 X66 => ?_)
  have I67 := Inv_mu I59 M65 (show Rg (kd 131) 45 v61 from (R_of (lo := 0) (hi := 1) r63 rfl))
  have F68 : Fr [(131, 0), (131, 15), (131, 16), (131, 4), (131, 11), (131, 12), (131, 13), (131, 14), (131, 2), (131, 3), (131, 5), (131, 41), (131, 42), (131, 43), (131, 44), (131, 45)] [135, 148, 133] τ t64 := Fr_mu F60 M65 (by decide)
  refine r_aload_n S dX12_sentence_42 rfl (lv_at hl 0 rfl) ?_
  refine r_kv (q_V (As := []) (rest := []) (K := 38) (ci := 10) S X66 (c_X12_skip l G t64 I67 ) ck12_186 (Nat.le_of_ble_eq_true rfl) rfl (fun _ => ⟨_, rfl⟩) ⟨_, _, rfl⟩ ⟨Nat.le_of_ble_eq_true rfl, Nat.le_of_ble_eq_true rfl⟩ rfl hl.1 rfl (Nat.le_of_ble_eq_true rfl) dX12_sentence_43 ⟨Nat.le_refl 0, Nat.le_refl 0⟩) X66 (fun t71 H lc q69 X70 => ?_)
  unfold po_X12_skip at q69
  obtain ⟨q72, q73, q74, q75, q76, q77⟩ := q69
  have F78 : Fr [(131, 0), (131, 15), (131, 16), (131, 4), (131, 11), (131, 12), (131, 13), (131, 14), (131, 2), (131, 3), (131, 5), (131, 41), (131, 42), (131, 43), (131, 44), (131, 45)] [135, 148, 133] τ t71 := Fr_call F68 q73 (by decide)
  obtain ⟨v79, z80⟩ : ∃ x, t71 131 4 = x := ⟨_, rfl⟩
  rw [z80] at q74
  obtain ⟨v81, z82⟩ : ∃ x, t71 131 11 = x := ⟨_, rfl⟩
  rw [z82] at q75
  have e83 := congrArg Int32.toInt z80
  have e84 := congrArg Int32.toInt z80
  have e85 := congrArg Int32.toInt z82
  refine r_iconst S dX12_sentence_46 (by decide) (fun v86 z87 => ?_)
  have r88 := R_eq z87
  refine r_istore_n (lv' := [(1, .int v86), (0, .ref (G.2.2.2.1 131))]) S dX12_sentence_47 rfl hl (by decide) rfl (fun ls hl => ?_)
  have L530 : ∀ (n : Nat) (t506 : Tau) (H : Heap) (lc : List Loc) (ls : Array Slot) (i504 : Int32) (f512 : Int32) (f515 : Int32) (f518 : Int32) (f521 : Int32) (f524 : Int32) (f527 : Int32), Xd G s H lc t506 → Inv t506 → Fr [(131, 0), (131, 15), (131, 16), (131, 4), (131, 11), (131, 12), (131, 13), (131, 14), (131, 2), (131, 3), (131, 5), (131, 41), (131, 42), (131, 43), (131, 44), (131, 45)] [135, 148, 133] τ t506 → R (0) (1) i504 → t506 131 0 = v1 → t506 131 2 = v19 → t506 131 41 = f512 → R (0) (53) f512 → t506 131 42 = f515 → R (0) (20) f515 → t506 131 43 = f518 → R (0) (45) f518 → t506 131 45 = f521 → R (0) (1) f521 → t506 131 4 = f524 → R (0) (940) f524 → t506 131 11 = f527 → R (0) (4) f527 → SI t506 → PF t506 → lv_has ls 3 [(0, .ref (G.2.2.2.1 131)), (1, .int i504)] → (2 * (940 - f524.toInt) + (if 1 ≤ f527.toInt ∧ f527.toInt ≤ 3 then 1 else 0) + i504.toInt).toNat < n → W p l e (Rm 3 67) s m ([.ref (G.2.2.2.1 131)] : List Value).toArray below meth c H lc 0 0 (MQ below (va_Qi (po_X12_sentence τ  ) (Bs G) G.2.2.2.2) ([.ref (G.2.2.2.1 131)] : List Value).toArray s 0 0 G.2.2.2.2) (F0 m 48 ls []) := by
    intro n
    induction n with
    | zero => intros; omega
    | succ n ih533 =>
      intro t506 H lc ls i504 f512 f515 f518 f521 f524 f527 X509 I507 F508 r505 z510 z511 z514 r513 z517 r516 z520 r519 z523 r522 z526 r525 z529 r528 x531 x532 hl hm
      refine r_iload_n S dX12_sentence_48 rfl (lv_at hl 1 rfl) ?_
      refine r_if_eq (tgt := 132) S dX12_sentence_49 (by decide) (fun c534 => ?_) (fun c534 => ?_)
      ·
        have r535 : R (0) (0) i504 := ⟨by omega, by omega⟩
        refine r_aload_n S dX12_sentence_132 rfl (lv_at hl 0 rfl) ?_
        refine r_get (K := 38) (v := .ref (G.2.2.2.1 133)) S X509 (Nat.le_of_ble_eq_true rfl) rfl lk12_33_10 (fun _ => ⟨_, rfl, rfl⟩) dX12_sentence_133 ?_
        refine r_sipush S dX12_sentence_136 (by decide) (fun v536 z537 => ?_)
        have r538 := R_eq z537
        refine r_aload_n S dX12_sentence_139 rfl (lv_at hl 0 rfl) ?_
        refine r_geti (K := 38) S X509 (Nat.le_of_ble_eq_true rfl) rfl lk12_404_10 (fun _ => ⟨_, rfl, rfl⟩) z514 dX12_sentence_140 ?_
        refine r_ast (n := 513) (K := 40) S X509 (Nat.le_of_ble_eq_true rfl) rfl (fun _ _ => rfl) (ix_of r538 rfl) dX12_sentence_143 (fun t539 H lc M540 X541 => ?_)
        have I542 := Inv_mu I507 M540 (show Rg (kd 133) _ f512 from wrs (K := 40) (a := 332) (n := 1) (R_of r538 rfl) (R_of (lo := 0) (hi := 53) r513 rfl) (by decide +kernel))
        have F543 : Fr [(131, 0), (131, 15), (131, 16), (131, 4), (131, 11), (131, 12), (131, 13), (131, 14), (131, 2), (131, 3), (131, 5), (131, 41), (131, 42), (131, 43), (131, 44), (131, 45)] [135, 148, 133] τ t539 := Fr_cell F508 M540 (by decide)
        refine r_iconst S dX12_sentence_144 (by decide) (fun v544 z545 => ?_)
        have r546 := R_eq z545
        refine r_istore_n (lv' := [(2, .int v544), (0, .ref (G.2.2.2.1 131)), (1, .int i504)]) S dX12_sentence_145 rfl hl (by decide) rfl (fun ls hl => ?_)
        have L1599 : ∀ (n : Nat) (t1586 : Tau) (H : Heap) (lc : List Loc) (ls : Array Slot) (i1584 : Int32), Xd G s H lc t1586 → Inv t1586 → Fr [(131, 0), (131, 15), (131, 16), (131, 4), (131, 11), (131, 12), (131, 13), (131, 14), (131, 2), (131, 3), (131, 5), (131, 41), (131, 42), (131, 43), (131, 44), (131, 45)] [135, 148, 133] τ t1586 → R (0) (160) i1584 → t1586 131 0 = v1 → t1586 131 2 = v19 → t1586 131 41 = f512 → t1586 131 42 = f515 → t1586 131 43 = f518 → t1586 131 45 = f521 → t1586 131 4 = f524 → t1586 131 11 = f527 → t1586 133 332 = f512 → (∀ j : Nat, (j : Int) < i1584.toInt → t1586 133 (333 + j) = t1586 135 j) → SI t1586 → lv_has ls 3 [(0, .ref (G.2.2.2.1 131)), (2, .int i1584)] → (160 - i1584.toInt).toNat < n → W p l e (Rm 3 67) s m ([.ref (G.2.2.2.1 131)] : List Value).toArray below meth c H lc 0 0 (MQ below (va_Qi (po_X12_sentence τ  ) (Bs G) G.2.2.2.2) ([.ref (G.2.2.2.1 131)] : List Value).toArray s 0 0 G.2.2.2.2) (F0 m 146 ls []) := by
          intro n
          induction n with
          | zero => intros; omega
          | succ n ih1602 =>
            intro t1586 H lc ls i1584 X1589 I1587 F1588 r1585 z1590 z1591 z1592 z1593 z1594 z1595 z1596 z1597 z1598 x1600 x1601 hl hm
            refine r_iload_n S dX12_sentence_146 rfl (lv_at hl 1 rfl) ?_
            refine r_iconst S dX12_sentence_147 (by decide) (fun v1603 z1604 => ?_)
            have r1605 := R_eq z1604
            refine r_aload_n S dX12_sentence_148 rfl (lv_at hl 0 rfl) ?_
            refine r_geti (K := 38) S X1589 (Nat.le_of_ble_eq_true rfl) rfl lk12_404_10 (fun _ => ⟨_, rfl, rfl⟩) z1592 dX12_sentence_149 ?_
            refine r_imul S dX12_sentence_152 (fun v1606 z1607 => ?_)
            obtain ⟨e1608, r1609⟩ := i_mul (lo := 0) (hi := 159) z1607 r1605 r513 rfl rfl
            have e1610 : v1606.toInt = 3 * f512.toInt := by rw [e1608, show v1603.toInt = 3 by omega]
            refine r_icmp_ge (tgt := 178) S dX12_sentence_153 (by decide) (fun c1611 => ?_) (fun c1611 => ?_)
            ·
              refine r_aload_n S dX12_sentence_178 rfl (lv_at hl 0 rfl) ?_
              refine r_geti (K := 38) S X1589 (Nat.le_of_ble_eq_true rfl) rfl lk12_419_10 (fun _ => ⟨_, rfl, rfl⟩) z1593 dX12_sentence_179 ?_
              exact r_ret S hr hlk X1589 ⟨I1587, F1588, (by rw [z1591]; exact R_of q17 rfl), (PF_mk x1601 z1592 z1593 z1594 z1595 (by omega) (by omega) z1598 x1600 (by omega))⟩ rfl dX12_sentence_182
            ·
              have r1612 : R (0) (158) i1584 := ⟨by omega, by omega⟩
              have r1613 : R (1) (159) v1606 := ⟨by omega, by omega⟩
              have r1614 : R (1) (53) f512 := ⟨by omega, by omega⟩
              refine r_aload_n S dX12_sentence_156 rfl (lv_at hl 0 rfl) ?_
              refine r_get (K := 38) (v := .ref (G.2.2.2.1 133)) S X1589 (Nat.le_of_ble_eq_true rfl) rfl lk12_33_10 (fun _ => ⟨_, rfl, rfl⟩) dX12_sentence_157 ?_
              refine r_sipush S dX12_sentence_160 (by decide) (fun v1615 z1616 => ?_)
              have r1617 := R_eq z1616
              refine r_iload_n S dX12_sentence_163 rfl (lv_at hl 1 rfl) ?_
              refine r_iadd S dX12_sentence_164 (fun v1618 z1619 => ?_)
              obtain ⟨e1620, r1621⟩ := i_add (lo := 333) (hi := 491) z1619 r1617 r1612 rfl
              refine r_aload_n S dX12_sentence_165 rfl (lv_at hl 0 rfl) ?_
              refine r_get (K := 38) (v := .ref (G.2.2.2.1 135)) S X1589 (Nat.le_of_ble_eq_true rfl) rfl lk12_40_10 (fun _ => ⟨_, rfl, rfl⟩) dX12_sentence_166 ?_
              refine r_iload_n S dX12_sentence_169 rfl (lv_at hl 1 rfl) ?_
              refine r_aldn (n := 160) (K := 42) S X1589 (Nat.le_of_ble_eq_true rfl) rfl (fun _ => rfl) (ix_of r1612 rfl) dX12_sentence_170 (fun v1622 z1623 => ?_)
              have r1625 := R_any v1622
              refine r_ast (n := 513) (K := 40) S X1589 (Nat.le_of_ble_eq_true rfl) rfl (fun _ _ => rfl) (ix_of r1621 rfl) dX12_sentence_171 (fun t1626 H lc M1627 X1628 => ?_)
              have I1629 := Inv_mu I1587 M1627 (show Rg (kd 133) _ v1622 from wrs (K := 40) (a := 333) (n := 159) (R_of r1621 rfl) (R_of (lo := -2147483648) (hi := 2147483647) r1625 rfl) (by decide +kernel))
              have F1630 : Fr [(131, 0), (131, 15), (131, 16), (131, 4), (131, 11), (131, 12), (131, 13), (131, 14), (131, 2), (131, 3), (131, 5), (131, 41), (131, 42), (131, 43), (131, 44), (131, 45)] [135, 148, 133] τ t1626 := Fr_cell F1588 M1627 (by decide)
              refine r_iinc (k := 1) S dX12_sentence_172 hl rfl (by decide) (by decide) (fun v1631 d1632 ls z1633 z1634 hl => ?_)
              obtain ⟨e1635, r1636⟩ := i_add (lo := 1) (hi := 159) z1633 r1612 (R_eq z1634) rfl
              have hl : lv_has ls 3 [(2, .int v1631), (0, .ref (G.2.2.2.1 131))] := hl
              refine r_goto (tgt := 146) S dX12_sentence_175 (by decide) ?_
              exact ih1602 t1626 _ _ _ v1631 X1628 I1629 F1630 (R_of r1636 rfl) ((M1627.2 131 0 (Or.inl (by decide))).trans z1590) ((M1627.2 131 2 (Or.inl (by decide))).trans z1591) ((M1627.2 131 41 (Or.inl (by decide))).trans z1592) ((M1627.2 131 42 (Or.inl (by decide))).trans z1593) ((M1627.2 131 43 (Or.inl (by decide))).trans z1594) ((M1627.2 131 45 (Or.inl (by decide))).trans z1595) ((M1627.2 131 4 (Or.inl (by decide))).trans z1596) ((M1627.2 131 11 (Or.inl (by decide))).trans z1597) ((M1627.2 133 332 (Or.inr (ixne r1621 rfl))).trans z1598) (cp_step x1600 M1627 (by decide) (by omega) (by omega) z1623 (by omega)) (SI_eq x1601 (fun j => ((M1627.2 135 j (Or.inl (by decide))).trans rfl)) (fun j => ((M1627.2 148 j (Or.inl (by decide))).trans rfl)) ((M1627.2 131 41 (Or.inl (by decide))).trans rfl) ((M1627.2 131 42 (Or.inl (by decide))).trans rfl) ((M1627.2 131 43 (Or.inl (by decide))).trans rfl) ((M1627.2 131 45 (Or.inl (by decide))).trans rfl)) (lv_sub hl [1, 0] rfl) (by omega)
        exact L1599 _ t539 _ _ _ v544 X541 I542 F543 (R_of r546 rfl) ((M540.2 131 0 (Or.inl (by decide))).trans z510) ((M540.2 131 2 (Or.inl (by decide))).trans z511) ((M540.2 131 41 (Or.inl (by decide))).trans z514) ((M540.2 131 42 (Or.inl (by decide))).trans z517) ((M540.2 131 43 (Or.inl (by decide))).trans z520) ((M540.2 131 45 (Or.inl (by decide))).trans z523) ((M540.2 131 4 (Or.inl (by decide))).trans z526) ((M540.2 131 11 (Or.inl (by decide))).trans z529) (zc (by omega) M540.1) (fun j hj => by exfalso; omega) (SI_eq x531 (fun j => ((M540.2 135 j (Or.inl (by decide))).trans rfl)) (fun j => ((M540.2 148 j (Or.inl (by decide))).trans rfl)) ((M540.2 131 41 (Or.inl (by decide))).trans rfl) ((M540.2 131 42 (Or.inl (by decide))).trans rfl) ((M540.2 131 43 (Or.inl (by decide))).trans rfl) ((M540.2 131 45 (Or.inl (by decide))).trans rfl)) (lv_sub hl [1, 0] rfl) (Nat.lt_succ_self _)
      ·
        have r1637 : R (1) (1) i504 := ⟨by omega, by omega⟩
        refine r_aload_n S dX12_sentence_52 rfl (lv_at hl 0 rfl) ?_
        refine r_geti (K := 38) S X509 (Nat.le_of_ble_eq_true rfl) rfl lk12_422_10 (fun _ => ⟨_, rfl, rfl⟩) z523 dX12_sentence_53 ?_
        refine r_if_eq (tgt := 101) S dX12_sentence_56 (by decide) (fun c1638 => ?_) (fun c1638 => ?_)
        ·
          have r1639 : R (0) (0) f521 := ⟨by omega, by omega⟩
          refine r_aload_n S dX12_sentence_101 rfl (lv_at hl 0 rfl) ?_
          refine r_geti (K := 38) S X509 (Nat.le_of_ble_eq_true rfl) rfl lk12_422_10 (fun _ => ⟨_, rfl, rfl⟩) z523 dX12_sentence_102 ?_
          refine r_if_eq (tgt := 118) S dX12_sentence_105 (by decide) (fun c1640 => ?_) (fun c1640 => ?_)
          ·
            refine r_aload_n S dX12_sentence_118 rfl (lv_at hl 0 rfl) ?_
            refine r_ki (q_V (As := []) (rest := []) (K := 38) (ci := 10) S X509 (c_X12_operand l G t506 I507 (by rw [z523]; exact R_of r1639 rfl) x531) ck12_434 (Nat.le_of_ble_eq_true rfl) rfl (fun _ => ⟨_, rfl⟩) ⟨_, _, rfl⟩ ⟨Nat.le_of_ble_eq_true rfl, Nat.le_of_ble_eq_true rfl⟩ rfl hl.1 rfl (Nat.le_of_ble_eq_true rfl) dX12_sentence_119 ⟨Nat.le_refl 0, Nat.le_refl 0⟩) X509 (fun v1644 t1643 H lc q1641 X1642 => ?_)
            unfold po_X12_operand at q1641
            obtain ⟨q1645, q1646, q1647, q1648, q1649, q1650, q1651, q1652, q1653, q1654, q1655, q1656, q1657⟩ := q1641
            have F1658 : Fr [(131, 0), (131, 15), (131, 16), (131, 4), (131, 11), (131, 12), (131, 13), (131, 14), (131, 2), (131, 3), (131, 5), (131, 41), (131, 42), (131, 43), (131, 44), (131, 45)] [135, 148, 133] τ t1643 := Fr_call F508 q1646 (by decide)
            obtain ⟨v1659, z1660⟩ : ∃ x, t1643 131 4 = x := ⟨_, rfl⟩
            rw [z1660] at q1648
            obtain ⟨v1661, z1662⟩ : ∃ x, t1643 131 11 = x := ⟨_, rfl⟩
            rw [z1662] at q1649
            have e1663 := congrArg Int32.toInt z526
            have e1664 := congrArg Int32.toInt z1660
            have e1665 := congrArg Int32.toInt z526
            have e1666 := congrArg Int32.toInt z1660
            have e1667 := congrArg Int32.toInt z529
            have e1668 := congrArg Int32.toInt z1662
            have e1669 := congrArg Int32.toInt z529
            have e1670 := congrArg Int32.toInt z1662
            obtain ⟨v1671, z1672⟩ : ∃ x, t1643 131 41 = x := ⟨_, rfl⟩
            rw [z1672] at q1653
            obtain ⟨v1673, z1674⟩ : ∃ x, t1643 131 42 = x := ⟨_, rfl⟩
            rw [z1674] at q1654
            obtain ⟨v1675, z1676⟩ : ∃ x, t1643 131 43 = x := ⟨_, rfl⟩
            rw [z1676] at q1655
            obtain ⟨v1677, z1678⟩ : ∃ x, t1643 131 45 = x := ⟨_, rfl⟩
            rw [z1678] at q1656
            refine r_if_ne (tgt := 48) S dX12_sentence_122 (by decide) (fun c1679 => ?_) (fun c1679 => ?_)
            ·
              have r1680 : R (1) (1) v1644 := ⟨by omega, by omega⟩
              exact ih533 t1643 _ _ _ i504 v1671 v1673 v1675 v1677 v1659 v1661 X1642 q1645 F1658 (R_of r1637 rfl) ((q1646 131 0 (by decide)).trans z510) ((q1646 131 2 (by decide)).trans z511) z1672 ⟨by omega, by omega⟩ z1674 ⟨by omega, by omega⟩ z1676 ⟨by omega, by omega⟩ z1678 ⟨by omega, by omega⟩ z1660 ⟨by omega, by omega⟩ z1662 ⟨by omega, by omega⟩ (q1657 (by omega)) (PF_eq x532 (fun j _ => ((q1646 133 j (by simp [fz])).trans rfl))) (lv_sub hl [0, 1] rfl) (by omega)
            ·
              have r1681 : R (0) (0) v1644 := ⟨by omega, by omega⟩
              refine r_iconst S dX12_sentence_125 (by decide) (fun v1682 z1683 => ?_)
              have r1684 := R_eq z1683
              refine r_aload_n S dX12_sentence_126 rfl (lv_at hl 0 rfl) ?_
              refine r_getn (K := 38) S X1642 (Nat.le_of_ble_eq_true rfl) rfl lk12_177_10 (fun _ => ⟨_, rfl, rfl⟩) dX12_sentence_127 (fun v1685 z1686 => ?_)
              have r1688 := R_any v1685
              refine r_isub S dX12_sentence_130 (fun v1689 z1690 => ?_)
              obtain ⟨e1691, r1692⟩ := i_sub (lo := -2147483648) (hi := 2147483647) z1690 r1684 r1688 rfl
              exact r_ret S hr hlk X1642 ⟨q1645, F1658, (by rw [((q1646 131 2 (by decide)).trans z511)]; exact R_of q17 rfl), (PF_eq x532 (fun j _ => ((q1646 133 j (by simp [fz])).trans rfl)))⟩ rfl dX12_sentence_131
          ·
            exfalso; omega
        ·
          have r1693 : R (1) (1) f521 := ⟨by omega, by omega⟩
          refine r_aload_n S dX12_sentence_59 rfl (lv_at hl 0 rfl) ?_
          refine r_geti (K := 38) S X509 (Nat.le_of_ble_eq_true rfl) rfl lk12_157_10 (fun _ => ⟨_, rfl, rfl⟩) z529 dX12_sentence_60 ?_
          refine r_if_ne (tgt := 101) S dX12_sentence_63 (by decide) (fun c1694 => ?_) (fun c1694 => ?_)
          ·
            have r1695 : R (1) (4) f527 := ⟨by omega, by omega⟩
            refine r_aload_n S dX12_sentence_101 rfl (lv_at hl 0 rfl) ?_
            refine r_geti (K := 38) S X509 (Nat.le_of_ble_eq_true rfl) rfl lk12_422_10 (fun _ => ⟨_, rfl, rfl⟩) z523 dX12_sentence_102 ?_
            refine r_if_eq (tgt := 118) S dX12_sentence_105 (by decide) (fun c1696 => ?_) (fun c1696 => ?_)
            ·
              exfalso; omega
            ·
              refine r_aload_n S dX12_sentence_108 rfl (lv_at hl 0 rfl) ?_
              refine r_ki (q_V (As := []) (rest := []) (K := 38) (ci := 10) S X509 (c_X12_behind l G t506 I507 (by rw [z523]; exact R_of r1693 rfl) x531) ck12_431 (Nat.le_of_ble_eq_true rfl) rfl (fun _ => ⟨_, rfl⟩) ⟨_, _, rfl⟩ ⟨Nat.le_of_ble_eq_true rfl, Nat.le_of_ble_eq_true rfl⟩ rfl hl.1 rfl (Nat.le_of_ble_eq_true rfl) dX12_sentence_109 ⟨Nat.le_refl 0, Nat.le_refl 0⟩) X509 (fun v1700 t1699 H lc q1697 X1698 => ?_)
              unfold po_X12_behind at q1697
              obtain ⟨q1701, q1702, q1703, q1704, q1705, q1706, q1707, q1708, q1709, q1710, q1711, q1712, q1713⟩ := q1697
              have F1714 : Fr [(131, 0), (131, 15), (131, 16), (131, 4), (131, 11), (131, 12), (131, 13), (131, 14), (131, 2), (131, 3), (131, 5), (131, 41), (131, 42), (131, 43), (131, 44), (131, 45)] [135, 148, 133] τ t1699 := Fr_call F508 q1702 (by decide)
              obtain ⟨v1715, z1716⟩ : ∃ x, t1699 131 4 = x := ⟨_, rfl⟩
              rw [z1716] at q1704
              obtain ⟨v1717, z1718⟩ : ∃ x, t1699 131 11 = x := ⟨_, rfl⟩
              rw [z1718] at q1705
              have e1719 := congrArg Int32.toInt z526
              have e1720 := congrArg Int32.toInt z1716
              have e1721 := congrArg Int32.toInt z526
              have e1722 := congrArg Int32.toInt z1716
              have e1723 := congrArg Int32.toInt z529
              have e1724 := congrArg Int32.toInt z1718
              have e1725 := congrArg Int32.toInt z529
              have e1726 := congrArg Int32.toInt z1718
              obtain ⟨v1727, z1728⟩ : ∃ x, t1699 131 41 = x := ⟨_, rfl⟩
              rw [z1728] at q1709
              obtain ⟨v1729, z1730⟩ : ∃ x, t1699 131 42 = x := ⟨_, rfl⟩
              rw [z1730] at q1710
              obtain ⟨v1731, z1732⟩ : ∃ x, t1699 131 43 = x := ⟨_, rfl⟩
              rw [z1732] at q1711
              obtain ⟨v1733, z1734⟩ : ∃ x, t1699 131 45 = x := ⟨_, rfl⟩
              rw [z1734] at q1712
              refine r_if_ne (tgt := 48) S dX12_sentence_112 (by decide) (fun c1735 => ?_) (fun c1735 => ?_)
              ·
                have r1736 : R (1) (1) v1700 := ⟨by omega, by omega⟩
                exact ih533 t1699 _ _ _ i504 v1727 v1729 v1731 v1733 v1715 v1717 X1698 q1701 F1714 (R_of r1637 rfl) ((q1702 131 0 (by decide)).trans z510) ((q1702 131 2 (by decide)).trans z511) z1728 ⟨by omega, by omega⟩ z1730 ⟨by omega, by omega⟩ z1732 ⟨by omega, by omega⟩ z1734 ⟨by omega, by omega⟩ z1716 ⟨by omega, by omega⟩ z1718 ⟨by omega, by omega⟩ (q1713 (by omega)) (PF_eq x532 (fun j _ => ((q1702 133 j (by simp [fz])).trans rfl))) (lv_sub hl [0, 1] rfl) (by omega)
              ·
                have r1737 : R (0) (0) v1700 := ⟨by omega, by omega⟩
                refine r_goto (tgt := 125) S dX12_sentence_115 (by decide) ?_
                refine r_iconst S dX12_sentence_125 (by decide) (fun v1738 z1739 => ?_)
                have r1740 := R_eq z1739
                refine r_aload_n S dX12_sentence_126 rfl (lv_at hl 0 rfl) ?_
                refine r_getn (K := 38) S X1698 (Nat.le_of_ble_eq_true rfl) rfl lk12_177_10 (fun _ => ⟨_, rfl, rfl⟩) dX12_sentence_127 (fun v1741 z1742 => ?_)
                have r1744 := R_any v1741
                refine r_isub S dX12_sentence_130 (fun v1745 z1746 => ?_)
                obtain ⟨e1747, r1748⟩ := i_sub (lo := -2147483648) (hi := 2147483647) z1746 r1740 r1744 rfl
                exact r_ret S hr hlk X1698 ⟨q1701, F1714, (by rw [((q1702 131 2 (by decide)).trans z511)]; exact R_of q17 rfl), (PF_eq x532 (fun j _ => ((q1702 133 j (by simp [fz])).trans rfl)))⟩ rfl dX12_sentence_131
          ·
            have r1749 : R (0) (0) f527 := ⟨by omega, by omega⟩
            refine r_aload_n S dX12_sentence_66 rfl (lv_at hl 0 rfl) ?_
            refine r_kv (q_V (As := []) (rest := []) (K := 38) (ci := 10) S X509 (c_X12_nots l G t506 I507 (by rw [z523]; exact R_of r1693 rfl) x531) ck12_425 (Nat.le_of_ble_eq_true rfl) rfl (fun _ => ⟨_, rfl⟩) ⟨_, _, rfl⟩ ⟨Nat.le_of_ble_eq_true rfl, Nat.le_of_ble_eq_true rfl⟩ rfl hl.1 rfl (Nat.le_of_ble_eq_true rfl) dX12_sentence_67 ⟨Nat.le_refl 0, Nat.le_refl 0⟩) X509 (fun t1752 H lc q1750 X1751 => ?_)
            unfold po_X12_nots at q1750
            obtain ⟨q1753, q1754, q1755, q1756, q1757⟩ := q1750
            have F1758 : Fr [(131, 0), (131, 15), (131, 16), (131, 4), (131, 11), (131, 12), (131, 13), (131, 14), (131, 2), (131, 3), (131, 5), (131, 41), (131, 42), (131, 43), (131, 44), (131, 45)] [135, 148, 133] τ t1752 := Fr_call F508 q1754 (by decide)
            obtain ⟨v1759, z1760⟩ : ∃ x, t1752 131 41 = x := ⟨_, rfl⟩
            rw [z1760] at q1755
            obtain ⟨v1761, z1762⟩ : ∃ x, t1752 131 43 = x := ⟨_, rfl⟩
            rw [z1762] at q1756
            refine r_aload_n S dX12_sentence_70 rfl (lv_at hl 0 rfl) ?_
            refine r_bipush S dX12_sentence_71 (by decide) (fun v1763 z1764 => ?_)
            have r1765 := R_eq z1764
            refine r_kv (q_V (As := [.int v1763]) (rest := []) (K := 38) (ci := 10) S X1751 (c_X12_joins_22 l G t1752 q1753 v1763 r1765 (by rw [((q1754 131 45 (by decide)).trans z523)]; exact R_of r1693 rfl) q1757) ck12_428 (Nat.le_of_ble_eq_true rfl) rfl (fun _ => ⟨_, rfl⟩) ⟨_, _, rfl⟩ ⟨Nat.le_of_ble_eq_true rfl, Nat.le_of_ble_eq_true rfl⟩ rfl hl.1 rfl (Nat.le_of_ble_eq_true rfl) dX12_sentence_73 ⟨Nat.le_refl 0, Nat.le_refl 0⟩) X1751 (fun t1768 H lc q1766 X1767 => ?_)
            unfold po_X12_joins_22 at q1766
            obtain ⟨q1769, q1770, q1771, q1772, q1773, q1774⟩ := q1766
            have F1775 : Fr [(131, 0), (131, 15), (131, 16), (131, 4), (131, 11), (131, 12), (131, 13), (131, 14), (131, 2), (131, 3), (131, 5), (131, 41), (131, 42), (131, 43), (131, 44), (131, 45)] [135, 148, 133] τ t1768 := Fr_call F1758 q1770 (by decide)
            obtain ⟨v1776, z1777⟩ : ∃ x, t1768 131 41 = x := ⟨_, rfl⟩
            rw [z1777] at q1771
            obtain ⟨v1778, z1779⟩ : ∃ x, t1768 131 43 = x := ⟨_, rfl⟩
            rw [z1779] at q1772
            refine r_aload_n S dX12_sentence_76 rfl (lv_at hl 0 rfl) ?_
            refine r_geti (K := 38) S X1767 (Nat.le_of_ble_eq_true rfl) rfl lk12_407_10 (fun _ => ⟨_, rfl, rfl⟩) z1779 dX12_sentence_77 ?_
            refine r_if_le (tgt := 96) S dX12_sentence_80 (by decide) (fun c1780 => ?_) (fun c1780 => ?_)
            ·
              have r1781 : R (0) (0) v1778 := ⟨by omega, by omega⟩
              refine r_iconst S dX12_sentence_96 (by decide) (fun v1782 z1783 => ?_)
              have r1784 := R_eq z1783
              refine r_istore_n (lv' := [(1, .int v1782), (0, .ref (G.2.2.2.1 131))]) S dX12_sentence_97 rfl hl (by decide) rfl (fun ls hl => ?_)
              refine r_goto (tgt := 48) S dX12_sentence_98 (by decide) ?_
              exact ih533 t1768 _ _ _ v1782 v1776 f515 v1778 f521 f524 f527 X1767 q1769 F1775 (R_of r1784 rfl) ((q1770 131 0 (by decide)).trans ((q1754 131 0 (by decide)).trans z510)) ((q1770 131 2 (by decide)).trans ((q1754 131 2 (by decide)).trans z511)) z1777 ⟨by omega, by omega⟩ ((q1770 131 42 (by decide)).trans ((q1754 131 42 (by decide)).trans z517)) ⟨by omega, by omega⟩ z1779 ⟨by omega, by omega⟩ ((q1770 131 45 (by decide)).trans ((q1754 131 45 (by decide)).trans z523)) ⟨by omega, by omega⟩ ((q1770 131 4 (by decide)).trans ((q1754 131 4 (by decide)).trans z526)) ⟨by omega, by omega⟩ ((q1770 131 11 (by decide)).trans ((q1754 131 11 (by decide)).trans z529)) ⟨by omega, by omega⟩ q1773 (PF_eq x532 (fun j _ => ((q1770 133 j (by simp [fz])).trans ((q1754 133 j (by simp [fz])).trans rfl)))) (lv_sub hl [1, 0] rfl) (by omega)
            ·
              have r1785 : R (1) (45) v1778 := ⟨by omega, by omega⟩
              refine r_aload_n S dX12_sentence_83 rfl (lv_at hl 0 rfl) ?_
              refine r_iconst S dX12_sentence_84 (by decide) (fun v1786 z1787 => ?_)
              have r1788 := R_eq z1787
              refine r_ki (q_V (As := [.int v1786]) (rest := []) (K := 38) (ci := 10) S X1767 (c_X12_bad l G t1768 q1769 v1786 (R_of (lo := -2147483648) (hi := 2147483647) r1788 rfl)) ck12_183 (Nat.le_of_ble_eq_true rfl) rfl (fun _ => ⟨_, rfl⟩) ⟨_, _, rfl⟩ ⟨Nat.le_of_ble_eq_true rfl, Nat.le_of_ble_eq_true rfl⟩ rfl hl.1 rfl (Nat.le_of_ble_eq_true rfl) dX12_sentence_85 ⟨Nat.le_refl 0, Nat.le_refl 0⟩) X1767 (fun v1792 t1791 H lc q1789 X1790 => ?_)
              unfold po_X12_bad at q1789
              obtain ⟨q1793, q1794, q1795⟩ := q1789
              have F1796 : Fr [(131, 0), (131, 15), (131, 16), (131, 4), (131, 11), (131, 12), (131, 13), (131, 14), (131, 2), (131, 3), (131, 5), (131, 41), (131, 42), (131, 43), (131, 44), (131, 45)] [135, 148, 133] τ t1791 := Fr_call F1775 q1794 (by decide)
              refine r_pop S dX12_sentence_88 rfl ?_
              refine r_iconst S dX12_sentence_89 (by decide) (fun v1797 z1798 => ?_)
              have r1799 := R_eq z1798
              refine r_aload_n S dX12_sentence_90 rfl (lv_at hl 0 rfl) ?_
              refine r_getn (K := 38) S X1790 (Nat.le_of_ble_eq_true rfl) rfl lk12_177_10 (fun _ => ⟨_, rfl, rfl⟩) dX12_sentence_91 (fun v1800 z1801 => ?_)
              have r1803 := R_any v1800
              refine r_isub S dX12_sentence_94 (fun v1804 z1805 => ?_)
              obtain ⟨e1806, r1807⟩ := i_sub (lo := -2147483648) (hi := 2147483647) z1805 r1799 r1803 rfl
              exact r_ret S hr hlk X1790 ⟨q1793, F1796, (by rw [((q1794 131 2 (by decide)).trans ((q1770 131 2 (by decide)).trans ((q1754 131 2 (by decide)).trans z511)))]; exact R_of q17 rfl), (PF_eq x532 (fun j _ => ((q1794 133 j (by simp [fz])).trans ((q1770 133 j (by simp [fz])).trans ((q1754 133 j (by simp [fz])).trans rfl)))))⟩ rfl dX12_sentence_95
  exact L530 _ t71 _ _ _ v86 v29 v37 v45 v61 v79 v81 X70 q72 F78 (R_of r88 rfl) ((q73 131 0 (by decide)).trans ((M65.2 131 0 (Or.inr (by decide))).trans ((M57.2 131 0 (Or.inr (by decide))).trans ((M49.2 131 0 (Or.inr (by decide))).trans ((M41.2 131 0 (Or.inr (by decide))).trans ((M33.2 131 0 (Or.inr (by decide))).trans ((M25.2 131 0 (Or.inr (by decide))).trans ((q16 131 0 (by decide)).trans M5.1)))))))) ((q73 131 2 (by decide)).trans ((M65.2 131 2 (Or.inr (by decide))).trans ((M57.2 131 2 (Or.inr (by decide))).trans ((M49.2 131 2 (Or.inr (by decide))).trans ((M41.2 131 2 (Or.inr (by decide))).trans ((M33.2 131 2 (Or.inr (by decide))).trans ((M25.2 131 2 (Or.inr (by decide))).trans z20))))))) ((q73 131 41 (by decide)).trans ((M65.2 131 41 (Or.inr (by decide))).trans ((M57.2 131 41 (Or.inr (by decide))).trans ((M49.2 131 41 (Or.inr (by decide))).trans ((M41.2 131 41 (Or.inr (by decide))).trans M33.1))))) ⟨by omega, by omega⟩ ((q73 131 42 (by decide)).trans ((M65.2 131 42 (Or.inr (by decide))).trans ((M57.2 131 42 (Or.inr (by decide))).trans ((M49.2 131 42 (Or.inr (by decide))).trans M41.1)))) ⟨by omega, by omega⟩ ((q73 131 43 (by decide)).trans ((M65.2 131 43 (Or.inr (by decide))).trans ((M57.2 131 43 (Or.inr (by decide))).trans M49.1))) ⟨by omega, by omega⟩ ((q73 131 45 (by decide)).trans M65.1) ⟨by omega, by omega⟩ z80 ⟨by omega, by omega⟩ z82 ⟨by omega, by omega⟩ (SI_0 ((q73 131 41 (by decide)).trans ((M65.2 131 41 (Or.inr (by decide))).trans ((M57.2 131 41 (Or.inr (by decide))).trans ((M49.2 131 41 (Or.inr (by decide))).trans ((M41.2 131 41 (Or.inr (by decide))).trans M33.1))))) ((q73 131 42 (by decide)).trans ((M65.2 131 42 (Or.inr (by decide))).trans ((M57.2 131 42 (Or.inr (by decide))).trans ((M49.2 131 42 (Or.inr (by decide))).trans M41.1)))) ((q73 131 43 (by decide)).trans ((M65.2 131 43 (Or.inr (by decide))).trans ((M57.2 131 43 (Or.inr (by decide))).trans M49.1))) ((q73 131 45 (by decide)).trans M65.1) (by omega) (by omega) (by omega) (by omega)) (PF_eq hp_0 (fun j _ => ((q73 133 j (by simp [fz])).trans ((M65.2 133 j (Or.inl (by decide))).trans ((M57.2 133 j (Or.inl (by decide))).trans ((M49.2 133 j (Or.inl (by decide))).trans ((M41.2 133 j (Or.inl (by decide))).trans ((M33.2 133 j (Or.inl (by decide))).trans ((M25.2 133 j (Or.inl (by decide))).trans ((q16 133 j (by simp [fz])).trans ((M5.2 133 j (Or.inl (by decide))).trans rfl))))))))))) (lv_sub hl [1, 0] rfl) (Nat.lt_succ_self _)
def po_X12_isLeaf (τ : Tau)  (a0 a1 a2 a3 : Int32) (r : Int32) (u : Tau) : Prop := u = τ ∧ R (0) (1) r
set_option maxHeartbeats 4000000 in
set_option maxRecDepth 100000 in
theorem c_X12_isLeaf (l : Launch) (G : Gx) (τ : Tau) (hI : Inv τ) (a0 : Int32) (a1 : Int32) (a2 : Int32) (a3 : Int32) (h_a0 : R (0) (9) a0) (h_a1 : R (-2147483648) (2147483647) a1) (h_a2 : R (-2147483648) (2147483647) a2) (h_a3 : R (-2147483648) (2147483647) a3) (hp_0 : (a1.toInt = 4 ∨ a1.toInt = 5 → 0 ≤ a3.toInt ∧ a3.toInt ≤ 8)) : Ci l G yX12_isLeaf cX12_isLeaf 7 (some .boolean) 3 66 [.ref (G.2.2.2.1 131), .int a0, .int a1, .int a2, .int a3] τ (po_X12_isLeaf τ  a0 a1 a2 a3) := by
  unfold Ci
  refine C_of (own := RX12) (by decide) rfl (Nat.le_of_ble_eq_true rfl) ?_
  intro p e s m below meth c ls S hr hlk X hl
  have hl : lv_has ls 7 [(0, .ref (G.2.2.2.1 131)), (1, .int a0), (2, .int a1), (3, .int a2), (4, .int a3)] := hl
  refine r_iload_n S dX12_isLeaf_0 rfl (lv_at hl 2 rfl) ?_
  rcases (show (a1.toInt < 0 ∨ 5 < a1.toInt) ∨ a1.toInt = 0 ∨ a1.toInt = 1 ∨ a1.toInt = 2 ∨ a1.toInt = 3 ∨ a1.toInt = 4 ∨ a1.toInt = 5 by omega) with c1 | c1 | c1 | c1 | c1 | c1 | c1
  ·
    refine lv_tableOut (tgt := 133) S.1.1 S.1.2.1 dX12_isLeaf_1 c1 (by decide) ?_
    refine r_aload_n S dX12_isLeaf_133 rfl (lv_at hl 0 rfl) ?_
    refine r_get (K := 38) (v := .ref (G.2.2.2.1 133)) S X (Nat.le_of_ble_eq_true rfl) rfl lk12_33_10 (fun _ => ⟨_, rfl, rfl⟩) dX12_isLeaf_134 ?_
    refine r_iconst S dX12_isLeaf_137 (by decide) (fun v2 z3 => ?_)
    have r4 := R_eq z3
    refine r_aldn (n := 513) (K := 40) S X (Nat.le_of_ble_eq_true rfl) rfl (fun _ => rfl) (ix_of r4 rfl) dX12_isLeaf_138 (fun v5 z6 => ?_)
    have r7 : R (0) (9) v5 := rds (K := 40) (a := 0) (n := 1) hI rfl z6 (R_of r4 rfl) (by decide +kernel)
    refine r_if_ne (tgt := 146) S dX12_isLeaf_139 (by decide) (fun c8 => ?_) (fun c8 => ?_)
    ·
      have r9 : R (1) (9) v5 := ⟨by omega, by omega⟩
      refine r_aload_n S dX12_isLeaf_146 rfl (lv_at hl 0 rfl) ?_
      refine r_iload_n S dX12_isLeaf_147 rfl (lv_at hl 1 rfl) ?_
      refine r_aload_n S dX12_isLeaf_148 rfl (lv_at hl 0 rfl) ?_
      refine r_get (K := 38) (v := .ref (G.2.2.2.1 133)) S X (Nat.le_of_ble_eq_true rfl) rfl lk12_33_10 (fun _ => ⟨_, rfl, rfl⟩) dX12_isLeaf_149 ?_
      refine r_bipush S dX12_isLeaf_152 (by decide) (fun v10 z11 => ?_)
      have r12 := R_eq z11
      refine r_aldn (n := 513) (K := 40) S X (Nat.le_of_ble_eq_true rfl) rfl (fun _ => rfl) (ix_of r12 rfl) dX12_isLeaf_154 (fun v13 z14 => ?_)
      have r15 : R (0) (8) v13 := rds (K := 40) (a := 126) (n := 1) hI rfl z14 (R_of r12 rfl) (by decide +kernel)
      refine r_ki (q_V (As := [.int a0, .int v13]) (rest := []) (K := 38) (ci := 10) S X (c_X12_saysOf l G τ hI a0 v13 h_a0 r15) ck12_269 (Nat.le_of_ble_eq_true rfl) rfl (fun _ => ⟨_, rfl⟩) ⟨_, _, rfl⟩ ⟨Nat.le_of_ble_eq_true rfl, Nat.le_of_ble_eq_true rfl⟩ rfl hl.1 rfl (Nat.le_of_ble_eq_true rfl) dX12_isLeaf_155 ⟨Nat.le_refl 0, Nat.le_refl 0⟩) X (fun v19 t18 H lc q16 X17 => ?_)
      unfold po_X12_saysOf at q16
      obtain ⟨q20, q21⟩ := q16
      rw [q20] at X17
      refine r_ki (q_S (As := [.int v19]) (rest := []) S X17 (c_X12_sizeOf_9 l G τ hI v19 q21) ck12_275 ⟨Nat.le_of_ble_eq_true rfl, Nat.le_of_ble_eq_true rfl⟩ rfl hl.1 rfl (Nat.le_of_ble_eq_true rfl) dX12_isLeaf_158 ⟨Nat.le_refl 0, Nat.le_refl 0⟩) X17 (fun v25 t24 H lc q22 X23 => ?_)
      unfold po_X12_sizeOf_9 at q22
      obtain ⟨q26, q27⟩ := q22
      rw [q26] at X23
      refine r_istore (lv' := [(5, .int v25), (0, .ref (G.2.2.2.1 131)), (1, .int a0), (2, .int a1), (3, .int a2), (4, .int a3)]) S dX12_isLeaf_161 hl (by decide) rfl (fun ls hl => ?_)
      refine r_iload_n S dX12_isLeaf_163 rfl (lv_at hl 3 rfl) ?_
      refine r_bipush S dX12_isLeaf_164 (by decide) (fun v28 z29 => ?_)
      have r30 := R_eq z29
      refine r_icmp_ne (tgt := 174) S dX12_isLeaf_166 (by decide) (fun c31 => ?_) (fun c31 => ?_)
      ·
        refine r_iload_n S dX12_isLeaf_174 rfl (lv_at hl 3 rfl) ?_
        refine r_bipush S dX12_isLeaf_175 (by decide) (fun v32 z33 => ?_)
        have r34 := R_eq z33
        refine r_icmp_ne (tgt := 191) S dX12_isLeaf_177 (by decide) (fun c35 => ?_) (fun c35 => ?_)
        ·
          refine r_iload_n S dX12_isLeaf_191 rfl (lv_at hl 3 rfl) ?_
          refine r_bipush S dX12_isLeaf_192 (by decide) (fun v36 z37 => ?_)
          have r38 := R_eq z37
          refine r_icmp_ne (tgt := 210) S dX12_isLeaf_194 (by decide) (fun c39 => ?_) (fun c39 => ?_)
          ·
            refine r_iload_n S dX12_isLeaf_210 rfl (lv_at hl 2 rfl) ?_
            refine r_istore (lv' := [(6, .int a0), (5, .int v25), (0, .ref (G.2.2.2.1 131)), (1, .int a0), (2, .int a1), (3, .int a2), (4, .int a3)]) S dX12_isLeaf_211 hl (by decide) rfl (fun ls hl => ?_)
            refine r_iload_n S dX12_isLeaf_213 rfl (lv_at hl 5 rfl) ?_
            refine r_bipush S dX12_isLeaf_214 (by decide) (fun v40 z41 => ?_)
            have r42 := R_eq z41
            refine r_icmp_ne (tgt := 234) S dX12_isLeaf_216 (by decide) (fun c43 => ?_) (fun c43 => ?_)
            ·
              refine r_iload_n S dX12_isLeaf_234 rfl (lv_at hl 5 rfl) ?_
              refine r_bipush S dX12_isLeaf_235 (by decide) (fun v44 z45 => ?_)
              have r46 := R_eq z45
              refine r_icmp_ne (tgt := 255) S dX12_isLeaf_237 (by decide) (fun c47 => ?_) (fun c47 => ?_)
              ·
                refine r_iload S dX12_isLeaf_255 (lv_at hl 0 rfl) ?_
                refine r_iload S dX12_isLeaf_257 (lv_at hl 6 rfl) ?_
                refine r_icmp_le (tgt := 266) S dX12_isLeaf_259 (by decide) (fun c48 => ?_) (fun c48 => ?_)
                ·
                  have r49 : R (0) (2147483647) a3 := ⟨by omega, by omega⟩
                  refine r_iconst S dX12_isLeaf_266 (by decide) (fun v50 z51 => ?_)
                  have r52 := R_eq z51
                  exact r_ret S hr hlk X23 ⟨rfl, (R_of r52 rfl)⟩ (nr_bool (R_of (lo := 0) (hi := 1) r52 rfl)) dX12_isLeaf_267
                ·
                  have r53 : R (-2147483648) (8) a3 := ⟨by omega, by omega⟩
                  refine r_iconst S dX12_isLeaf_262 (by decide) (fun v54 z55 => ?_)
                  have r56 := R_eq z55
                  refine r_goto (tgt := 267) S dX12_isLeaf_263 (by decide) ?_
                  exact r_ret S hr hlk X23 ⟨rfl, (R_of r56 rfl)⟩ (nr_bool (R_of (lo := 0) (hi := 1) r56 rfl)) dX12_isLeaf_267
              ·
                have r57 : R (61) (61) a2 := ⟨by omega, by omega⟩
                refine r_iload S dX12_isLeaf_240 (lv_at hl 0 rfl) ?_
                refine r_iload S dX12_isLeaf_242 (lv_at hl 6 rfl) ?_
                refine r_icmp_ne (tgt := 251) S dX12_isLeaf_244 (by decide) (fun c58 => ?_) (fun c58 => ?_)
                ·
                  refine r_iconst S dX12_isLeaf_251 (by decide) (fun v59 z60 => ?_)
                  have r61 := R_eq z60
                  refine r_goto (tgt := 267) S dX12_isLeaf_252 (by decide) ?_
                  exact r_ret S hr hlk X23 ⟨rfl, (R_of r61 rfl)⟩ (nr_bool (R_of (lo := 0) (hi := 1) r61 rfl)) dX12_isLeaf_267
                ·
                  have r62 : R (0) (9) a3 := ⟨by omega, by omega⟩
                  refine r_iconst S dX12_isLeaf_247 (by decide) (fun v63 z64 => ?_)
                  have r65 := R_eq z64
                  refine r_goto (tgt := 267) S dX12_isLeaf_248 (by decide) ?_
                  exact r_ret S hr hlk X23 ⟨rfl, (R_of r65 rfl)⟩ (nr_bool (R_of (lo := 0) (hi := 1) r65 rfl)) dX12_isLeaf_267
            ·
              have r66 : R (60) (60) a2 := ⟨by omega, by omega⟩
              refine r_iload S dX12_isLeaf_219 (lv_at hl 0 rfl) ?_
              refine r_iload S dX12_isLeaf_221 (lv_at hl 6 rfl) ?_
              refine r_icmp_ge (tgt := 230) S dX12_isLeaf_223 (by decide) (fun c67 => ?_) (fun c67 => ?_)
              ·
                have r68 : R (-2147483648) (9) a3 := ⟨by omega, by omega⟩
                refine r_iconst S dX12_isLeaf_230 (by decide) (fun v69 z70 => ?_)
                have r71 := R_eq z70
                refine r_goto (tgt := 267) S dX12_isLeaf_231 (by decide) ?_
                exact r_ret S hr hlk X23 ⟨rfl, (R_of r71 rfl)⟩ (nr_bool (R_of (lo := 0) (hi := 1) r71 rfl)) dX12_isLeaf_267
              ·
                have r72 : R (1) (2147483647) a3 := ⟨by omega, by omega⟩
                refine r_iconst S dX12_isLeaf_226 (by decide) (fun v73 z74 => ?_)
                have r75 := R_eq z74
                refine r_goto (tgt := 267) S dX12_isLeaf_227 (by decide) ?_
                exact r_ret S hr hlk X23 ⟨rfl, (R_of r75 rfl)⟩ (nr_bool (R_of (lo := 0) (hi := 1) r75 rfl)) dX12_isLeaf_267
          ·
            have r76 : R (8) (8) a1 := ⟨by omega, by omega⟩
            refine r_aload_n S dX12_isLeaf_197 rfl (lv_at hl 1 rfl) ?_
            refine r_get (K := 38) (v := .ref (G.2.2.2.1 133)) S X23 (Nat.le_of_ble_eq_true rfl) rfl lk12_33_10 (fun _ => ⟨_, rfl, rfl⟩) dX12_isLeaf_198 ?_
            refine r_sipush S dX12_isLeaf_201 (by decide) (fun v77 z78 => ?_)
            have r79 := R_eq z78
            refine r_iload_n S dX12_isLeaf_204 rfl (lv_at hl 2 rfl) ?_
            refine r_iadd S dX12_isLeaf_205 (fun v80 z81 => ?_)
            obtain ⟨e82, r83⟩ := i_add (lo := 132) (hi := 141) z81 r79 h_a0 rfl
            refine r_aldn (n := 513) (K := 40) S X23 (Nat.le_of_ble_eq_true rfl) rfl (fun _ => rfl) (ix_of r83 rfl) dX12_isLeaf_206 (fun v84 z85 => ?_)
            have r87 := R_any v84
            have g88 : Rg 40 v80.toNatClampNeg v84 := rd hI rfl z85
            refine r_goto (tgt := 211) S dX12_isLeaf_207 (by decide) ?_
            refine r_istore (lv' := [(6, .int v84), (5, .int v25), (0, .ref (G.2.2.2.1 131)), (1, .int a0), (2, .int a1), (3, .int a2), (4, .int a3)]) S dX12_isLeaf_211 hl (by decide) rfl (fun ls hl => ?_)
            refine r_iload_n S dX12_isLeaf_213 rfl (lv_at hl 5 rfl) ?_
            refine r_bipush S dX12_isLeaf_214 (by decide) (fun v89 z90 => ?_)
            have r91 := R_eq z90
            refine r_icmp_ne (tgt := 234) S dX12_isLeaf_216 (by decide) (fun c92 => ?_) (fun c92 => ?_)
            ·
              refine r_iload_n S dX12_isLeaf_234 rfl (lv_at hl 5 rfl) ?_
              refine r_bipush S dX12_isLeaf_235 (by decide) (fun v93 z94 => ?_)
              have r95 := R_eq z94
              refine r_icmp_ne (tgt := 255) S dX12_isLeaf_237 (by decide) (fun c96 => ?_) (fun c96 => ?_)
              ·
                refine r_iload S dX12_isLeaf_255 (lv_at hl 0 rfl) ?_
                refine r_iload S dX12_isLeaf_257 (lv_at hl 6 rfl) ?_
                refine r_icmp_le (tgt := 266) S dX12_isLeaf_259 (by decide) (fun c97 => ?_) (fun c97 => ?_)
                ·
                  refine r_iconst S dX12_isLeaf_266 (by decide) (fun v98 z99 => ?_)
                  have r100 := R_eq z99
                  exact r_ret S hr hlk X23 ⟨rfl, (R_of r100 rfl)⟩ (nr_bool (R_of (lo := 0) (hi := 1) r100 rfl)) dX12_isLeaf_267
                ·
                  have r101 : R (-2147483648) (2147483646) a3 := ⟨by omega, by omega⟩
                  have r102 : R (-2147483647) (2147483647) v84 := ⟨by omega, by omega⟩
                  refine r_iconst S dX12_isLeaf_262 (by decide) (fun v103 z104 => ?_)
                  have r105 := R_eq z104
                  refine r_goto (tgt := 267) S dX12_isLeaf_263 (by decide) ?_
                  exact r_ret S hr hlk X23 ⟨rfl, (R_of r105 rfl)⟩ (nr_bool (R_of (lo := 0) (hi := 1) r105 rfl)) dX12_isLeaf_267
              ·
                have r106 : R (61) (61) a2 := ⟨by omega, by omega⟩
                refine r_iload S dX12_isLeaf_240 (lv_at hl 0 rfl) ?_
                refine r_iload S dX12_isLeaf_242 (lv_at hl 6 rfl) ?_
                refine r_icmp_ne (tgt := 251) S dX12_isLeaf_244 (by decide) (fun c107 => ?_) (fun c107 => ?_)
                ·
                  refine r_iconst S dX12_isLeaf_251 (by decide) (fun v108 z109 => ?_)
                  have r110 := R_eq z109
                  refine r_goto (tgt := 267) S dX12_isLeaf_252 (by decide) ?_
                  exact r_ret S hr hlk X23 ⟨rfl, (R_of r110 rfl)⟩ (nr_bool (R_of (lo := 0) (hi := 1) r110 rfl)) dX12_isLeaf_267
                ·
                  refine r_iconst S dX12_isLeaf_247 (by decide) (fun v111 z112 => ?_)
                  have r113 := R_eq z112
                  refine r_goto (tgt := 267) S dX12_isLeaf_248 (by decide) ?_
                  exact r_ret S hr hlk X23 ⟨rfl, (R_of r113 rfl)⟩ (nr_bool (R_of (lo := 0) (hi := 1) r113 rfl)) dX12_isLeaf_267
            ·
              have r114 : R (60) (60) a2 := ⟨by omega, by omega⟩
              refine r_iload S dX12_isLeaf_219 (lv_at hl 0 rfl) ?_
              refine r_iload S dX12_isLeaf_221 (lv_at hl 6 rfl) ?_
              refine r_icmp_ge (tgt := 230) S dX12_isLeaf_223 (by decide) (fun c115 => ?_) (fun c115 => ?_)
              ·
                refine r_iconst S dX12_isLeaf_230 (by decide) (fun v116 z117 => ?_)
                have r118 := R_eq z117
                refine r_goto (tgt := 267) S dX12_isLeaf_231 (by decide) ?_
                exact r_ret S hr hlk X23 ⟨rfl, (R_of r118 rfl)⟩ (nr_bool (R_of (lo := 0) (hi := 1) r118 rfl)) dX12_isLeaf_267
              ·
                have r119 : R (-2147483648) (2147483646) v84 := ⟨by omega, by omega⟩
                have r120 : R (-2147483647) (2147483647) a3 := ⟨by omega, by omega⟩
                refine r_iconst S dX12_isLeaf_226 (by decide) (fun v121 z122 => ?_)
                have r123 := R_eq z122
                refine r_goto (tgt := 267) S dX12_isLeaf_227 (by decide) ?_
                exact r_ret S hr hlk X23 ⟨rfl, (R_of r123 rfl)⟩ (nr_bool (R_of (lo := 0) (hi := 1) r123 rfl)) dX12_isLeaf_267
        ·
          have r124 : R (7) (7) a1 := ⟨by omega, by omega⟩
          refine r_aload_n S dX12_isLeaf_180 rfl (lv_at hl 1 rfl) ?_
          refine r_get (K := 38) (v := .ref (G.2.2.2.1 133)) S X23 (Nat.le_of_ble_eq_true rfl) rfl lk12_33_10 (fun _ => ⟨_, rfl, rfl⟩) dX12_isLeaf_181 ?_
          refine r_iconst S dX12_isLeaf_184 (by decide) (fun v125 z126 => ?_)
          have r127 := R_eq z126
          refine r_iload_n S dX12_isLeaf_185 rfl (lv_at hl 2 rfl) ?_
          refine r_iadd S dX12_isLeaf_186 (fun v128 z129 => ?_)
          obtain ⟨e130, r131⟩ := i_add (lo := 5) (hi := 14) z129 r127 h_a0 rfl
          refine r_aldn (n := 513) (K := 40) S X23 (Nat.le_of_ble_eq_true rfl) rfl (fun _ => rfl) (ix_of r131 rfl) dX12_isLeaf_187 (fun v132 z133 => ?_)
          have r134 : R (0) (20) v132 := rds (K := 40) (a := 5) (n := 10) hI rfl z133 (R_of r131 rfl) (by decide +kernel)
          have g135 : Rg 40 v128.toNatClampNeg v132 := rd hI rfl z133
          refine r_goto (tgt := 211) S dX12_isLeaf_188 (by decide) ?_
          refine r_istore (lv' := [(6, .int v132), (5, .int v25), (0, .ref (G.2.2.2.1 131)), (1, .int a0), (2, .int a1), (3, .int a2), (4, .int a3)]) S dX12_isLeaf_211 hl (by decide) rfl (fun ls hl => ?_)
          refine r_iload_n S dX12_isLeaf_213 rfl (lv_at hl 5 rfl) ?_
          refine r_bipush S dX12_isLeaf_214 (by decide) (fun v136 z137 => ?_)
          have r138 := R_eq z137
          refine r_icmp_ne (tgt := 234) S dX12_isLeaf_216 (by decide) (fun c139 => ?_) (fun c139 => ?_)
          ·
            refine r_iload_n S dX12_isLeaf_234 rfl (lv_at hl 5 rfl) ?_
            refine r_bipush S dX12_isLeaf_235 (by decide) (fun v140 z141 => ?_)
            have r142 := R_eq z141
            refine r_icmp_ne (tgt := 255) S dX12_isLeaf_237 (by decide) (fun c143 => ?_) (fun c143 => ?_)
            ·
              refine r_iload S dX12_isLeaf_255 (lv_at hl 0 rfl) ?_
              refine r_iload S dX12_isLeaf_257 (lv_at hl 6 rfl) ?_
              refine r_icmp_le (tgt := 266) S dX12_isLeaf_259 (by decide) (fun c144 => ?_) (fun c144 => ?_)
              ·
                have r145 : R (0) (2147483647) a3 := ⟨by omega, by omega⟩
                refine r_iconst S dX12_isLeaf_266 (by decide) (fun v146 z147 => ?_)
                have r148 := R_eq z147
                exact r_ret S hr hlk X23 ⟨rfl, (R_of r148 rfl)⟩ (nr_bool (R_of (lo := 0) (hi := 1) r148 rfl)) dX12_isLeaf_267
              ·
                have r149 : R (-2147483648) (19) a3 := ⟨by omega, by omega⟩
                refine r_iconst S dX12_isLeaf_262 (by decide) (fun v150 z151 => ?_)
                have r152 := R_eq z151
                refine r_goto (tgt := 267) S dX12_isLeaf_263 (by decide) ?_
                exact r_ret S hr hlk X23 ⟨rfl, (R_of r152 rfl)⟩ (nr_bool (R_of (lo := 0) (hi := 1) r152 rfl)) dX12_isLeaf_267
            ·
              have r153 : R (61) (61) a2 := ⟨by omega, by omega⟩
              refine r_iload S dX12_isLeaf_240 (lv_at hl 0 rfl) ?_
              refine r_iload S dX12_isLeaf_242 (lv_at hl 6 rfl) ?_
              refine r_icmp_ne (tgt := 251) S dX12_isLeaf_244 (by decide) (fun c154 => ?_) (fun c154 => ?_)
              ·
                refine r_iconst S dX12_isLeaf_251 (by decide) (fun v155 z156 => ?_)
                have r157 := R_eq z156
                refine r_goto (tgt := 267) S dX12_isLeaf_252 (by decide) ?_
                exact r_ret S hr hlk X23 ⟨rfl, (R_of r157 rfl)⟩ (nr_bool (R_of (lo := 0) (hi := 1) r157 rfl)) dX12_isLeaf_267
              ·
                have r158 : R (0) (20) a3 := ⟨by omega, by omega⟩
                refine r_iconst S dX12_isLeaf_247 (by decide) (fun v159 z160 => ?_)
                have r161 := R_eq z160
                refine r_goto (tgt := 267) S dX12_isLeaf_248 (by decide) ?_
                exact r_ret S hr hlk X23 ⟨rfl, (R_of r161 rfl)⟩ (nr_bool (R_of (lo := 0) (hi := 1) r161 rfl)) dX12_isLeaf_267
          ·
            have r162 : R (60) (60) a2 := ⟨by omega, by omega⟩
            refine r_iload S dX12_isLeaf_219 (lv_at hl 0 rfl) ?_
            refine r_iload S dX12_isLeaf_221 (lv_at hl 6 rfl) ?_
            refine r_icmp_ge (tgt := 230) S dX12_isLeaf_223 (by decide) (fun c163 => ?_) (fun c163 => ?_)
            ·
              have r164 : R (-2147483648) (20) a3 := ⟨by omega, by omega⟩
              refine r_iconst S dX12_isLeaf_230 (by decide) (fun v165 z166 => ?_)
              have r167 := R_eq z166
              refine r_goto (tgt := 267) S dX12_isLeaf_231 (by decide) ?_
              exact r_ret S hr hlk X23 ⟨rfl, (R_of r167 rfl)⟩ (nr_bool (R_of (lo := 0) (hi := 1) r167 rfl)) dX12_isLeaf_267
            ·
              have r168 : R (1) (2147483647) a3 := ⟨by omega, by omega⟩
              refine r_iconst S dX12_isLeaf_226 (by decide) (fun v169 z170 => ?_)
              have r171 := R_eq z170
              refine r_goto (tgt := 267) S dX12_isLeaf_227 (by decide) ?_
              exact r_ret S hr hlk X23 ⟨rfl, (R_of r171 rfl)⟩ (nr_bool (R_of (lo := 0) (hi := 1) r171 rfl)) dX12_isLeaf_267
      ·
        have r172 : R (6) (6) a1 := ⟨by omega, by omega⟩
        refine r_iload S dX12_isLeaf_169 (lv_at hl 0 rfl) ?_
        refine r_goto (tgt := 211) S dX12_isLeaf_171 (by decide) ?_
        refine r_istore (lv' := [(6, .int v25), (5, .int v25), (0, .ref (G.2.2.2.1 131)), (1, .int a0), (2, .int a1), (3, .int a2), (4, .int a3)]) S dX12_isLeaf_211 hl (by decide) rfl (fun ls hl => ?_)
        refine r_iload_n S dX12_isLeaf_213 rfl (lv_at hl 5 rfl) ?_
        refine r_bipush S dX12_isLeaf_214 (by decide) (fun v173 z174 => ?_)
        have r175 := R_eq z174
        refine r_icmp_ne (tgt := 234) S dX12_isLeaf_216 (by decide) (fun c176 => ?_) (fun c176 => ?_)
        ·
          refine r_iload_n S dX12_isLeaf_234 rfl (lv_at hl 5 rfl) ?_
          refine r_bipush S dX12_isLeaf_235 (by decide) (fun v177 z178 => ?_)
          have r179 := R_eq z178
          refine r_icmp_ne (tgt := 255) S dX12_isLeaf_237 (by decide) (fun c180 => ?_) (fun c180 => ?_)
          ·
            refine r_iload S dX12_isLeaf_255 (lv_at hl 0 rfl) ?_
            refine r_iload S dX12_isLeaf_257 (lv_at hl 6 rfl) ?_
            refine r_icmp_le (tgt := 266) S dX12_isLeaf_259 (by decide) (fun c181 => ?_) (fun c181 => ?_)
            ·
              have r182 : R (0) (2147483647) a3 := ⟨by omega, by omega⟩
              refine r_iconst S dX12_isLeaf_266 (by decide) (fun v183 z184 => ?_)
              have r185 := R_eq z184
              exact r_ret S hr hlk X23 ⟨rfl, (R_of r185 rfl)⟩ (nr_bool (R_of (lo := 0) (hi := 1) r185 rfl)) dX12_isLeaf_267
            ·
              have r186 : R (-2147483648) (8) a3 := ⟨by omega, by omega⟩
              refine r_iconst S dX12_isLeaf_262 (by decide) (fun v187 z188 => ?_)
              have r189 := R_eq z188
              refine r_goto (tgt := 267) S dX12_isLeaf_263 (by decide) ?_
              exact r_ret S hr hlk X23 ⟨rfl, (R_of r189 rfl)⟩ (nr_bool (R_of (lo := 0) (hi := 1) r189 rfl)) dX12_isLeaf_267
          ·
            have r190 : R (61) (61) a2 := ⟨by omega, by omega⟩
            refine r_iload S dX12_isLeaf_240 (lv_at hl 0 rfl) ?_
            refine r_iload S dX12_isLeaf_242 (lv_at hl 6 rfl) ?_
            refine r_icmp_ne (tgt := 251) S dX12_isLeaf_244 (by decide) (fun c191 => ?_) (fun c191 => ?_)
            ·
              refine r_iconst S dX12_isLeaf_251 (by decide) (fun v192 z193 => ?_)
              have r194 := R_eq z193
              refine r_goto (tgt := 267) S dX12_isLeaf_252 (by decide) ?_
              exact r_ret S hr hlk X23 ⟨rfl, (R_of r194 rfl)⟩ (nr_bool (R_of (lo := 0) (hi := 1) r194 rfl)) dX12_isLeaf_267
            ·
              have r195 : R (0) (9) a3 := ⟨by omega, by omega⟩
              refine r_iconst S dX12_isLeaf_247 (by decide) (fun v196 z197 => ?_)
              have r198 := R_eq z197
              refine r_goto (tgt := 267) S dX12_isLeaf_248 (by decide) ?_
              exact r_ret S hr hlk X23 ⟨rfl, (R_of r198 rfl)⟩ (nr_bool (R_of (lo := 0) (hi := 1) r198 rfl)) dX12_isLeaf_267
        ·
          have r199 : R (60) (60) a2 := ⟨by omega, by omega⟩
          refine r_iload S dX12_isLeaf_219 (lv_at hl 0 rfl) ?_
          refine r_iload S dX12_isLeaf_221 (lv_at hl 6 rfl) ?_
          refine r_icmp_ge (tgt := 230) S dX12_isLeaf_223 (by decide) (fun c200 => ?_) (fun c200 => ?_)
          ·
            have r201 : R (-2147483648) (9) a3 := ⟨by omega, by omega⟩
            refine r_iconst S dX12_isLeaf_230 (by decide) (fun v202 z203 => ?_)
            have r204 := R_eq z203
            refine r_goto (tgt := 267) S dX12_isLeaf_231 (by decide) ?_
            exact r_ret S hr hlk X23 ⟨rfl, (R_of r204 rfl)⟩ (nr_bool (R_of (lo := 0) (hi := 1) r204 rfl)) dX12_isLeaf_267
          ·
            have r205 : R (1) (2147483647) a3 := ⟨by omega, by omega⟩
            refine r_iconst S dX12_isLeaf_226 (by decide) (fun v206 z207 => ?_)
            have r208 := R_eq z207
            refine r_goto (tgt := 267) S dX12_isLeaf_227 (by decide) ?_
            exact r_ret S hr hlk X23 ⟨rfl, (R_of r208 rfl)⟩ (nr_bool (R_of (lo := 0) (hi := 1) r208 rfl)) dX12_isLeaf_267
    ·
      have r209 : R (0) (0) v5 := ⟨by omega, by omega⟩
      refine r_iconst S dX12_isLeaf_142 (by decide) (fun v210 z211 => ?_)
      have r212 := R_eq z211
      refine r_goto (tgt := 161) S dX12_isLeaf_143 (by decide) ?_
      refine r_istore (lv' := [(5, .int v210), (0, .ref (G.2.2.2.1 131)), (1, .int a0), (2, .int a1), (3, .int a2), (4, .int a3)]) S dX12_isLeaf_161 hl (by decide) rfl (fun ls hl => ?_)
      refine r_iload_n S dX12_isLeaf_163 rfl (lv_at hl 3 rfl) ?_
      refine r_bipush S dX12_isLeaf_164 (by decide) (fun v213 z214 => ?_)
      have r215 := R_eq z214
      refine r_icmp_ne (tgt := 174) S dX12_isLeaf_166 (by decide) (fun c216 => ?_) (fun c216 => ?_)
      ·
        refine r_iload_n S dX12_isLeaf_174 rfl (lv_at hl 3 rfl) ?_
        refine r_bipush S dX12_isLeaf_175 (by decide) (fun v217 z218 => ?_)
        have r219 := R_eq z218
        refine r_icmp_ne (tgt := 191) S dX12_isLeaf_177 (by decide) (fun c220 => ?_) (fun c220 => ?_)
        ·
          refine r_iload_n S dX12_isLeaf_191 rfl (lv_at hl 3 rfl) ?_
          refine r_bipush S dX12_isLeaf_192 (by decide) (fun v221 z222 => ?_)
          have r223 := R_eq z222
          refine r_icmp_ne (tgt := 210) S dX12_isLeaf_194 (by decide) (fun c224 => ?_) (fun c224 => ?_)
          ·
            refine r_iload_n S dX12_isLeaf_210 rfl (lv_at hl 2 rfl) ?_
            refine r_istore (lv' := [(6, .int a0), (5, .int v210), (0, .ref (G.2.2.2.1 131)), (1, .int a0), (2, .int a1), (3, .int a2), (4, .int a3)]) S dX12_isLeaf_211 hl (by decide) rfl (fun ls hl => ?_)
            refine r_iload_n S dX12_isLeaf_213 rfl (lv_at hl 5 rfl) ?_
            refine r_bipush S dX12_isLeaf_214 (by decide) (fun v225 z226 => ?_)
            have r227 := R_eq z226
            refine r_icmp_ne (tgt := 234) S dX12_isLeaf_216 (by decide) (fun c228 => ?_) (fun c228 => ?_)
            ·
              refine r_iload_n S dX12_isLeaf_234 rfl (lv_at hl 5 rfl) ?_
              refine r_bipush S dX12_isLeaf_235 (by decide) (fun v229 z230 => ?_)
              have r231 := R_eq z230
              refine r_icmp_ne (tgt := 255) S dX12_isLeaf_237 (by decide) (fun c232 => ?_) (fun c232 => ?_)
              ·
                refine r_iload S dX12_isLeaf_255 (lv_at hl 0 rfl) ?_
                refine r_iload S dX12_isLeaf_257 (lv_at hl 6 rfl) ?_
                refine r_icmp_le (tgt := 266) S dX12_isLeaf_259 (by decide) (fun c233 => ?_) (fun c233 => ?_)
                ·
                  have r234 : R (0) (2147483647) a3 := ⟨by omega, by omega⟩
                  refine r_iconst S dX12_isLeaf_266 (by decide) (fun v235 z236 => ?_)
                  have r237 := R_eq z236
                  exact r_ret S hr hlk X ⟨rfl, (R_of r237 rfl)⟩ (nr_bool (R_of (lo := 0) (hi := 1) r237 rfl)) dX12_isLeaf_267
                ·
                  have r238 : R (-2147483648) (8) a3 := ⟨by omega, by omega⟩
                  refine r_iconst S dX12_isLeaf_262 (by decide) (fun v239 z240 => ?_)
                  have r241 := R_eq z240
                  refine r_goto (tgt := 267) S dX12_isLeaf_263 (by decide) ?_
                  exact r_ret S hr hlk X ⟨rfl, (R_of r241 rfl)⟩ (nr_bool (R_of (lo := 0) (hi := 1) r241 rfl)) dX12_isLeaf_267
              ·
                have r242 : R (61) (61) a2 := ⟨by omega, by omega⟩
                refine r_iload S dX12_isLeaf_240 (lv_at hl 0 rfl) ?_
                refine r_iload S dX12_isLeaf_242 (lv_at hl 6 rfl) ?_
                refine r_icmp_ne (tgt := 251) S dX12_isLeaf_244 (by decide) (fun c243 => ?_) (fun c243 => ?_)
                ·
                  refine r_iconst S dX12_isLeaf_251 (by decide) (fun v244 z245 => ?_)
                  have r246 := R_eq z245
                  refine r_goto (tgt := 267) S dX12_isLeaf_252 (by decide) ?_
                  exact r_ret S hr hlk X ⟨rfl, (R_of r246 rfl)⟩ (nr_bool (R_of (lo := 0) (hi := 1) r246 rfl)) dX12_isLeaf_267
                ·
                  have r247 : R (0) (9) a3 := ⟨by omega, by omega⟩
                  refine r_iconst S dX12_isLeaf_247 (by decide) (fun v248 z249 => ?_)
                  have r250 := R_eq z249
                  refine r_goto (tgt := 267) S dX12_isLeaf_248 (by decide) ?_
                  exact r_ret S hr hlk X ⟨rfl, (R_of r250 rfl)⟩ (nr_bool (R_of (lo := 0) (hi := 1) r250 rfl)) dX12_isLeaf_267
            ·
              have r251 : R (60) (60) a2 := ⟨by omega, by omega⟩
              refine r_iload S dX12_isLeaf_219 (lv_at hl 0 rfl) ?_
              refine r_iload S dX12_isLeaf_221 (lv_at hl 6 rfl) ?_
              refine r_icmp_ge (tgt := 230) S dX12_isLeaf_223 (by decide) (fun c252 => ?_) (fun c252 => ?_)
              ·
                have r253 : R (-2147483648) (9) a3 := ⟨by omega, by omega⟩
                refine r_iconst S dX12_isLeaf_230 (by decide) (fun v254 z255 => ?_)
                have r256 := R_eq z255
                refine r_goto (tgt := 267) S dX12_isLeaf_231 (by decide) ?_
                exact r_ret S hr hlk X ⟨rfl, (R_of r256 rfl)⟩ (nr_bool (R_of (lo := 0) (hi := 1) r256 rfl)) dX12_isLeaf_267
              ·
                have r257 : R (1) (2147483647) a3 := ⟨by omega, by omega⟩
                refine r_iconst S dX12_isLeaf_226 (by decide) (fun v258 z259 => ?_)
                have r260 := R_eq z259
                refine r_goto (tgt := 267) S dX12_isLeaf_227 (by decide) ?_
                exact r_ret S hr hlk X ⟨rfl, (R_of r260 rfl)⟩ (nr_bool (R_of (lo := 0) (hi := 1) r260 rfl)) dX12_isLeaf_267
          ·
            have r261 : R (8) (8) a1 := ⟨by omega, by omega⟩
            refine r_aload_n S dX12_isLeaf_197 rfl (lv_at hl 1 rfl) ?_
            refine r_get (K := 38) (v := .ref (G.2.2.2.1 133)) S X (Nat.le_of_ble_eq_true rfl) rfl lk12_33_10 (fun _ => ⟨_, rfl, rfl⟩) dX12_isLeaf_198 ?_
            refine r_sipush S dX12_isLeaf_201 (by decide) (fun v262 z263 => ?_)
            have r264 := R_eq z263
            refine r_iload_n S dX12_isLeaf_204 rfl (lv_at hl 2 rfl) ?_
            refine r_iadd S dX12_isLeaf_205 (fun v265 z266 => ?_)
            obtain ⟨e267, r268⟩ := i_add (lo := 132) (hi := 141) z266 r264 h_a0 rfl
            refine r_aldn (n := 513) (K := 40) S X (Nat.le_of_ble_eq_true rfl) rfl (fun _ => rfl) (ix_of r268 rfl) dX12_isLeaf_206 (fun v269 z270 => ?_)
            have r272 := R_any v269
            have g273 : Rg 40 v265.toNatClampNeg v269 := rd hI rfl z270
            refine r_goto (tgt := 211) S dX12_isLeaf_207 (by decide) ?_
            refine r_istore (lv' := [(6, .int v269), (5, .int v210), (0, .ref (G.2.2.2.1 131)), (1, .int a0), (2, .int a1), (3, .int a2), (4, .int a3)]) S dX12_isLeaf_211 hl (by decide) rfl (fun ls hl => ?_)
            refine r_iload_n S dX12_isLeaf_213 rfl (lv_at hl 5 rfl) ?_
            refine r_bipush S dX12_isLeaf_214 (by decide) (fun v274 z275 => ?_)
            have r276 := R_eq z275
            refine r_icmp_ne (tgt := 234) S dX12_isLeaf_216 (by decide) (fun c277 => ?_) (fun c277 => ?_)
            ·
              refine r_iload_n S dX12_isLeaf_234 rfl (lv_at hl 5 rfl) ?_
              refine r_bipush S dX12_isLeaf_235 (by decide) (fun v278 z279 => ?_)
              have r280 := R_eq z279
              refine r_icmp_ne (tgt := 255) S dX12_isLeaf_237 (by decide) (fun c281 => ?_) (fun c281 => ?_)
              ·
                refine r_iload S dX12_isLeaf_255 (lv_at hl 0 rfl) ?_
                refine r_iload S dX12_isLeaf_257 (lv_at hl 6 rfl) ?_
                refine r_icmp_le (tgt := 266) S dX12_isLeaf_259 (by decide) (fun c282 => ?_) (fun c282 => ?_)
                ·
                  refine r_iconst S dX12_isLeaf_266 (by decide) (fun v283 z284 => ?_)
                  have r285 := R_eq z284
                  exact r_ret S hr hlk X ⟨rfl, (R_of r285 rfl)⟩ (nr_bool (R_of (lo := 0) (hi := 1) r285 rfl)) dX12_isLeaf_267
                ·
                  have r286 : R (-2147483648) (2147483646) a3 := ⟨by omega, by omega⟩
                  have r287 : R (-2147483647) (2147483647) v269 := ⟨by omega, by omega⟩
                  refine r_iconst S dX12_isLeaf_262 (by decide) (fun v288 z289 => ?_)
                  have r290 := R_eq z289
                  refine r_goto (tgt := 267) S dX12_isLeaf_263 (by decide) ?_
                  exact r_ret S hr hlk X ⟨rfl, (R_of r290 rfl)⟩ (nr_bool (R_of (lo := 0) (hi := 1) r290 rfl)) dX12_isLeaf_267
              ·
                have r291 : R (61) (61) a2 := ⟨by omega, by omega⟩
                refine r_iload S dX12_isLeaf_240 (lv_at hl 0 rfl) ?_
                refine r_iload S dX12_isLeaf_242 (lv_at hl 6 rfl) ?_
                refine r_icmp_ne (tgt := 251) S dX12_isLeaf_244 (by decide) (fun c292 => ?_) (fun c292 => ?_)
                ·
                  refine r_iconst S dX12_isLeaf_251 (by decide) (fun v293 z294 => ?_)
                  have r295 := R_eq z294
                  refine r_goto (tgt := 267) S dX12_isLeaf_252 (by decide) ?_
                  exact r_ret S hr hlk X ⟨rfl, (R_of r295 rfl)⟩ (nr_bool (R_of (lo := 0) (hi := 1) r295 rfl)) dX12_isLeaf_267
                ·
                  refine r_iconst S dX12_isLeaf_247 (by decide) (fun v296 z297 => ?_)
                  have r298 := R_eq z297
                  refine r_goto (tgt := 267) S dX12_isLeaf_248 (by decide) ?_
                  exact r_ret S hr hlk X ⟨rfl, (R_of r298 rfl)⟩ (nr_bool (R_of (lo := 0) (hi := 1) r298 rfl)) dX12_isLeaf_267
            ·
              have r299 : R (60) (60) a2 := ⟨by omega, by omega⟩
              refine r_iload S dX12_isLeaf_219 (lv_at hl 0 rfl) ?_
              refine r_iload S dX12_isLeaf_221 (lv_at hl 6 rfl) ?_
              refine r_icmp_ge (tgt := 230) S dX12_isLeaf_223 (by decide) (fun c300 => ?_) (fun c300 => ?_)
              ·
                refine r_iconst S dX12_isLeaf_230 (by decide) (fun v301 z302 => ?_)
                have r303 := R_eq z302
                refine r_goto (tgt := 267) S dX12_isLeaf_231 (by decide) ?_
                exact r_ret S hr hlk X ⟨rfl, (R_of r303 rfl)⟩ (nr_bool (R_of (lo := 0) (hi := 1) r303 rfl)) dX12_isLeaf_267
              ·
                have r304 : R (-2147483648) (2147483646) v269 := ⟨by omega, by omega⟩
                have r305 : R (-2147483647) (2147483647) a3 := ⟨by omega, by omega⟩
                refine r_iconst S dX12_isLeaf_226 (by decide) (fun v306 z307 => ?_)
                have r308 := R_eq z307
                refine r_goto (tgt := 267) S dX12_isLeaf_227 (by decide) ?_
                exact r_ret S hr hlk X ⟨rfl, (R_of r308 rfl)⟩ (nr_bool (R_of (lo := 0) (hi := 1) r308 rfl)) dX12_isLeaf_267
        ·
          have r309 : R (7) (7) a1 := ⟨by omega, by omega⟩
          refine r_aload_n S dX12_isLeaf_180 rfl (lv_at hl 1 rfl) ?_
          refine r_get (K := 38) (v := .ref (G.2.2.2.1 133)) S X (Nat.le_of_ble_eq_true rfl) rfl lk12_33_10 (fun _ => ⟨_, rfl, rfl⟩) dX12_isLeaf_181 ?_
          refine r_iconst S dX12_isLeaf_184 (by decide) (fun v310 z311 => ?_)
          have r312 := R_eq z311
          refine r_iload_n S dX12_isLeaf_185 rfl (lv_at hl 2 rfl) ?_
          refine r_iadd S dX12_isLeaf_186 (fun v313 z314 => ?_)
          obtain ⟨e315, r316⟩ := i_add (lo := 5) (hi := 14) z314 r312 h_a0 rfl
          refine r_aldn (n := 513) (K := 40) S X (Nat.le_of_ble_eq_true rfl) rfl (fun _ => rfl) (ix_of r316 rfl) dX12_isLeaf_187 (fun v317 z318 => ?_)
          have r319 : R (0) (20) v317 := rds (K := 40) (a := 5) (n := 10) hI rfl z318 (R_of r316 rfl) (by decide +kernel)
          have g320 : Rg 40 v313.toNatClampNeg v317 := rd hI rfl z318
          refine r_goto (tgt := 211) S dX12_isLeaf_188 (by decide) ?_
          refine r_istore (lv' := [(6, .int v317), (5, .int v210), (0, .ref (G.2.2.2.1 131)), (1, .int a0), (2, .int a1), (3, .int a2), (4, .int a3)]) S dX12_isLeaf_211 hl (by decide) rfl (fun ls hl => ?_)
          refine r_iload_n S dX12_isLeaf_213 rfl (lv_at hl 5 rfl) ?_
          refine r_bipush S dX12_isLeaf_214 (by decide) (fun v321 z322 => ?_)
          have r323 := R_eq z322
          refine r_icmp_ne (tgt := 234) S dX12_isLeaf_216 (by decide) (fun c324 => ?_) (fun c324 => ?_)
          ·
            refine r_iload_n S dX12_isLeaf_234 rfl (lv_at hl 5 rfl) ?_
            refine r_bipush S dX12_isLeaf_235 (by decide) (fun v325 z326 => ?_)
            have r327 := R_eq z326
            refine r_icmp_ne (tgt := 255) S dX12_isLeaf_237 (by decide) (fun c328 => ?_) (fun c328 => ?_)
            ·
              refine r_iload S dX12_isLeaf_255 (lv_at hl 0 rfl) ?_
              refine r_iload S dX12_isLeaf_257 (lv_at hl 6 rfl) ?_
              refine r_icmp_le (tgt := 266) S dX12_isLeaf_259 (by decide) (fun c329 => ?_) (fun c329 => ?_)
              ·
                have r330 : R (0) (2147483647) a3 := ⟨by omega, by omega⟩
                refine r_iconst S dX12_isLeaf_266 (by decide) (fun v331 z332 => ?_)
                have r333 := R_eq z332
                exact r_ret S hr hlk X ⟨rfl, (R_of r333 rfl)⟩ (nr_bool (R_of (lo := 0) (hi := 1) r333 rfl)) dX12_isLeaf_267
              ·
                have r334 : R (-2147483648) (19) a3 := ⟨by omega, by omega⟩
                refine r_iconst S dX12_isLeaf_262 (by decide) (fun v335 z336 => ?_)
                have r337 := R_eq z336
                refine r_goto (tgt := 267) S dX12_isLeaf_263 (by decide) ?_
                exact r_ret S hr hlk X ⟨rfl, (R_of r337 rfl)⟩ (nr_bool (R_of (lo := 0) (hi := 1) r337 rfl)) dX12_isLeaf_267
            ·
              have r338 : R (61) (61) a2 := ⟨by omega, by omega⟩
              refine r_iload S dX12_isLeaf_240 (lv_at hl 0 rfl) ?_
              refine r_iload S dX12_isLeaf_242 (lv_at hl 6 rfl) ?_
              refine r_icmp_ne (tgt := 251) S dX12_isLeaf_244 (by decide) (fun c339 => ?_) (fun c339 => ?_)
              ·
                refine r_iconst S dX12_isLeaf_251 (by decide) (fun v340 z341 => ?_)
                have r342 := R_eq z341
                refine r_goto (tgt := 267) S dX12_isLeaf_252 (by decide) ?_
                exact r_ret S hr hlk X ⟨rfl, (R_of r342 rfl)⟩ (nr_bool (R_of (lo := 0) (hi := 1) r342 rfl)) dX12_isLeaf_267
              ·
                have r343 : R (0) (20) a3 := ⟨by omega, by omega⟩
                refine r_iconst S dX12_isLeaf_247 (by decide) (fun v344 z345 => ?_)
                have r346 := R_eq z345
                refine r_goto (tgt := 267) S dX12_isLeaf_248 (by decide) ?_
                exact r_ret S hr hlk X ⟨rfl, (R_of r346 rfl)⟩ (nr_bool (R_of (lo := 0) (hi := 1) r346 rfl)) dX12_isLeaf_267
          ·
            have r347 : R (60) (60) a2 := ⟨by omega, by omega⟩
            refine r_iload S dX12_isLeaf_219 (lv_at hl 0 rfl) ?_
            refine r_iload S dX12_isLeaf_221 (lv_at hl 6 rfl) ?_
            refine r_icmp_ge (tgt := 230) S dX12_isLeaf_223 (by decide) (fun c348 => ?_) (fun c348 => ?_)
            ·
              have r349 : R (-2147483648) (20) a3 := ⟨by omega, by omega⟩
              refine r_iconst S dX12_isLeaf_230 (by decide) (fun v350 z351 => ?_)
              have r352 := R_eq z351
              refine r_goto (tgt := 267) S dX12_isLeaf_231 (by decide) ?_
              exact r_ret S hr hlk X ⟨rfl, (R_of r352 rfl)⟩ (nr_bool (R_of (lo := 0) (hi := 1) r352 rfl)) dX12_isLeaf_267
            ·
              have r353 : R (1) (2147483647) a3 := ⟨by omega, by omega⟩
              refine r_iconst S dX12_isLeaf_226 (by decide) (fun v354 z355 => ?_)
              have r356 := R_eq z355
              refine r_goto (tgt := 267) S dX12_isLeaf_227 (by decide) ?_
              exact r_ret S hr hlk X ⟨rfl, (R_of r356 rfl)⟩ (nr_bool (R_of (lo := 0) (hi := 1) r356 rfl)) dX12_isLeaf_267
      ·
        have r357 : R (6) (6) a1 := ⟨by omega, by omega⟩
        refine r_iload S dX12_isLeaf_169 (lv_at hl 0 rfl) ?_
        refine r_goto (tgt := 211) S dX12_isLeaf_171 (by decide) ?_
        refine r_istore (lv' := [(6, .int v210), (5, .int v210), (0, .ref (G.2.2.2.1 131)), (1, .int a0), (2, .int a1), (3, .int a2), (4, .int a3)]) S dX12_isLeaf_211 hl (by decide) rfl (fun ls hl => ?_)
        refine r_iload_n S dX12_isLeaf_213 rfl (lv_at hl 5 rfl) ?_
        refine r_bipush S dX12_isLeaf_214 (by decide) (fun v358 z359 => ?_)
        have r360 := R_eq z359
        refine r_icmp_ne (tgt := 234) S dX12_isLeaf_216 (by decide) (fun c361 => ?_) (fun c361 => ?_)
        ·
          refine r_iload_n S dX12_isLeaf_234 rfl (lv_at hl 5 rfl) ?_
          refine r_bipush S dX12_isLeaf_235 (by decide) (fun v362 z363 => ?_)
          have r364 := R_eq z363
          refine r_icmp_ne (tgt := 255) S dX12_isLeaf_237 (by decide) (fun c365 => ?_) (fun c365 => ?_)
          ·
            refine r_iload S dX12_isLeaf_255 (lv_at hl 0 rfl) ?_
            refine r_iload S dX12_isLeaf_257 (lv_at hl 6 rfl) ?_
            refine r_icmp_le (tgt := 266) S dX12_isLeaf_259 (by decide) (fun c366 => ?_) (fun c366 => ?_)
            ·
              have r367 : R (0) (2147483647) a3 := ⟨by omega, by omega⟩
              refine r_iconst S dX12_isLeaf_266 (by decide) (fun v368 z369 => ?_)
              have r370 := R_eq z369
              exact r_ret S hr hlk X ⟨rfl, (R_of r370 rfl)⟩ (nr_bool (R_of (lo := 0) (hi := 1) r370 rfl)) dX12_isLeaf_267
            ·
              have r371 : R (-2147483648) (-1) a3 := ⟨by omega, by omega⟩
              refine r_iconst S dX12_isLeaf_262 (by decide) (fun v372 z373 => ?_)
              have r374 := R_eq z373
              refine r_goto (tgt := 267) S dX12_isLeaf_263 (by decide) ?_
              exact r_ret S hr hlk X ⟨rfl, (R_of r374 rfl)⟩ (nr_bool (R_of (lo := 0) (hi := 1) r374 rfl)) dX12_isLeaf_267
          ·
            have r375 : R (61) (61) a2 := ⟨by omega, by omega⟩
            refine r_iload S dX12_isLeaf_240 (lv_at hl 0 rfl) ?_
            refine r_iload S dX12_isLeaf_242 (lv_at hl 6 rfl) ?_
            refine r_icmp_ne (tgt := 251) S dX12_isLeaf_244 (by decide) (fun c376 => ?_) (fun c376 => ?_)
            ·
              refine r_iconst S dX12_isLeaf_251 (by decide) (fun v377 z378 => ?_)
              have r379 := R_eq z378
              refine r_goto (tgt := 267) S dX12_isLeaf_252 (by decide) ?_
              exact r_ret S hr hlk X ⟨rfl, (R_of r379 rfl)⟩ (nr_bool (R_of (lo := 0) (hi := 1) r379 rfl)) dX12_isLeaf_267
            ·
              have r380 : R (0) (0) a3 := ⟨by omega, by omega⟩
              refine r_iconst S dX12_isLeaf_247 (by decide) (fun v381 z382 => ?_)
              have r383 := R_eq z382
              refine r_goto (tgt := 267) S dX12_isLeaf_248 (by decide) ?_
              exact r_ret S hr hlk X ⟨rfl, (R_of r383 rfl)⟩ (nr_bool (R_of (lo := 0) (hi := 1) r383 rfl)) dX12_isLeaf_267
        ·
          have r384 : R (60) (60) a2 := ⟨by omega, by omega⟩
          refine r_iload S dX12_isLeaf_219 (lv_at hl 0 rfl) ?_
          refine r_iload S dX12_isLeaf_221 (lv_at hl 6 rfl) ?_
          refine r_icmp_ge (tgt := 230) S dX12_isLeaf_223 (by decide) (fun c385 => ?_) (fun c385 => ?_)
          ·
            have r386 : R (-2147483648) (0) a3 := ⟨by omega, by omega⟩
            refine r_iconst S dX12_isLeaf_230 (by decide) (fun v387 z388 => ?_)
            have r389 := R_eq z388
            refine r_goto (tgt := 267) S dX12_isLeaf_231 (by decide) ?_
            exact r_ret S hr hlk X ⟨rfl, (R_of r389 rfl)⟩ (nr_bool (R_of (lo := 0) (hi := 1) r389 rfl)) dX12_isLeaf_267
          ·
            have r390 : R (1) (2147483647) a3 := ⟨by omega, by omega⟩
            refine r_iconst S dX12_isLeaf_226 (by decide) (fun v391 z392 => ?_)
            have r393 := R_eq z392
            refine r_goto (tgt := 267) S dX12_isLeaf_227 (by decide) ?_
            exact r_ret S hr hlk X ⟨rfl, (R_of r393 rfl)⟩ (nr_bool (R_of (lo := 0) (hi := 1) r393 rfl)) dX12_isLeaf_267
  ·
    refine lv_tableIn (tgt := 40) S.1.1 S.1.2.1 dX12_isLeaf_1 (by omega) (by omega) (by rw [c1]; rfl) (by decide) ?_
    have r394 : R (0) (0) a1 := ⟨by omega, by omega⟩
    refine r_aload_n S dX12_isLeaf_40 rfl (lv_at hl 0 rfl) ?_
    refine r_iload_n S dX12_isLeaf_41 rfl (lv_at hl 1 rfl) ?_
    refine r_ki (q_V (As := [.int a0]) (rest := []) (K := 38) (ci := 10) S X (c_X12_bankOf l G τ hI a0 (R_of (lo := -2147483648) (hi := 2147483647) h_a0 rfl)) ck12_259 (Nat.le_of_ble_eq_true rfl) rfl (fun _ => ⟨_, rfl⟩) ⟨_, _, rfl⟩ ⟨Nat.le_of_ble_eq_true rfl, Nat.le_of_ble_eq_true rfl⟩ rfl hl.1 rfl (Nat.le_of_ble_eq_true rfl) dX12_isLeaf_42 ⟨Nat.le_refl 0, Nat.le_refl 0⟩) X (fun v398 t397 H lc q395 X396 => ?_)
    unfold po_X12_bankOf at q395
    obtain ⟨q399, q400⟩ := q395
    rw [q399] at X396
    refine r_iconst S dX12_isLeaf_45 (by decide) (fun v401 z402 => ?_)
    have r403 := R_eq z402
    refine r_icmp_ne (tgt := 53) S dX12_isLeaf_46 (by decide) (fun c404 => ?_) (fun c404 => ?_)
    ·
      have r405 : R (0) (0) v398 := ⟨by omega, by omega⟩
      refine r_iconst S dX12_isLeaf_53 (by decide) (fun v406 z407 => ?_)
      have r408 := R_eq z407
      exact r_ret S hr hlk X396 ⟨rfl, (R_of r408 rfl)⟩ (nr_bool (R_of (lo := 0) (hi := 1) r408 rfl)) dX12_isLeaf_54
    ·
      have r409 : R (1) (1) v398 := ⟨by omega, by omega⟩
      refine r_iconst S dX12_isLeaf_49 (by decide) (fun v410 z411 => ?_)
      have r412 := R_eq z411
      refine r_goto (tgt := 54) S dX12_isLeaf_50 (by decide) ?_
      exact r_ret S hr hlk X396 ⟨rfl, (R_of r412 rfl)⟩ (nr_bool (R_of (lo := 0) (hi := 1) r412 rfl)) dX12_isLeaf_54
  ·
    refine lv_tableIn (tgt := 55) S.1.1 S.1.2.1 dX12_isLeaf_1 (by omega) (by omega) (by rw [c1]; rfl) (by decide) ?_
    have r413 : R (1) (1) a1 := ⟨by omega, by omega⟩
    refine r_aload_n S dX12_isLeaf_55 rfl (lv_at hl 0 rfl) ?_
    refine r_get (K := 38) (v := .ref (G.2.2.2.1 133)) S X (Nat.le_of_ble_eq_true rfl) rfl lk12_33_10 (fun _ => ⟨_, rfl, rfl⟩) dX12_isLeaf_56 ?_
    refine r_sipush S dX12_isLeaf_59 (by decide) (fun v414 z415 => ?_)
    have r416 := R_eq z415
    refine r_aldn (n := 513) (K := 40) S X (Nat.le_of_ble_eq_true rfl) rfl (fun _ => rfl) (ix_of r416 rfl) dX12_isLeaf_62 (fun v417 z418 => ?_)
    have r419 : R (0) (1023) v417 := rds (K := 40) (a := 130) (n := 1) hI rfl z418 (R_of r416 rfl) (by decide +kernel)
    refine r_iload_n S dX12_isLeaf_63 rfl (lv_at hl 1 rfl) ?_
    refine r_ki (q_S (As := [.int v417, .int a0]) (rest := []) S X (c_X12_bitOf l G τ hI v417 a0 (R_of (lo := -2147483648) (hi := 2147483647) r419 rfl) (R_of (lo := -2147483648) (hi := 2147483647) h_a0 rfl)) ck12_221 ⟨Nat.le_of_ble_eq_true rfl, Nat.le_of_ble_eq_true rfl⟩ rfl hl.1 rfl (Nat.le_of_ble_eq_true rfl) dX12_isLeaf_64 ⟨Nat.le_refl 0, Nat.le_refl 0⟩) X (fun v423 t422 H lc q420 X421 => ?_)
    unfold po_X12_bitOf at q420
    obtain ⟨q424, q425⟩ := q420
    rw [q424] at X421
    exact r_ret S hr hlk X421 ⟨rfl, q425⟩ (nr_bool (R_of (lo := 0) (hi := 1) q425 rfl)) dX12_isLeaf_67
  ·
    refine lv_tableIn (tgt := 68) S.1.1 S.1.2.1 dX12_isLeaf_1 (by omega) (by omega) (by rw [c1]; rfl) (by decide) ?_
    have r426 : R (2) (2) a1 := ⟨by omega, by omega⟩
    refine r_aload_n S dX12_isLeaf_68 rfl (lv_at hl 0 rfl) ?_
    refine r_get (K := 38) (v := .ref (G.2.2.2.1 133)) S X (Nat.le_of_ble_eq_true rfl) rfl lk12_33_10 (fun _ => ⟨_, rfl, rfl⟩) dX12_isLeaf_69 ?_
    refine r_sipush S dX12_isLeaf_72 (by decide) (fun v427 z428 => ?_)
    have r429 := R_eq z428
    refine r_aldn (n := 513) (K := 40) S X (Nat.le_of_ble_eq_true rfl) rfl (fun _ => rfl) (ix_of r429 rfl) dX12_isLeaf_75 (fun v430 z431 => ?_)
    have r432 : R (0) (1023) v430 := rds (K := 40) (a := 131) (n := 1) hI rfl z431 (R_of r429 rfl) (by decide +kernel)
    refine r_iload_n S dX12_isLeaf_76 rfl (lv_at hl 1 rfl) ?_
    refine r_ki (q_S (As := [.int v430, .int a0]) (rest := []) S X (c_X12_bitOf l G τ hI v430 a0 (R_of (lo := -2147483648) (hi := 2147483647) r432 rfl) (R_of (lo := -2147483648) (hi := 2147483647) h_a0 rfl)) ck12_221 ⟨Nat.le_of_ble_eq_true rfl, Nat.le_of_ble_eq_true rfl⟩ rfl hl.1 rfl (Nat.le_of_ble_eq_true rfl) dX12_isLeaf_77 ⟨Nat.le_refl 0, Nat.le_refl 0⟩) X (fun v436 t435 H lc q433 X434 => ?_)
    unfold po_X12_bitOf at q433
    obtain ⟨q437, q438⟩ := q433
    rw [q437] at X434
    exact r_ret S hr hlk X434 ⟨rfl, q438⟩ (nr_bool (R_of (lo := 0) (hi := 1) q438 rfl)) dX12_isLeaf_80
  ·
    refine lv_tableIn (tgt := 81) S.1.1 S.1.2.1 dX12_isLeaf_1 (by omega) (by omega) (by rw [c1]; rfl) (by decide) ?_
    have r439 : R (3) (3) a1 := ⟨by omega, by omega⟩
    refine r_aload_n S dX12_isLeaf_81 rfl (lv_at hl 0 rfl) ?_
    refine r_iload_n S dX12_isLeaf_82 rfl (lv_at hl 1 rfl) ?_
    refine r_ki (q_V (As := [.int a0]) (rest := []) (K := 38) (ci := 10) S X (c_X12_bankOf l G τ hI a0 (R_of (lo := -2147483648) (hi := 2147483647) h_a0 rfl)) ck12_259 (Nat.le_of_ble_eq_true rfl) rfl (fun _ => ⟨_, rfl⟩) ⟨_, _, rfl⟩ ⟨Nat.le_of_ble_eq_true rfl, Nat.le_of_ble_eq_true rfl⟩ rfl hl.1 rfl (Nat.le_of_ble_eq_true rfl) dX12_isLeaf_83 ⟨Nat.le_refl 0, Nat.le_refl 0⟩) X (fun v443 t442 H lc q440 X441 => ?_)
    unfold po_X12_bankOf at q440
    obtain ⟨q444, q445⟩ := q440
    rw [q444] at X441
    refine r_aload_n S dX12_isLeaf_86 rfl (lv_at hl 0 rfl) ?_
    refine r_iload S dX12_isLeaf_87 (lv_at hl 4 rfl) ?_
    refine r_ki (q_V (As := [.int a3]) (rest := [.int v443]) (K := 38) (ci := 10) S X441 (c_X12_bankOf l G τ hI a3 h_a3) ck12_259 (Nat.le_of_ble_eq_true rfl) rfl (fun _ => ⟨_, rfl⟩) ⟨_, _, rfl⟩ ⟨Nat.le_of_ble_eq_true rfl, Nat.le_of_ble_eq_true rfl⟩ rfl hl.1 rfl (Nat.le_of_ble_eq_true rfl) dX12_isLeaf_89 ⟨Nat.le_refl 0, Nat.le_refl 0⟩) X441 (fun v449 t448 H lc q446 X447 => ?_)
    unfold po_X12_bankOf at q446
    obtain ⟨q450, q451⟩ := q446
    rw [q450] at X447
    refine r_icmp_ne (tgt := 99) S dX12_isLeaf_92 (by decide) (fun c452 => ?_) (fun c452 => ?_)
    ·
      refine r_iconst S dX12_isLeaf_99 (by decide) (fun v453 z454 => ?_)
      have r455 := R_eq z454
      exact r_ret S hr hlk X447 ⟨rfl, (R_of r455 rfl)⟩ (nr_bool (R_of (lo := 0) (hi := 1) r455 rfl)) dX12_isLeaf_100
    ·
      refine r_iconst S dX12_isLeaf_95 (by decide) (fun v456 z457 => ?_)
      have r458 := R_eq z457
      refine r_goto (tgt := 100) S dX12_isLeaf_96 (by decide) ?_
      exact r_ret S hr hlk X447 ⟨rfl, (R_of r458 rfl)⟩ (nr_bool (R_of (lo := 0) (hi := 1) r458 rfl)) dX12_isLeaf_100
  ·
    refine lv_tableIn (tgt := 101) S.1.1 S.1.2.1 dX12_isLeaf_1 (by omega) (by omega) (by rw [c1]; rfl) (by decide) ?_
    have r459 : R (4) (4) a1 := ⟨by omega, by omega⟩
    have r460 : R 0 8 a3 := hp_0 (by omega)
    refine r_aload_n S dX12_isLeaf_101 rfl (lv_at hl 0 rfl) ?_
    refine r_iload_n S dX12_isLeaf_102 rfl (lv_at hl 1 rfl) ?_
    refine r_iload S dX12_isLeaf_103 (lv_at hl 4 rfl) ?_
    refine r_ki (q_V (As := [.int a0, .int a3]) (rest := []) (K := 38) (ci := 10) S X (c_X12_saysOf l G τ hI a0 a3 h_a0 r460) ck12_269 (Nat.le_of_ble_eq_true rfl) rfl (fun _ => ⟨_, rfl⟩) ⟨_, _, rfl⟩ ⟨Nat.le_of_ble_eq_true rfl, Nat.le_of_ble_eq_true rfl⟩ rfl hl.1 rfl (Nat.le_of_ble_eq_true rfl) dX12_isLeaf_105 ⟨Nat.le_refl 0, Nat.le_refl 0⟩) X (fun v464 t463 H lc q461 X462 => ?_)
    unfold po_X12_saysOf at q461
    obtain ⟨q465, q466⟩ := q461
    rw [q465] at X462
    refine r_if_le (tgt := 115) S dX12_isLeaf_108 (by decide) (fun c467 => ?_) (fun c467 => ?_)
    ·
      have r468 : R (-9) (0) v464 := ⟨by omega, by omega⟩
      refine r_iconst S dX12_isLeaf_115 (by decide) (fun v469 z470 => ?_)
      have r471 := R_eq z470
      exact r_ret S hr hlk X462 ⟨rfl, (R_of r471 rfl)⟩ (nr_bool (R_of (lo := 0) (hi := 1) r471 rfl)) dX12_isLeaf_116
    ·
      have r472 : R (1) (9) v464 := ⟨by omega, by omega⟩
      refine r_iconst S dX12_isLeaf_111 (by decide) (fun v473 z474 => ?_)
      have r475 := R_eq z474
      refine r_goto (tgt := 116) S dX12_isLeaf_112 (by decide) ?_
      exact r_ret S hr hlk X462 ⟨rfl, (R_of r475 rfl)⟩ (nr_bool (R_of (lo := 0) (hi := 1) r475 rfl)) dX12_isLeaf_116
  ·
    refine lv_tableIn (tgt := 117) S.1.1 S.1.2.1 dX12_isLeaf_1 (by omega) (by omega) (by rw [c1]; rfl) (by decide) ?_
    have r476 : R (5) (5) a1 := ⟨by omega, by omega⟩
    have r477 : R 0 8 a3 := hp_0 (by omega)
    refine r_aload_n S dX12_isLeaf_117 rfl (lv_at hl 0 rfl) ?_
    refine r_iload_n S dX12_isLeaf_118 rfl (lv_at hl 1 rfl) ?_
    refine r_iload S dX12_isLeaf_119 (lv_at hl 4 rfl) ?_
    refine r_ki (q_V (As := [.int a0, .int a3]) (rest := []) (K := 38) (ci := 10) S X (c_X12_saysOf l G τ hI a0 a3 h_a0 r477) ck12_269 (Nat.le_of_ble_eq_true rfl) rfl (fun _ => ⟨_, rfl⟩) ⟨_, _, rfl⟩ ⟨Nat.le_of_ble_eq_true rfl, Nat.le_of_ble_eq_true rfl⟩ rfl hl.1 rfl (Nat.le_of_ble_eq_true rfl) dX12_isLeaf_121 ⟨Nat.le_refl 0, Nat.le_refl 0⟩) X (fun v481 t480 H lc q478 X479 => ?_)
    unfold po_X12_saysOf at q478
    obtain ⟨q482, q483⟩ := q478
    rw [q482] at X479
    refine r_if_ge (tgt := 131) S dX12_isLeaf_124 (by decide) (fun c484 => ?_) (fun c484 => ?_)
    ·
      have r485 : R (0) (9) v481 := ⟨by omega, by omega⟩
      refine r_iconst S dX12_isLeaf_131 (by decide) (fun v486 z487 => ?_)
      have r488 := R_eq z487
      exact r_ret S hr hlk X479 ⟨rfl, (R_of r488 rfl)⟩ (nr_bool (R_of (lo := 0) (hi := 1) r488 rfl)) dX12_isLeaf_132
    ·
      have r489 : R (-9) (-1) v481 := ⟨by omega, by omega⟩
      refine r_iconst S dX12_isLeaf_127 (by decide) (fun v490 z491 => ?_)
      have r492 := R_eq z491
      refine r_goto (tgt := 132) S dX12_isLeaf_128 (by decide) ?_
      exact r_ret S hr hlk X479 ⟨rfl, (R_of r492 rfl)⟩ (nr_bool (R_of (lo := 0) (hi := 1) r492 rfl)) dX12_isLeaf_132
def po_X12_isSaid (τ : Tau)  (a0 : Int32) (r : Int32) (u : Tau) : Prop := Inv u ∧ Fr [] [149] τ u ∧ R (0) (1) r
set_option maxHeartbeats 4000000 in
set_option maxRecDepth 100000 in
theorem c_X12_isSaid (l : Launch) (G : Gx) (τ : Tau) (hI : Inv τ) (a0 : Int32) (h_a0 : R (0) (9) a0) (hp_0 : PF τ) : Ci l G yX12_isSaid cX12_isSaid 5 (some .boolean) 4 92 [.ref (G.2.2.2.1 131), .int a0] τ (po_X12_isSaid τ  a0) := by
  unfold Ci
  refine C_of (own := RX12) (by decide) rfl (Nat.le_of_ble_eq_true rfl) ?_
  intro p e s m below meth c ls S hr hlk X hl
  have hl : lv_has ls 5 [(0, .ref (G.2.2.2.1 131)), (1, .int a0)] := hl
  refine r_iconst S dX12_isSaid_0 (by decide) (fun v1 z2 => ?_)
  have r3 := R_eq z2
  refine r_istore_n (lv' := [(2, .int v1), (0, .ref (G.2.2.2.1 131)), (1, .int a0)]) S dX12_isSaid_1 rfl hl (by decide) rfl (fun ls hl => ?_)
  refine r_iconst S dX12_isSaid_2 (by decide) (fun v4 z5 => ?_)
  have r6 := R_eq z5
  refine r_istore_n (lv' := [(3, .int v4), (2, .int v1), (0, .ref (G.2.2.2.1 131)), (1, .int a0)]) S dX12_isSaid_3 rfl hl (by decide) rfl (fun ls hl => ?_)
  have L7158 : ∀ (n : Nat) (t7154 : Tau) (H : Heap) (lc : List Loc) (ls : Array Slot) (i7150 : Int32) (i7152 : Int32), Xd G s H lc t7154 → Inv t7154 → Fr [] [149] τ t7154 → R (-1) (40) i7150 → R (0) (53) i7152 → i7150.toInt = dpf (τ 133) 333 i7152.toInt.toNat → lv_has ls 5 [(0, .ref (G.2.2.2.1 131)), (1, .int a0), (2, .int i7150), (3, .int i7152)] → (54 - i7152.toInt).toNat < n → W p l e (Rm 4 92) s m ([.ref (G.2.2.2.1 131), .int a0] : List Value).toArray below meth c H lc 0 0 (MQ below (va_Qi (po_X12_isSaid τ  a0) (Bs G) G.2.2.2.2) ([.ref (G.2.2.2.1 131), .int a0] : List Value).toArray s 0 0 G.2.2.2.2) (F0 m 4 ls []) := by
    intro n
    induction n with
    | zero => intros; omega
    | succ n ih7160 =>
      intro t7154 H lc ls i7150 i7152 X7157 I7155 F7156 r7151 r7153 x7159 hl hm
      refine r_iload_n S dX12_isSaid_4 rfl (lv_at hl 3 rfl) ?_
      refine r_aload_n S dX12_isSaid_5 rfl (lv_at hl 0 rfl) ?_
      refine r_get (K := 38) (v := .ref (G.2.2.2.1 133)) S X7157 (Nat.le_of_ble_eq_true rfl) rfl lk12_33_10 (fun _ => ⟨_, rfl, rfl⟩) dX12_isSaid_6 ?_
      refine r_sipush S dX12_isSaid_9 (by decide) (fun v7161 z7162 => ?_)
      have r7163 := R_eq z7162
      refine r_aldn (n := 513) (K := 40) S X7157 (Nat.le_of_ble_eq_true rfl) rfl (fun _ => rfl) (ix_of r7163 rfl) dX12_isSaid_12 (fun v7164 z7165 => ?_)
      have r7166 : R (0) (53) v7164 := rds (K := 40) (a := 332) (n := 1) I7155 rfl z7165 (R_of r7163 rfl) (by decide +kernel)
      refine r_icmp_ge (tgt := 212) S dX12_isSaid_13 (by decide) (fun c7167 => ?_) (fun c7167 => ?_)
      ·
        refine r_aload_n S dX12_isSaid_212 rfl (lv_at hl 0 rfl) ?_
        refine r_get (K := 38) (v := .ref (G.2.2.2.1 149)) S X7157 (Nat.le_of_ble_eq_true rfl) rfl lk12_87_10 (fun _ => ⟨_, rfl, rfl⟩) dX12_isSaid_213 ?_
        refine r_iconst S dX12_isSaid_216 (by decide) (fun v7168 z7169 => ?_)
        have r7170 := R_eq z7169
        refine r_zald (n := 45) (K := 56) S X7157 (Nat.le_of_ble_eq_true rfl) rfl (fun _ => rfl) (ix_of r7170 rfl) dX12_isSaid_217 (fun v7171 z7172 => ?_)
        have r7173 : R (0) (1) v7171 := rd I7155 rfl z7172
        exact r_ret S hr hlk X7157 ⟨I7155, F7156, r7173⟩ (nr_bool (R_of (lo := 0) (hi := 1) r7173 rfl)) dX12_isSaid_218
      ·
        have r7174 : R (0) (52) i7152 := ⟨by omega, by omega⟩
        have r7175 : R (1) (53) v7164 := ⟨by omega, by omega⟩
        refine r_sipush S dX12_isSaid_16 (by decide) (fun v7176 z7177 => ?_)
        have r7178 := R_eq z7177
        refine r_iconst S dX12_isSaid_19 (by decide) (fun v7179 z7180 => ?_)
        have r7181 := R_eq z7180
        refine r_iload_n S dX12_isSaid_20 rfl (lv_at hl 3 rfl) ?_
        refine r_imul S dX12_isSaid_21 (fun v7182 z7183 => ?_)
        obtain ⟨e7184, r7185⟩ := i_mul (lo := 0) (hi := 156) z7183 r7181 r7174 rfl rfl
        have e7186 : v7182.toInt = 3 * i7152.toInt := by rw [e7184, show v7179.toInt = 3 by omega]
        refine r_iadd S dX12_isSaid_22 (fun v7187 z7188 => ?_)
        obtain ⟨e7189, r7190⟩ := i_add (lo := 333) (hi := 489) z7188 r7178 r7185 rfl
        refine r_istore (lv' := [(4, .int v7187), (0, .ref (G.2.2.2.1 131)), (1, .int a0), (2, .int i7150), (3, .int i7152)]) S dX12_isSaid_23 hl (by decide) rfl (fun ls hl => ?_)
        refine r_aload_n S dX12_isSaid_25 rfl (lv_at hl 1 rfl) ?_
        refine r_get (K := 38) (v := .ref (G.2.2.2.1 133)) S X7157 (Nat.le_of_ble_eq_true rfl) rfl lk12_33_10 (fun _ => ⟨_, rfl, rfl⟩) dX12_isSaid_26 ?_
        refine r_iload S dX12_isSaid_29 (lv_at hl 0 rfl) ?_
        refine r_aldn (n := 513) (K := 40) S X7157 (Nat.le_of_ble_eq_true rfl) rfl (fun _ => rfl) (ix_of r7190 rfl) dX12_isSaid_31 (fun v7191 z7192 => ?_)
        have r7194 := R_any v7191
        have g7195 : Rg 40 v7187.toNatClampNeg v7191 := rd I7155 rfl z7192
        have h7196 := PF_row hp_0 (by omega) ((F7156 133 332 (by simp [fz])).symm.trans (zc (n := 332) (by omega) z7165)) (by omega) x7159 (ix := v7187) (by omega) ((F7156 133 v7187.toNatClampNeg (by simp [fz])).symm.trans z7192)
        have h7197 := cdw_c v7191
        have r7198 : R (0) (39) i7150 := ⟨by omega, by omega⟩
        refine r_bipush S dX12_isSaid_32 (by decide) (fun v7199 z7200 => ?_)
        have r7201 := R_eq z7200
        refine r_icmp_ne (tgt := 64) S dX12_isSaid_34 (by decide) (fun c7202 => ?_) (fun c7202 => ?_)
        ·
          refine r_aload_n S dX12_isSaid_64 rfl (lv_at hl 1 rfl) ?_
          refine r_get (K := 38) (v := .ref (G.2.2.2.1 133)) S X7157 (Nat.le_of_ble_eq_true rfl) rfl lk12_33_10 (fun _ => ⟨_, rfl, rfl⟩) dX12_isSaid_65 ?_
          refine r_iload S dX12_isSaid_68 (lv_at hl 0 rfl) ?_
          refine r_aldn (n := 513) (K := 40) S X7157 (Nat.le_of_ble_eq_true rfl) rfl (fun _ => rfl) (ix_of r7190 rfl) dX12_isSaid_70 (fun v7203 z7204 => ?_)
          have r7206 := R_any v7203
          have g7207 : Rg 40 v7187.toNatClampNeg v7203 := rd I7155 rfl z7204
          have h7208 : v7203 = v7191 := z7204.symm.trans ((rfl).trans z7192)
          have h7209 := congrArg Int32.toInt h7208
          refine r_bipush S dX12_isSaid_71 (by decide) (fun v7210 z7211 => ?_)
          have r7212 := R_eq z7211
          refine r_icmp_eq (tgt := 88) S dX12_isSaid_73 (by decide) (fun c7213 => ?_) (fun c7213 => ?_)
          ·
            have r7214 : R (21) (21) v7203 := ⟨by omega, by omega⟩
            refine r_iinc (k := 3) S dX12_isSaid_88 hl rfl (by decide) (by decide) (fun v7215 d7216 ls z7217 z7218 hl => ?_)
            obtain ⟨e7219, r7220⟩ := i_add (lo := -1) (hi := 38) z7217 r7198 (R_eq z7218) rfl
            have hl : lv_has ls 5 [(2, .int v7215), (4, .int v7187), (0, .ref (G.2.2.2.1 131)), (1, .int a0), (3, .int i7152)] := hl
            refine r_aload_n S dX12_isSaid_91 rfl (lv_at hl 2 rfl) ?_
            refine r_get (K := 38) (v := .ref (G.2.2.2.1 149)) S X7157 (Nat.le_of_ble_eq_true rfl) rfl lk12_87_10 (fun _ => ⟨_, rfl, rfl⟩) dX12_isSaid_92 ?_
            refine r_iload_n S dX12_isSaid_95 rfl (lv_at hl 0 rfl) ?_
            refine r_iconst S dX12_isSaid_96 (by decide) (fun v7221 z7222 => ?_)
            have r7223 := R_eq z7222
            refine r_isub S dX12_isSaid_97 (fun v7224 z7225 => ?_)
            obtain ⟨e7226, r7227⟩ := i_sub (lo := -2) (hi := 37) z7225 r7220 r7223 rfl
            refine r_aload_n S dX12_isSaid_98 rfl (lv_at hl 2 rfl) ?_
            refine r_get (K := 38) (v := .ref (G.2.2.2.1 133)) S X7157 (Nat.le_of_ble_eq_true rfl) rfl lk12_33_10 (fun _ => ⟨_, rfl, rfl⟩) dX12_isSaid_99 ?_
            refine r_iload S dX12_isSaid_102 (lv_at hl 1 rfl) ?_
            refine r_aldn (n := 513) (K := 40) S X7157 (Nat.le_of_ble_eq_true rfl) rfl (fun _ => rfl) (ix_of r7190 rfl) dX12_isSaid_104 (fun v7228 z7229 => ?_)
            have r7231 := R_any v7228
            have g7232 : Rg 40 v7187.toNatClampNeg v7228 := rd I7155 rfl z7229
            have h7233 : v7228 = v7191 := z7229.symm.trans ((rfl).trans z7192)
            have h7234 := congrArg Int32.toInt h7233
            refine r_bipush S dX12_isSaid_105 (by decide) (fun v7235 z7236 => ?_)
            have r7237 := R_eq z7236
            refine r_icmp_ne (tgt := 138) S dX12_isSaid_107 (by decide) (fun c7238 => ?_) (fun c7238 => ?_)
            ·
              refine r_aload_n S dX12_isSaid_138 rfl (lv_at hl 2 rfl) ?_
              refine r_get (K := 38) (v := .ref (G.2.2.2.1 149)) S X7157 (Nat.le_of_ble_eq_true rfl) rfl lk12_87_10 (fun _ => ⟨_, rfl, rfl⟩) dX12_isSaid_139 ?_
              refine r_iload_n S dX12_isSaid_142 rfl (lv_at hl 0 rfl) ?_
              refine r_iconst S dX12_isSaid_143 (by decide) (fun v7239 z7240 => ?_)
              have r7241 := R_eq z7240
              refine r_isub S dX12_isSaid_144 (fun v7242 z7243 => ?_)
              obtain ⟨e7244, r7245⟩ := i_sub (lo := -2) (hi := 37) z7243 r7220 r7241 rfl
              refine r_zald (n := 45) (K := 56) S X7157 (Nat.le_of_ble_eq_true rfl) rfl (fun _ => rfl) (by omega) dX12_isSaid_145 (fun v7246 z7247 => ?_)
              have r7248 : R (0) (1) v7246 := rd I7155 rfl z7247
              refine r_if_ne (tgt := 158) S dX12_isSaid_146 (by decide) (fun c7249 => ?_) (fun c7249 => ?_)
              ·
                have r7250 : R (1) (1) v7246 := ⟨by omega, by omega⟩
                refine r_iconst S dX12_isSaid_158 (by decide) (fun v7251 z7252 => ?_)
                have r7253 := R_eq z7252
                refine r_goto (tgt := 163) S dX12_isSaid_159 (by decide) ?_
                refine r_zast (n := 45) (K := 56) S X7157 (Nat.le_of_ble_eq_true rfl) rfl (fun _ _ => rfl) (by omega) (R_of (lo := 0) (hi := 1) r7253 rfl) dX12_isSaid_163 (fun t7254 H lc M7255 X7256 => ?_)
                have I7257 := Inv_mu I7155 M7255 (show Rg (kd 149) _ v7251 from (R_of (lo := 0) (hi := 1) r7253 rfl))
                have F7258 : Fr [] [149] τ t7254 := Fr_cell F7156 M7255 (by decide)
                refine r_goto (tgt := 206) S dX12_isSaid_164 (by decide) ?_
                refine r_iinc (k := 4) S dX12_isSaid_206 hl rfl (by decide) (by decide) (fun v7259 d7260 ls z7261 z7262 hl => ?_)
                obtain ⟨e7263, r7264⟩ := i_add (lo := 1) (hi := 53) z7261 r7174 (R_eq z7262) rfl
                have hl : lv_has ls 5 [(3, .int v7259), (2, .int v7215), (4, .int v7187), (0, .ref (G.2.2.2.1 131)), (1, .int a0)] := hl
                refine r_goto (tgt := 4) S dX12_isSaid_209 (by decide) ?_
                exact ih7160 t7254 _ _ _ v7215 v7259 X7256 I7257 F7258 (R_of r7220 rfl) (R_of r7264 rfl) (PF_dp (by omega) x7159 (ix := v7187) (by omega) ((F7156 133 v7187.toNatClampNeg (by simp [fz])).symm.trans z7192) (by omega) (by omega)) (lv_sub hl [3, 4, 1, 0] rfl) (by omega)
              ·
                have r7265 : R (0) (0) v7246 := ⟨by omega, by omega⟩
                refine r_aload_n S dX12_isSaid_149 rfl (lv_at hl 2 rfl) ?_
                refine r_get (K := 38) (v := .ref (G.2.2.2.1 149)) S X7157 (Nat.le_of_ble_eq_true rfl) rfl lk12_87_10 (fun _ => ⟨_, rfl, rfl⟩) dX12_isSaid_150 ?_
                refine r_iload_n S dX12_isSaid_153 rfl (lv_at hl 0 rfl) ?_
                refine r_zald (n := 45) (K := 56) S X7157 (Nat.le_of_ble_eq_true rfl) rfl (fun _ => rfl) (by omega) dX12_isSaid_154 (fun v7266 z7267 => ?_)
                have r7268 : R (0) (1) v7266 := rd I7155 rfl z7267
                refine r_if_eq (tgt := 162) S dX12_isSaid_155 (by decide) (fun c7269 => ?_) (fun c7269 => ?_)
                ·
                  have r7270 : R (0) (0) v7266 := ⟨by omega, by omega⟩
                  refine r_iconst S dX12_isSaid_162 (by decide) (fun v7271 z7272 => ?_)
                  have r7273 := R_eq z7272
                  refine r_zast (n := 45) (K := 56) S X7157 (Nat.le_of_ble_eq_true rfl) rfl (fun _ _ => rfl) (by omega) (R_of (lo := 0) (hi := 1) r7273 rfl) dX12_isSaid_163 (fun t7274 H lc M7275 X7276 => ?_)
                  have I7277 := Inv_mu I7155 M7275 (show Rg (kd 149) _ v7271 from (R_of (lo := 0) (hi := 1) r7273 rfl))
                  have F7278 : Fr [] [149] τ t7274 := Fr_cell F7156 M7275 (by decide)
                  refine r_goto (tgt := 206) S dX12_isSaid_164 (by decide) ?_
                  refine r_iinc (k := 4) S dX12_isSaid_206 hl rfl (by decide) (by decide) (fun v7279 d7280 ls z7281 z7282 hl => ?_)
                  obtain ⟨e7283, r7284⟩ := i_add (lo := 1) (hi := 53) z7281 r7174 (R_eq z7282) rfl
                  have hl : lv_has ls 5 [(3, .int v7279), (2, .int v7215), (4, .int v7187), (0, .ref (G.2.2.2.1 131)), (1, .int a0)] := hl
                  refine r_goto (tgt := 4) S dX12_isSaid_209 (by decide) ?_
                  exact ih7160 t7274 _ _ _ v7215 v7279 X7276 I7277 F7278 (R_of r7220 rfl) (R_of r7284 rfl) (PF_dp (by omega) x7159 (ix := v7187) (by omega) ((F7156 133 v7187.toNatClampNeg (by simp [fz])).symm.trans z7192) (by omega) (by omega)) (lv_sub hl [3, 4, 1, 0] rfl) (by omega)
                ·
                  have r7285 : R (1) (1) v7266 := ⟨by omega, by omega⟩
                  refine r_iconst S dX12_isSaid_158 (by decide) (fun v7286 z7287 => ?_)
                  have r7288 := R_eq z7287
                  refine r_goto (tgt := 163) S dX12_isSaid_159 (by decide) ?_
                  refine r_zast (n := 45) (K := 56) S X7157 (Nat.le_of_ble_eq_true rfl) rfl (fun _ _ => rfl) (by omega) (R_of (lo := 0) (hi := 1) r7288 rfl) dX12_isSaid_163 (fun t7289 H lc M7290 X7291 => ?_)
                  have I7292 := Inv_mu I7155 M7290 (show Rg (kd 149) _ v7286 from (R_of (lo := 0) (hi := 1) r7288 rfl))
                  have F7293 : Fr [] [149] τ t7289 := Fr_cell F7156 M7290 (by decide)
                  refine r_goto (tgt := 206) S dX12_isSaid_164 (by decide) ?_
                  refine r_iinc (k := 4) S dX12_isSaid_206 hl rfl (by decide) (by decide) (fun v7294 d7295 ls z7296 z7297 hl => ?_)
                  obtain ⟨e7298, r7299⟩ := i_add (lo := 1) (hi := 53) z7296 r7174 (R_eq z7297) rfl
                  have hl : lv_has ls 5 [(3, .int v7294), (2, .int v7215), (4, .int v7187), (0, .ref (G.2.2.2.1 131)), (1, .int a0)] := hl
                  refine r_goto (tgt := 4) S dX12_isSaid_209 (by decide) ?_
                  exact ih7160 t7289 _ _ _ v7215 v7294 X7291 I7292 F7293 (R_of r7220 rfl) (R_of r7299 rfl) (PF_dp (by omega) x7159 (ix := v7187) (by omega) ((F7156 133 v7187.toNatClampNeg (by simp [fz])).symm.trans z7192) (by omega) (by omega)) (lv_sub hl [3, 4, 1, 0] rfl) (by omega)
            ·
              have r7300 : R (21) (21) v7228 := ⟨by omega, by omega⟩
              refine r_aload_n S dX12_isSaid_110 rfl (lv_at hl 2 rfl) ?_
              refine r_get (K := 38) (v := .ref (G.2.2.2.1 149)) S X7157 (Nat.le_of_ble_eq_true rfl) rfl lk12_87_10 (fun _ => ⟨_, rfl, rfl⟩) dX12_isSaid_111 ?_
              refine r_iload_n S dX12_isSaid_114 rfl (lv_at hl 0 rfl) ?_
              refine r_iconst S dX12_isSaid_115 (by decide) (fun v7301 z7302 => ?_)
              have r7303 := R_eq z7302
              refine r_isub S dX12_isSaid_116 (fun v7304 z7305 => ?_)
              obtain ⟨e7306, r7307⟩ := i_sub (lo := -2) (hi := 37) z7305 r7220 r7303 rfl
              refine r_zald (n := 45) (K := 56) S X7157 (Nat.le_of_ble_eq_true rfl) rfl (fun _ => rfl) (by omega) dX12_isSaid_117 (fun v7308 z7309 => ?_)
              have r7310 : R (0) (1) v7308 := rd I7155 rfl z7309
              refine r_if_eq (tgt := 134) S dX12_isSaid_118 (by decide) (fun c7311 => ?_) (fun c7311 => ?_)
              ·
                have r7312 : R (0) (0) v7308 := ⟨by omega, by omega⟩
                refine r_iconst S dX12_isSaid_134 (by decide) (fun v7313 z7314 => ?_)
                have r7315 := R_eq z7314
                refine r_goto (tgt := 163) S dX12_isSaid_135 (by decide) ?_
                refine r_zast (n := 45) (K := 56) S X7157 (Nat.le_of_ble_eq_true rfl) rfl (fun _ _ => rfl) (by omega) (R_of (lo := 0) (hi := 1) r7315 rfl) dX12_isSaid_163 (fun t7316 H lc M7317 X7318 => ?_)
                have I7319 := Inv_mu I7155 M7317 (show Rg (kd 149) _ v7313 from (R_of (lo := 0) (hi := 1) r7315 rfl))
                have F7320 : Fr [] [149] τ t7316 := Fr_cell F7156 M7317 (by decide)
                refine r_goto (tgt := 206) S dX12_isSaid_164 (by decide) ?_
                refine r_iinc (k := 4) S dX12_isSaid_206 hl rfl (by decide) (by decide) (fun v7321 d7322 ls z7323 z7324 hl => ?_)
                obtain ⟨e7325, r7326⟩ := i_add (lo := 1) (hi := 53) z7323 r7174 (R_eq z7324) rfl
                have hl : lv_has ls 5 [(3, .int v7321), (2, .int v7215), (4, .int v7187), (0, .ref (G.2.2.2.1 131)), (1, .int a0)] := hl
                refine r_goto (tgt := 4) S dX12_isSaid_209 (by decide) ?_
                exact ih7160 t7316 _ _ _ v7215 v7321 X7318 I7319 F7320 (R_of r7220 rfl) (R_of r7326 rfl) (PF_dp (by omega) x7159 (ix := v7187) (by omega) ((F7156 133 v7187.toNatClampNeg (by simp [fz])).symm.trans z7192) (by omega) (by omega)) (lv_sub hl [3, 4, 1, 0] rfl) (by omega)
              ·
                have r7327 : R (1) (1) v7308 := ⟨by omega, by omega⟩
                refine r_aload_n S dX12_isSaid_121 rfl (lv_at hl 2 rfl) ?_
                refine r_get (K := 38) (v := .ref (G.2.2.2.1 149)) S X7157 (Nat.le_of_ble_eq_true rfl) rfl lk12_87_10 (fun _ => ⟨_, rfl, rfl⟩) dX12_isSaid_122 ?_
                refine r_iload_n S dX12_isSaid_125 rfl (lv_at hl 0 rfl) ?_
                refine r_zald (n := 45) (K := 56) S X7157 (Nat.le_of_ble_eq_true rfl) rfl (fun _ => rfl) (by omega) dX12_isSaid_126 (fun v7328 z7329 => ?_)
                have r7330 : R (0) (1) v7328 := rd I7155 rfl z7329
                refine r_if_eq (tgt := 134) S dX12_isSaid_127 (by decide) (fun c7331 => ?_) (fun c7331 => ?_)
                ·
                  have r7332 : R (0) (0) v7328 := ⟨by omega, by omega⟩
                  refine r_iconst S dX12_isSaid_134 (by decide) (fun v7333 z7334 => ?_)
                  have r7335 := R_eq z7334
                  refine r_goto (tgt := 163) S dX12_isSaid_135 (by decide) ?_
                  refine r_zast (n := 45) (K := 56) S X7157 (Nat.le_of_ble_eq_true rfl) rfl (fun _ _ => rfl) (by omega) (R_of (lo := 0) (hi := 1) r7335 rfl) dX12_isSaid_163 (fun t7336 H lc M7337 X7338 => ?_)
                  have I7339 := Inv_mu I7155 M7337 (show Rg (kd 149) _ v7333 from (R_of (lo := 0) (hi := 1) r7335 rfl))
                  have F7340 : Fr [] [149] τ t7336 := Fr_cell F7156 M7337 (by decide)
                  refine r_goto (tgt := 206) S dX12_isSaid_164 (by decide) ?_
                  refine r_iinc (k := 4) S dX12_isSaid_206 hl rfl (by decide) (by decide) (fun v7341 d7342 ls z7343 z7344 hl => ?_)
                  obtain ⟨e7345, r7346⟩ := i_add (lo := 1) (hi := 53) z7343 r7174 (R_eq z7344) rfl
                  have hl : lv_has ls 5 [(3, .int v7341), (2, .int v7215), (4, .int v7187), (0, .ref (G.2.2.2.1 131)), (1, .int a0)] := hl
                  refine r_goto (tgt := 4) S dX12_isSaid_209 (by decide) ?_
                  exact ih7160 t7336 _ _ _ v7215 v7341 X7338 I7339 F7340 (R_of r7220 rfl) (R_of r7346 rfl) (PF_dp (by omega) x7159 (ix := v7187) (by omega) ((F7156 133 v7187.toNatClampNeg (by simp [fz])).symm.trans z7192) (by omega) (by omega)) (lv_sub hl [3, 4, 1, 0] rfl) (by omega)
                ·
                  have r7347 : R (1) (1) v7328 := ⟨by omega, by omega⟩
                  refine r_iconst S dX12_isSaid_130 (by decide) (fun v7348 z7349 => ?_)
                  have r7350 := R_eq z7349
                  refine r_goto (tgt := 163) S dX12_isSaid_131 (by decide) ?_
                  refine r_zast (n := 45) (K := 56) S X7157 (Nat.le_of_ble_eq_true rfl) rfl (fun _ _ => rfl) (by omega) (R_of (lo := 0) (hi := 1) r7350 rfl) dX12_isSaid_163 (fun t7351 H lc M7352 X7353 => ?_)
                  have I7354 := Inv_mu I7155 M7352 (show Rg (kd 149) _ v7348 from (R_of (lo := 0) (hi := 1) r7350 rfl))
                  have F7355 : Fr [] [149] τ t7351 := Fr_cell F7156 M7352 (by decide)
                  refine r_goto (tgt := 206) S dX12_isSaid_164 (by decide) ?_
                  refine r_iinc (k := 4) S dX12_isSaid_206 hl rfl (by decide) (by decide) (fun v7356 d7357 ls z7358 z7359 hl => ?_)
                  obtain ⟨e7360, r7361⟩ := i_add (lo := 1) (hi := 53) z7358 r7174 (R_eq z7359) rfl
                  have hl : lv_has ls 5 [(3, .int v7356), (2, .int v7215), (4, .int v7187), (0, .ref (G.2.2.2.1 131)), (1, .int a0)] := hl
                  refine r_goto (tgt := 4) S dX12_isSaid_209 (by decide) ?_
                  exact ih7160 t7351 _ _ _ v7215 v7356 X7353 I7354 F7355 (R_of r7220 rfl) (R_of r7361 rfl) (PF_dp (by omega) x7159 (ix := v7187) (by omega) ((F7156 133 v7187.toNatClampNeg (by simp [fz])).symm.trans z7192) (by omega) (by omega)) (lv_sub hl [3, 4, 1, 0] rfl) (by omega)
          ·
            refine r_aload_n S dX12_isSaid_76 rfl (lv_at hl 1 rfl) ?_
            refine r_get (K := 38) (v := .ref (G.2.2.2.1 133)) S X7157 (Nat.le_of_ble_eq_true rfl) rfl lk12_33_10 (fun _ => ⟨_, rfl, rfl⟩) dX12_isSaid_77 ?_
            refine r_iload S dX12_isSaid_80 (lv_at hl 0 rfl) ?_
            refine r_aldn (n := 513) (K := 40) S X7157 (Nat.le_of_ble_eq_true rfl) rfl (fun _ => rfl) (ix_of r7190 rfl) dX12_isSaid_82 (fun v7362 z7363 => ?_)
            have r7365 := R_any v7362
            have g7366 : Rg 40 v7187.toNatClampNeg v7362 := rd I7155 rfl z7363
            have h7367 : v7362 = v7191 := z7363.symm.trans ((rfl).trans z7192)
            have h7368 := congrArg Int32.toInt h7367
            refine r_bipush S dX12_isSaid_83 (by decide) (fun v7369 z7370 => ?_)
            have r7371 := R_eq z7370
            refine r_icmp_ne (tgt := 167) S dX12_isSaid_85 (by decide) (fun c7372 => ?_) (fun c7372 => ?_)
            ·
              refine r_aload_n S dX12_isSaid_167 rfl (lv_at hl 1 rfl) ?_
              refine r_get (K := 38) (v := .ref (G.2.2.2.1 149)) S X7157 (Nat.le_of_ble_eq_true rfl) rfl lk12_87_10 (fun _ => ⟨_, rfl, rfl⟩) dX12_isSaid_168 ?_
              refine r_iload_n S dX12_isSaid_171 rfl (lv_at hl 3 rfl) ?_
              refine r_aload_n S dX12_isSaid_172 rfl (lv_at hl 1 rfl) ?_
              refine r_iload_n S dX12_isSaid_173 rfl (lv_at hl 2 rfl) ?_
              refine r_aload_n S dX12_isSaid_174 rfl (lv_at hl 1 rfl) ?_
              refine r_get (K := 38) (v := .ref (G.2.2.2.1 133)) S X7157 (Nat.le_of_ble_eq_true rfl) rfl lk12_33_10 (fun _ => ⟨_, rfl, rfl⟩) dX12_isSaid_175 ?_
              refine r_iload S dX12_isSaid_178 (lv_at hl 0 rfl) ?_
              refine r_aldn (n := 513) (K := 40) S X7157 (Nat.le_of_ble_eq_true rfl) rfl (fun _ => rfl) (ix_of r7190 rfl) dX12_isSaid_180 (fun v7373 z7374 => ?_)
              have r7376 := R_any v7373
              have g7377 : Rg 40 v7187.toNatClampNeg v7373 := rd I7155 rfl z7374
              have h7378 : v7373 = v7191 := z7374.symm.trans ((rfl).trans z7192)
              have h7379 := congrArg Int32.toInt h7378
              refine r_aload_n S dX12_isSaid_181 rfl (lv_at hl 1 rfl) ?_
              refine r_get (K := 38) (v := .ref (G.2.2.2.1 133)) S X7157 (Nat.le_of_ble_eq_true rfl) rfl lk12_33_10 (fun _ => ⟨_, rfl, rfl⟩) dX12_isSaid_182 ?_
              refine r_iload S dX12_isSaid_185 (lv_at hl 0 rfl) ?_
              refine r_iconst S dX12_isSaid_187 (by decide) (fun v7380 z7381 => ?_)
              have r7382 := R_eq z7381
              refine r_iadd S dX12_isSaid_188 (fun v7383 z7384 => ?_)
              obtain ⟨e7385, r7386⟩ := i_add (lo := 334) (hi := 490) z7384 r7190 r7382 rfl
              refine r_aldn (n := 513) (K := 40) S X7157 (Nat.le_of_ble_eq_true rfl) rfl (fun _ => rfl) (ix_of r7386 rfl) dX12_isSaid_189 (fun v7387 z7388 => ?_)
              have r7390 := R_any v7387
              have g7391 : Rg 40 v7383.toNatClampNeg v7387 := rd I7155 rfl z7388
              refine r_aload_n S dX12_isSaid_190 rfl (lv_at hl 1 rfl) ?_
              refine r_get (K := 38) (v := .ref (G.2.2.2.1 133)) S X7157 (Nat.le_of_ble_eq_true rfl) rfl lk12_33_10 (fun _ => ⟨_, rfl, rfl⟩) dX12_isSaid_191 ?_
              refine r_iload S dX12_isSaid_194 (lv_at hl 0 rfl) ?_
              refine r_iconst S dX12_isSaid_196 (by decide) (fun v7392 z7393 => ?_)
              have r7394 := R_eq z7393
              refine r_iadd S dX12_isSaid_197 (fun v7395 z7396 => ?_)
              obtain ⟨e7397, r7398⟩ := i_add (lo := 335) (hi := 491) z7396 r7190 r7394 rfl
              refine r_aldn (n := 513) (K := 40) S X7157 (Nat.le_of_ble_eq_true rfl) rfl (fun _ => rfl) (ix_of r7398 rfl) dX12_isSaid_198 (fun v7399 z7400 => ?_)
              have r7402 := R_any v7399
              have g7403 : Rg 40 v7395.toNatClampNeg v7399 := rd I7155 rfl z7400
              refine r_ki (q_V (As := [.int a0, .int v7373, .int v7387, .int v7399]) (rest := [.int i7150, .ref (G.2.2.2.1 149)]) (K := 38) (ci := 10) S X7157 (c_X12_isLeaf l G t7154 I7155 a0 v7373 v7387 v7399 h_a0 r7376 r7390 r7402 (PF_leaf hp_0 (i := i7152) (by omega) ((F7156 133 332 (by simp [fz])).symm.trans (zc (n := 332) (by omega) z7165)) (by omega) (ix := v7187) (by omega) ((F7156 133 v7187.toNatClampNeg (by simp [fz])).symm.trans z7374) (by omega) ((F7156 133 v7395.toNatClampNeg (by simp [fz])).symm.trans z7400))) ck12_437 (Nat.le_of_ble_eq_true rfl) rfl (fun _ => ⟨_, rfl⟩) ⟨_, _, rfl⟩ ⟨Nat.le_of_ble_eq_true rfl, Nat.le_of_ble_eq_true rfl⟩ rfl hl.1 rfl (Nat.le_of_ble_eq_true rfl) dX12_isSaid_199 ⟨Nat.le_refl 0, Nat.le_refl 0⟩) X7157 (fun v7407 t7406 H lc q7404 X7405 => ?_)
              unfold po_X12_isLeaf at q7404
              obtain ⟨q7408, q7409⟩ := q7404
              rw [q7408] at X7405
              refine r_zast (n := 45) (K := 56) S X7405 (Nat.le_of_ble_eq_true rfl) rfl (fun _ _ => rfl) (ix_of r7198 rfl) (R_of (lo := 0) (hi := 1) q7409 rfl) dX12_isSaid_202 (fun t7410 H lc M7411 X7412 => ?_)
              have I7413 := Inv_mu I7155 M7411 (show Rg (kd 149) _ v7407 from (R_of (lo := 0) (hi := 1) q7409 rfl))
              have F7414 : Fr [] [149] τ t7410 := Fr_cell F7156 M7411 (by decide)
              refine r_iinc (k := 3) S dX12_isSaid_203 hl rfl (by decide) (by decide) (fun v7415 d7416 ls z7417 z7418 hl => ?_)
              obtain ⟨e7419, r7420⟩ := i_add (lo := 1) (hi := 40) z7417 r7198 (R_eq z7418) rfl
              have hl : lv_has ls 5 [(2, .int v7415), (4, .int v7187), (0, .ref (G.2.2.2.1 131)), (1, .int a0), (3, .int i7152)] := hl
              refine r_iinc (k := 4) S dX12_isSaid_206 hl rfl (by decide) (by decide) (fun v7421 d7422 ls z7423 z7424 hl => ?_)
              obtain ⟨e7425, r7426⟩ := i_add (lo := 1) (hi := 53) z7423 r7174 (R_eq z7424) rfl
              have hl : lv_has ls 5 [(3, .int v7421), (2, .int v7415), (4, .int v7187), (0, .ref (G.2.2.2.1 131)), (1, .int a0)] := hl
              refine r_goto (tgt := 4) S dX12_isSaid_209 (by decide) ?_
              exact ih7160 t7410 _ _ _ v7415 v7421 X7412 I7413 F7414 (R_of r7420 rfl) (R_of r7426 rfl) (PF_dp (by omega) x7159 (ix := v7187) (by omega) ((F7156 133 v7187.toNatClampNeg (by simp [fz])).symm.trans z7192) (by omega) (by omega)) (lv_sub hl [3, 4, 1, 0] rfl) (by omega)
            ·
              have r7427 : R (22) (22) v7362 := ⟨by omega, by omega⟩
              refine r_iinc (k := 3) S dX12_isSaid_88 hl rfl (by decide) (by decide) (fun v7428 d7429 ls z7430 z7431 hl => ?_)
              obtain ⟨e7432, r7433⟩ := i_add (lo := -1) (hi := 38) z7430 r7198 (R_eq z7431) rfl
              have hl : lv_has ls 5 [(2, .int v7428), (4, .int v7187), (0, .ref (G.2.2.2.1 131)), (1, .int a0), (3, .int i7152)] := hl
              refine r_aload_n S dX12_isSaid_91 rfl (lv_at hl 2 rfl) ?_
              refine r_get (K := 38) (v := .ref (G.2.2.2.1 149)) S X7157 (Nat.le_of_ble_eq_true rfl) rfl lk12_87_10 (fun _ => ⟨_, rfl, rfl⟩) dX12_isSaid_92 ?_
              refine r_iload_n S dX12_isSaid_95 rfl (lv_at hl 0 rfl) ?_
              refine r_iconst S dX12_isSaid_96 (by decide) (fun v7434 z7435 => ?_)
              have r7436 := R_eq z7435
              refine r_isub S dX12_isSaid_97 (fun v7437 z7438 => ?_)
              obtain ⟨e7439, r7440⟩ := i_sub (lo := -2) (hi := 37) z7438 r7433 r7436 rfl
              refine r_aload_n S dX12_isSaid_98 rfl (lv_at hl 2 rfl) ?_
              refine r_get (K := 38) (v := .ref (G.2.2.2.1 133)) S X7157 (Nat.le_of_ble_eq_true rfl) rfl lk12_33_10 (fun _ => ⟨_, rfl, rfl⟩) dX12_isSaid_99 ?_
              refine r_iload S dX12_isSaid_102 (lv_at hl 1 rfl) ?_
              refine r_aldn (n := 513) (K := 40) S X7157 (Nat.le_of_ble_eq_true rfl) rfl (fun _ => rfl) (ix_of r7190 rfl) dX12_isSaid_104 (fun v7441 z7442 => ?_)
              have r7444 := R_any v7441
              have g7445 : Rg 40 v7187.toNatClampNeg v7441 := rd I7155 rfl z7442
              have h7446 : v7441 = v7191 := z7442.symm.trans ((rfl).trans z7192)
              have h7447 := congrArg Int32.toInt h7446
              refine r_bipush S dX12_isSaid_105 (by decide) (fun v7448 z7449 => ?_)
              have r7450 := R_eq z7449
              refine r_icmp_ne (tgt := 138) S dX12_isSaid_107 (by decide) (fun c7451 => ?_) (fun c7451 => ?_)
              ·
                refine r_aload_n S dX12_isSaid_138 rfl (lv_at hl 2 rfl) ?_
                refine r_get (K := 38) (v := .ref (G.2.2.2.1 149)) S X7157 (Nat.le_of_ble_eq_true rfl) rfl lk12_87_10 (fun _ => ⟨_, rfl, rfl⟩) dX12_isSaid_139 ?_
                refine r_iload_n S dX12_isSaid_142 rfl (lv_at hl 0 rfl) ?_
                refine r_iconst S dX12_isSaid_143 (by decide) (fun v7452 z7453 => ?_)
                have r7454 := R_eq z7453
                refine r_isub S dX12_isSaid_144 (fun v7455 z7456 => ?_)
                obtain ⟨e7457, r7458⟩ := i_sub (lo := -2) (hi := 37) z7456 r7433 r7454 rfl
                refine r_zald (n := 45) (K := 56) S X7157 (Nat.le_of_ble_eq_true rfl) rfl (fun _ => rfl) (by omega) dX12_isSaid_145 (fun v7459 z7460 => ?_)
                have r7461 : R (0) (1) v7459 := rd I7155 rfl z7460
                refine r_if_ne (tgt := 158) S dX12_isSaid_146 (by decide) (fun c7462 => ?_) (fun c7462 => ?_)
                ·
                  have r7463 : R (1) (1) v7459 := ⟨by omega, by omega⟩
                  refine r_iconst S dX12_isSaid_158 (by decide) (fun v7464 z7465 => ?_)
                  have r7466 := R_eq z7465
                  refine r_goto (tgt := 163) S dX12_isSaid_159 (by decide) ?_
                  refine r_zast (n := 45) (K := 56) S X7157 (Nat.le_of_ble_eq_true rfl) rfl (fun _ _ => rfl) (by omega) (R_of (lo := 0) (hi := 1) r7466 rfl) dX12_isSaid_163 (fun t7467 H lc M7468 X7469 => ?_)
                  have I7470 := Inv_mu I7155 M7468 (show Rg (kd 149) _ v7464 from (R_of (lo := 0) (hi := 1) r7466 rfl))
                  have F7471 : Fr [] [149] τ t7467 := Fr_cell F7156 M7468 (by decide)
                  refine r_goto (tgt := 206) S dX12_isSaid_164 (by decide) ?_
                  refine r_iinc (k := 4) S dX12_isSaid_206 hl rfl (by decide) (by decide) (fun v7472 d7473 ls z7474 z7475 hl => ?_)
                  obtain ⟨e7476, r7477⟩ := i_add (lo := 1) (hi := 53) z7474 r7174 (R_eq z7475) rfl
                  have hl : lv_has ls 5 [(3, .int v7472), (2, .int v7428), (4, .int v7187), (0, .ref (G.2.2.2.1 131)), (1, .int a0)] := hl
                  refine r_goto (tgt := 4) S dX12_isSaid_209 (by decide) ?_
                  exact ih7160 t7467 _ _ _ v7428 v7472 X7469 I7470 F7471 (R_of r7433 rfl) (R_of r7477 rfl) (PF_dp (by omega) x7159 (ix := v7187) (by omega) ((F7156 133 v7187.toNatClampNeg (by simp [fz])).symm.trans z7192) (by omega) (by omega)) (lv_sub hl [3, 4, 1, 0] rfl) (by omega)
                ·
                  have r7478 : R (0) (0) v7459 := ⟨by omega, by omega⟩
                  refine r_aload_n S dX12_isSaid_149 rfl (lv_at hl 2 rfl) ?_
                  refine r_get (K := 38) (v := .ref (G.2.2.2.1 149)) S X7157 (Nat.le_of_ble_eq_true rfl) rfl lk12_87_10 (fun _ => ⟨_, rfl, rfl⟩) dX12_isSaid_150 ?_
                  refine r_iload_n S dX12_isSaid_153 rfl (lv_at hl 0 rfl) ?_
                  refine r_zald (n := 45) (K := 56) S X7157 (Nat.le_of_ble_eq_true rfl) rfl (fun _ => rfl) (by omega) dX12_isSaid_154 (fun v7479 z7480 => ?_)
                  have r7481 : R (0) (1) v7479 := rd I7155 rfl z7480
                  refine r_if_eq (tgt := 162) S dX12_isSaid_155 (by decide) (fun c7482 => ?_) (fun c7482 => ?_)
                  ·
                    have r7483 : R (0) (0) v7479 := ⟨by omega, by omega⟩
                    refine r_iconst S dX12_isSaid_162 (by decide) (fun v7484 z7485 => ?_)
                    have r7486 := R_eq z7485
                    refine r_zast (n := 45) (K := 56) S X7157 (Nat.le_of_ble_eq_true rfl) rfl (fun _ _ => rfl) (by omega) (R_of (lo := 0) (hi := 1) r7486 rfl) dX12_isSaid_163 (fun t7487 H lc M7488 X7489 => ?_)
                    have I7490 := Inv_mu I7155 M7488 (show Rg (kd 149) _ v7484 from (R_of (lo := 0) (hi := 1) r7486 rfl))
                    have F7491 : Fr [] [149] τ t7487 := Fr_cell F7156 M7488 (by decide)
                    refine r_goto (tgt := 206) S dX12_isSaid_164 (by decide) ?_
                    refine r_iinc (k := 4) S dX12_isSaid_206 hl rfl (by decide) (by decide) (fun v7492 d7493 ls z7494 z7495 hl => ?_)
                    obtain ⟨e7496, r7497⟩ := i_add (lo := 1) (hi := 53) z7494 r7174 (R_eq z7495) rfl
                    have hl : lv_has ls 5 [(3, .int v7492), (2, .int v7428), (4, .int v7187), (0, .ref (G.2.2.2.1 131)), (1, .int a0)] := hl
                    refine r_goto (tgt := 4) S dX12_isSaid_209 (by decide) ?_
                    exact ih7160 t7487 _ _ _ v7428 v7492 X7489 I7490 F7491 (R_of r7433 rfl) (R_of r7497 rfl) (PF_dp (by omega) x7159 (ix := v7187) (by omega) ((F7156 133 v7187.toNatClampNeg (by simp [fz])).symm.trans z7192) (by omega) (by omega)) (lv_sub hl [3, 4, 1, 0] rfl) (by omega)
                  ·
                    have r7498 : R (1) (1) v7479 := ⟨by omega, by omega⟩
                    refine r_iconst S dX12_isSaid_158 (by decide) (fun v7499 z7500 => ?_)
                    have r7501 := R_eq z7500
                    refine r_goto (tgt := 163) S dX12_isSaid_159 (by decide) ?_
                    refine r_zast (n := 45) (K := 56) S X7157 (Nat.le_of_ble_eq_true rfl) rfl (fun _ _ => rfl) (by omega) (R_of (lo := 0) (hi := 1) r7501 rfl) dX12_isSaid_163 (fun t7502 H lc M7503 X7504 => ?_)
                    have I7505 := Inv_mu I7155 M7503 (show Rg (kd 149) _ v7499 from (R_of (lo := 0) (hi := 1) r7501 rfl))
                    have F7506 : Fr [] [149] τ t7502 := Fr_cell F7156 M7503 (by decide)
                    refine r_goto (tgt := 206) S dX12_isSaid_164 (by decide) ?_
                    refine r_iinc (k := 4) S dX12_isSaid_206 hl rfl (by decide) (by decide) (fun v7507 d7508 ls z7509 z7510 hl => ?_)
                    obtain ⟨e7511, r7512⟩ := i_add (lo := 1) (hi := 53) z7509 r7174 (R_eq z7510) rfl
                    have hl : lv_has ls 5 [(3, .int v7507), (2, .int v7428), (4, .int v7187), (0, .ref (G.2.2.2.1 131)), (1, .int a0)] := hl
                    refine r_goto (tgt := 4) S dX12_isSaid_209 (by decide) ?_
                    exact ih7160 t7502 _ _ _ v7428 v7507 X7504 I7505 F7506 (R_of r7433 rfl) (R_of r7512 rfl) (PF_dp (by omega) x7159 (ix := v7187) (by omega) ((F7156 133 v7187.toNatClampNeg (by simp [fz])).symm.trans z7192) (by omega) (by omega)) (lv_sub hl [3, 4, 1, 0] rfl) (by omega)
              ·
                have r7513 : R (21) (21) v7441 := ⟨by omega, by omega⟩
                refine r_aload_n S dX12_isSaid_110 rfl (lv_at hl 2 rfl) ?_
                refine r_get (K := 38) (v := .ref (G.2.2.2.1 149)) S X7157 (Nat.le_of_ble_eq_true rfl) rfl lk12_87_10 (fun _ => ⟨_, rfl, rfl⟩) dX12_isSaid_111 ?_
                refine r_iload_n S dX12_isSaid_114 rfl (lv_at hl 0 rfl) ?_
                refine r_iconst S dX12_isSaid_115 (by decide) (fun v7514 z7515 => ?_)
                have r7516 := R_eq z7515
                refine r_isub S dX12_isSaid_116 (fun v7517 z7518 => ?_)
                obtain ⟨e7519, r7520⟩ := i_sub (lo := -2) (hi := 37) z7518 r7433 r7516 rfl
                refine r_zald (n := 45) (K := 56) S X7157 (Nat.le_of_ble_eq_true rfl) rfl (fun _ => rfl) (by omega) dX12_isSaid_117 (fun v7521 z7522 => ?_)
                have r7523 : R (0) (1) v7521 := rd I7155 rfl z7522
                refine r_if_eq (tgt := 134) S dX12_isSaid_118 (by decide) (fun c7524 => ?_) (fun c7524 => ?_)
                ·
                  have r7525 : R (0) (0) v7521 := ⟨by omega, by omega⟩
                  refine r_iconst S dX12_isSaid_134 (by decide) (fun v7526 z7527 => ?_)
                  have r7528 := R_eq z7527
                  refine r_goto (tgt := 163) S dX12_isSaid_135 (by decide) ?_
                  refine r_zast (n := 45) (K := 56) S X7157 (Nat.le_of_ble_eq_true rfl) rfl (fun _ _ => rfl) (by omega) (R_of (lo := 0) (hi := 1) r7528 rfl) dX12_isSaid_163 (fun t7529 H lc M7530 X7531 => ?_)
                  have I7532 := Inv_mu I7155 M7530 (show Rg (kd 149) _ v7526 from (R_of (lo := 0) (hi := 1) r7528 rfl))
                  have F7533 : Fr [] [149] τ t7529 := Fr_cell F7156 M7530 (by decide)
                  refine r_goto (tgt := 206) S dX12_isSaid_164 (by decide) ?_
                  refine r_iinc (k := 4) S dX12_isSaid_206 hl rfl (by decide) (by decide) (fun v7534 d7535 ls z7536 z7537 hl => ?_)
                  obtain ⟨e7538, r7539⟩ := i_add (lo := 1) (hi := 53) z7536 r7174 (R_eq z7537) rfl
                  have hl : lv_has ls 5 [(3, .int v7534), (2, .int v7428), (4, .int v7187), (0, .ref (G.2.2.2.1 131)), (1, .int a0)] := hl
                  refine r_goto (tgt := 4) S dX12_isSaid_209 (by decide) ?_
                  exact ih7160 t7529 _ _ _ v7428 v7534 X7531 I7532 F7533 (R_of r7433 rfl) (R_of r7539 rfl) (PF_dp (by omega) x7159 (ix := v7187) (by omega) ((F7156 133 v7187.toNatClampNeg (by simp [fz])).symm.trans z7192) (by omega) (by omega)) (lv_sub hl [3, 4, 1, 0] rfl) (by omega)
                ·
                  have r7540 : R (1) (1) v7521 := ⟨by omega, by omega⟩
                  refine r_aload_n S dX12_isSaid_121 rfl (lv_at hl 2 rfl) ?_
                  refine r_get (K := 38) (v := .ref (G.2.2.2.1 149)) S X7157 (Nat.le_of_ble_eq_true rfl) rfl lk12_87_10 (fun _ => ⟨_, rfl, rfl⟩) dX12_isSaid_122 ?_
                  refine r_iload_n S dX12_isSaid_125 rfl (lv_at hl 0 rfl) ?_
                  refine r_zald (n := 45) (K := 56) S X7157 (Nat.le_of_ble_eq_true rfl) rfl (fun _ => rfl) (by omega) dX12_isSaid_126 (fun v7541 z7542 => ?_)
                  have r7543 : R (0) (1) v7541 := rd I7155 rfl z7542
                  refine r_if_eq (tgt := 134) S dX12_isSaid_127 (by decide) (fun c7544 => ?_) (fun c7544 => ?_)
                  ·
                    have r7545 : R (0) (0) v7541 := ⟨by omega, by omega⟩
                    refine r_iconst S dX12_isSaid_134 (by decide) (fun v7546 z7547 => ?_)
                    have r7548 := R_eq z7547
                    refine r_goto (tgt := 163) S dX12_isSaid_135 (by decide) ?_
                    refine r_zast (n := 45) (K := 56) S X7157 (Nat.le_of_ble_eq_true rfl) rfl (fun _ _ => rfl) (by omega) (R_of (lo := 0) (hi := 1) r7548 rfl) dX12_isSaid_163 (fun t7549 H lc M7550 X7551 => ?_)
                    have I7552 := Inv_mu I7155 M7550 (show Rg (kd 149) _ v7546 from (R_of (lo := 0) (hi := 1) r7548 rfl))
                    have F7553 : Fr [] [149] τ t7549 := Fr_cell F7156 M7550 (by decide)
                    refine r_goto (tgt := 206) S dX12_isSaid_164 (by decide) ?_
                    refine r_iinc (k := 4) S dX12_isSaid_206 hl rfl (by decide) (by decide) (fun v7554 d7555 ls z7556 z7557 hl => ?_)
                    obtain ⟨e7558, r7559⟩ := i_add (lo := 1) (hi := 53) z7556 r7174 (R_eq z7557) rfl
                    have hl : lv_has ls 5 [(3, .int v7554), (2, .int v7428), (4, .int v7187), (0, .ref (G.2.2.2.1 131)), (1, .int a0)] := hl
                    refine r_goto (tgt := 4) S dX12_isSaid_209 (by decide) ?_
                    exact ih7160 t7549 _ _ _ v7428 v7554 X7551 I7552 F7553 (R_of r7433 rfl) (R_of r7559 rfl) (PF_dp (by omega) x7159 (ix := v7187) (by omega) ((F7156 133 v7187.toNatClampNeg (by simp [fz])).symm.trans z7192) (by omega) (by omega)) (lv_sub hl [3, 4, 1, 0] rfl) (by omega)
                  ·
                    have r7560 : R (1) (1) v7541 := ⟨by omega, by omega⟩
                    refine r_iconst S dX12_isSaid_130 (by decide) (fun v7561 z7562 => ?_)
                    have r7563 := R_eq z7562
                    refine r_goto (tgt := 163) S dX12_isSaid_131 (by decide) ?_
                    refine r_zast (n := 45) (K := 56) S X7157 (Nat.le_of_ble_eq_true rfl) rfl (fun _ _ => rfl) (by omega) (R_of (lo := 0) (hi := 1) r7563 rfl) dX12_isSaid_163 (fun t7564 H lc M7565 X7566 => ?_)
                    have I7567 := Inv_mu I7155 M7565 (show Rg (kd 149) _ v7561 from (R_of (lo := 0) (hi := 1) r7563 rfl))
                    have F7568 : Fr [] [149] τ t7564 := Fr_cell F7156 M7565 (by decide)
                    refine r_goto (tgt := 206) S dX12_isSaid_164 (by decide) ?_
                    refine r_iinc (k := 4) S dX12_isSaid_206 hl rfl (by decide) (by decide) (fun v7569 d7570 ls z7571 z7572 hl => ?_)
                    obtain ⟨e7573, r7574⟩ := i_add (lo := 1) (hi := 53) z7571 r7174 (R_eq z7572) rfl
                    have hl : lv_has ls 5 [(3, .int v7569), (2, .int v7428), (4, .int v7187), (0, .ref (G.2.2.2.1 131)), (1, .int a0)] := hl
                    refine r_goto (tgt := 4) S dX12_isSaid_209 (by decide) ?_
                    exact ih7160 t7564 _ _ _ v7428 v7569 X7566 I7567 F7568 (R_of r7433 rfl) (R_of r7574 rfl) (PF_dp (by omega) x7159 (ix := v7187) (by omega) ((F7156 133 v7187.toNatClampNeg (by simp [fz])).symm.trans z7192) (by omega) (by omega)) (lv_sub hl [3, 4, 1, 0] rfl) (by omega)
        ·
          have r7575 : R (20) (20) v7191 := ⟨by omega, by omega⟩
          refine r_aload_n S dX12_isSaid_37 rfl (lv_at hl 1 rfl) ?_
          refine r_get (K := 38) (v := .ref (G.2.2.2.1 149)) S X7157 (Nat.le_of_ble_eq_true rfl) rfl lk12_87_10 (fun _ => ⟨_, rfl, rfl⟩) dX12_isSaid_38 ?_
          refine r_iload_n S dX12_isSaid_41 rfl (lv_at hl 3 rfl) ?_
          refine r_iconst S dX12_isSaid_42 (by decide) (fun v7576 z7577 => ?_)
          have r7578 := R_eq z7577
          refine r_isub S dX12_isSaid_43 (fun v7579 z7580 => ?_)
          obtain ⟨e7581, r7582⟩ := i_sub (lo := -1) (hi := 38) z7580 r7198 r7578 rfl
          refine r_aload_n S dX12_isSaid_44 rfl (lv_at hl 1 rfl) ?_
          refine r_get (K := 38) (v := .ref (G.2.2.2.1 149)) S X7157 (Nat.le_of_ble_eq_true rfl) rfl lk12_87_10 (fun _ => ⟨_, rfl, rfl⟩) dX12_isSaid_45 ?_
          refine r_iload_n S dX12_isSaid_48 rfl (lv_at hl 3 rfl) ?_
          refine r_iconst S dX12_isSaid_49 (by decide) (fun v7583 z7584 => ?_)
          have r7585 := R_eq z7584
          refine r_isub S dX12_isSaid_50 (fun v7586 z7587 => ?_)
          obtain ⟨e7588, r7589⟩ := i_sub (lo := -1) (hi := 38) z7587 r7198 r7585 rfl
          refine r_zald (n := 45) (K := 56) S X7157 (Nat.le_of_ble_eq_true rfl) rfl (fun _ => rfl) (by omega) dX12_isSaid_51 (fun v7590 z7591 => ?_)
          have r7592 : R (0) (1) v7590 := rd I7155 rfl z7591
          refine r_if_ne (tgt := 59) S dX12_isSaid_52 (by decide) (fun c7593 => ?_) (fun c7593 => ?_)
          ·
            have r7594 : R (1) (1) v7590 := ⟨by omega, by omega⟩
            refine r_iconst S dX12_isSaid_59 (by decide) (fun v7595 z7596 => ?_)
            have r7597 := R_eq z7596
            refine r_zast (n := 45) (K := 56) S X7157 (Nat.le_of_ble_eq_true rfl) rfl (fun _ _ => rfl) (by omega) (R_of (lo := 0) (hi := 1) r7597 rfl) dX12_isSaid_60 (fun t7598 H lc M7599 X7600 => ?_)
            have I7601 := Inv_mu I7155 M7599 (show Rg (kd 149) _ v7595 from (R_of (lo := 0) (hi := 1) r7597 rfl))
            have F7602 : Fr [] [149] τ t7598 := Fr_cell F7156 M7599 (by decide)
            refine r_goto (tgt := 206) S dX12_isSaid_61 (by decide) ?_
            refine r_iinc (k := 4) S dX12_isSaid_206 hl rfl (by decide) (by decide) (fun v7603 d7604 ls z7605 z7606 hl => ?_)
            obtain ⟨e7607, r7608⟩ := i_add (lo := 1) (hi := 53) z7605 r7174 (R_eq z7606) rfl
            have hl : lv_has ls 5 [(3, .int v7603), (4, .int v7187), (0, .ref (G.2.2.2.1 131)), (1, .int a0), (2, .int i7150)] := hl
            refine r_goto (tgt := 4) S dX12_isSaid_209 (by decide) ?_
            exact ih7160 t7598 _ _ _ i7150 v7603 X7600 I7601 F7602 (R_of r7198 rfl) (R_of r7608 rfl) (PF_dp (by omega) x7159 (ix := v7187) (by omega) ((F7156 133 v7187.toNatClampNeg (by simp [fz])).symm.trans z7192) (by omega) (by omega)) (lv_sub hl [2, 3, 4, 0] rfl) (by omega)
          ·
            have r7609 : R (0) (0) v7590 := ⟨by omega, by omega⟩
            refine r_iconst S dX12_isSaid_55 (by decide) (fun v7610 z7611 => ?_)
            have r7612 := R_eq z7611
            refine r_goto (tgt := 60) S dX12_isSaid_56 (by decide) ?_
            refine r_zast (n := 45) (K := 56) S X7157 (Nat.le_of_ble_eq_true rfl) rfl (fun _ _ => rfl) (by omega) (R_of (lo := 0) (hi := 1) r7612 rfl) dX12_isSaid_60 (fun t7613 H lc M7614 X7615 => ?_)
            have I7616 := Inv_mu I7155 M7614 (show Rg (kd 149) _ v7610 from (R_of (lo := 0) (hi := 1) r7612 rfl))
            have F7617 : Fr [] [149] τ t7613 := Fr_cell F7156 M7614 (by decide)
            refine r_goto (tgt := 206) S dX12_isSaid_61 (by decide) ?_
            refine r_iinc (k := 4) S dX12_isSaid_206 hl rfl (by decide) (by decide) (fun v7618 d7619 ls z7620 z7621 hl => ?_)
            obtain ⟨e7622, r7623⟩ := i_add (lo := 1) (hi := 53) z7620 r7174 (R_eq z7621) rfl
            have hl : lv_has ls 5 [(3, .int v7618), (4, .int v7187), (0, .ref (G.2.2.2.1 131)), (1, .int a0), (2, .int i7150)] := hl
            refine r_goto (tgt := 4) S dX12_isSaid_209 (by decide) ?_
            exact ih7160 t7613 _ _ _ i7150 v7618 X7615 I7616 F7617 (R_of r7198 rfl) (R_of r7623 rfl) (PF_dp (by omega) x7159 (ix := v7187) (by omega) ((F7156 133 v7187.toNatClampNeg (by simp [fz])).symm.trans z7192) (by omega) (by omega)) (lv_sub hl [2, 3, 4, 0] rfl) (by omega)
  exact L7158 _ τ _ _ _ v1 v4 X hI Fr_rfl (R_of r3 rfl) (R_of r6 rfl) (by have a : v4.toInt.toNat = 0 := (by omega); rw [a]; show v1.toInt = 0; omega) (lv_sub hl [2, 3, 1, 0] rfl) (Nat.lt_succ_self _)
def po_X12_said (τ : Tau)  (a0 : Int32) (r : Int32) (u : Tau) : Prop := Inv u ∧ Fr [(131, 0)] [149] τ u
set_option maxHeartbeats 4000000 in
set_option maxRecDepth 100000 in
theorem c_X12_said (l : Launch) (G : Gx) (τ : Tau) (hI : Inv τ) (a0 : Int32) (h_a0 : R (-2147483648) (2147483647) a0) (hp_0 : PF τ) : Ci l G yX12_said cX12_said 4 (some .int) 5 116 [.ref (G.2.2.2.1 131), .int a0] τ (po_X12_said τ  a0) := by
  unfold Ci
  refine C_of (own := RX12) (by decide) rfl (Nat.le_of_ble_eq_true rfl) ?_
  intro p e s m below meth c ls S hr hlk X hl
  have hl : lv_has ls 4 [(0, .ref (G.2.2.2.1 131)), (1, .int a0)] := hl
  refine r_aload_n S dX12_said_0 rfl (lv_at hl 0 rfl) ?_
  refine r_iconst S dX12_said_1 (by decide) (fun v1 z2 => ?_)
  have r3 := R_eq z2
  refine r_put (K := 38) (ty := .int) S X (Nat.le_of_ble_eq_true rfl) rfl lk12_1_10 (fun _ => ⟨_, rfl, Nat.le_of_ble_eq_true rfl, rfl⟩) (fun _ _ _ h => by cases h; exact ⟨rfl, rfl⟩) rfl rfl dX12_said_2 (fun t4 H lc M5 X6 => ?_)
  have I7 := Inv_mu hI M5 (R_any v1)
  have F8 : Fr [(131, 0)] [149] τ t4 := Fr_mu Fr_rfl M5 (by decide)
  refine r_aload_n S dX12_said_5 rfl (lv_at hl 0 rfl) ?_
  refine r_get (K := 38) (v := .ref (G.2.2.2.1 133)) S X6 (Nat.le_of_ble_eq_true rfl) rfl lk12_33_10 (fun _ => ⟨_, rfl, rfl⟩) dX12_said_6 ?_
  refine r_sipush S dX12_said_9 (by decide) (fun v9 z10 => ?_)
  have r11 := R_eq z10
  refine r_aldn (n := 513) (K := 40) S X6 (Nat.le_of_ble_eq_true rfl) rfl (fun _ => rfl) (ix_of r11 rfl) dX12_said_12 (fun v12 z13 => ?_)
  have r14 : R (0) (53) v12 := rds (K := 40) (a := 332) (n := 1) I7 rfl z13 (R_of r11 rfl) (by decide +kernel)
  refine r_if_eq (tgt := 21) S dX12_said_13 (by decide) (fun c15 => ?_) (fun c15 => ?_)
  ·
    have r16 : R (0) (0) v12 := ⟨by omega, by omega⟩
    refine r_iconst S dX12_said_21 (by decide) (fun v17 z18 => ?_)
    have r19 := R_eq z18
    exact r_ret S hr hlk X6 ⟨I7, F8⟩ rfl dX12_said_22
  ·
    have r20 : R (1) (53) v12 := ⟨by omega, by omega⟩
    refine r_iload_n S dX12_said_16 rfl (lv_at hl 1 rfl) ?_
    refine r_iconst S dX12_said_17 (by decide) (fun v21 z22 => ?_)
    have r23 := R_eq z22
    refine r_icmp_ge (tgt := 23) S dX12_said_18 (by decide) (fun c24 => ?_) (fun c24 => ?_)
    ·
      have r25 : R (-1) (2147483647) a0 := ⟨by omega, by omega⟩
      refine r_iconst S dX12_said_23 (by decide) (fun v26 z27 => ?_)
      have r28 := R_eq z27
      refine r_istore_n (lv' := [(2, .int v26), (0, .ref (G.2.2.2.1 131)), (1, .int a0)]) S dX12_said_24 rfl hl (by decide) rfl (fun ls hl => ?_)
      refine r_iconst S dX12_said_25 (by decide) (fun v29 z30 => ?_)
      have r31 := R_eq z30
      refine r_istore_n (lv' := [(3, .int v29), (2, .int v26), (0, .ref (G.2.2.2.1 131)), (1, .int a0)]) S dX12_said_26 rfl hl (by decide) rfl (fun ls hl => ?_)
      have L2185 : ∀ (n : Nat) (t2179 : Tau) (H : Heap) (lc : List Loc) (ls : Array Slot) (i2175 : Int32) (i2177 : Int32), Xd G s H lc t2179 → Inv t2179 → Fr [(131, 0)] [149] τ t2179 → R (-2147483648) (2147483647) i2175 → R (0) (10) i2177 → t2179 131 0 = v1 → t2179 133 332 = v12 → lv_has ls 4 [(0, .ref (G.2.2.2.1 131)), (1, .int a0), (2, .int i2175), (3, .int i2177)] → (10 - i2177.toInt).toNat < n → W p l e (Rm 5 116) s m ([.ref (G.2.2.2.1 131), .int a0] : List Value).toArray below meth c H lc 0 0 (MQ below (va_Qi (po_X12_said τ  a0) (Bs G) G.2.2.2.2) ([.ref (G.2.2.2.1 131), .int a0] : List Value).toArray s 0 0 G.2.2.2.2) (F0 m 27 ls []) := by
        intro n
        induction n with
        | zero => intros; omega
        | succ n ih2186 =>
          intro t2179 H lc ls i2175 i2177 X2182 I2180 F2181 r2176 r2178 z2183 z2184 hl hm
          refine r_iload_n S dX12_said_27 rfl (lv_at hl 3 rfl) ?_
          refine r_aload_n S dX12_said_28 rfl (lv_at hl 0 rfl) ?_
          refine r_get (K := 38) (v := .ref (G.2.2.2.1 133)) S X2182 (Nat.le_of_ble_eq_true rfl) rfl lk12_33_10 (fun _ => ⟨_, rfl, rfl⟩) dX12_said_29 ?_
          refine r_iconst S dX12_said_32 (by decide) (fun v2187 z2188 => ?_)
          have r2189 := R_eq z2188
          refine r_aldn (n := 513) (K := 40) S X2182 (Nat.le_of_ble_eq_true rfl) rfl (fun _ => rfl) (ix_of r2189 rfl) dX12_said_33 (fun v2190 z2191 => ?_)
          have r2192 : R (0) (10) v2190 := rds (K := 40) (a := 1) (n := 1) I2180 rfl z2191 (R_of r2189 rfl) (by decide +kernel)
          refine r_icmp_ge (tgt := 64) S dX12_said_34 (by decide) (fun c2193 => ?_) (fun c2193 => ?_)
          ·
            refine r_iload_n S dX12_said_64 rfl (lv_at hl 1 rfl) ?_
            refine r_iconst S dX12_said_65 (by decide) (fun v2194 z2195 => ?_)
            have r2196 := R_eq z2195
            refine r_icmp_ne (tgt := 73) S dX12_said_66 (by decide) (fun c2197 => ?_) (fun c2197 => ?_)
            ·
              have r2198 : R (0) (2147483647) a0 := ⟨by omega, by omega⟩
              refine r_iconst S dX12_said_73 (by decide) (fun v2199 z2200 => ?_)
              have r2201 := R_eq z2200
              exact r_ret S hr hlk X2182 ⟨I2180, F2181⟩ rfl dX12_said_74
            ·
              have r2202 : R (-1) (-1) a0 := ⟨by omega, by omega⟩
              refine r_iload_n S dX12_said_69 rfl (lv_at hl 2 rfl) ?_
              refine r_goto (tgt := 74) S dX12_said_70 (by decide) ?_
              exact r_ret S hr hlk X2182 ⟨I2180, F2181⟩ rfl dX12_said_74
          ·
            have r2203 : R (0) (9) i2177 := ⟨by omega, by omega⟩
            have r2204 : R (1) (10) v2190 := ⟨by omega, by omega⟩
            refine r_aload_n S dX12_said_37 rfl (lv_at hl 0 rfl) ?_
            refine r_iload_n S dX12_said_38 rfl (lv_at hl 3 rfl) ?_
            refine r_ki (q_V (As := [.int i2177]) (rest := []) (K := 38) (ci := 10) S X2182 (c_X12_isSaid l G t2179 I2180 i2177 r2203 (PF_eq hp_0 (fun j _ => F2181 133 j (by simp [fz])))) ck12_440 (Nat.le_of_ble_eq_true rfl) rfl (fun _ => ⟨_, rfl⟩) ⟨_, _, rfl⟩ ⟨Nat.le_of_ble_eq_true rfl, Nat.le_of_ble_eq_true rfl⟩ rfl hl.1 rfl (Nat.le_of_ble_eq_true rfl) dX12_said_39 ⟨Nat.le_refl 0, Nat.le_refl 0⟩) X2182 (fun v2208 t2207 H lc q2205 X2206 => ?_)
            unfold po_X12_isSaid at q2205
            obtain ⟨q2209, q2210, q2211⟩ := q2205
            have F2212 : Fr [(131, 0)] [149] τ t2207 := Fr_call F2181 q2210 (by decide)
            refine r_if_ne (tgt := 48) S dX12_said_42 (by decide) (fun c2213 => ?_) (fun c2213 => ?_)
            ·
              have r2214 : R (1) (1) v2208 := ⟨by omega, by omega⟩
              refine r_iload_n S dX12_said_48 rfl (lv_at hl 2 rfl) ?_
              refine r_iload_n S dX12_said_49 rfl (lv_at hl 1 rfl) ?_
              refine r_icmp_ne (tgt := 55) S dX12_said_50 (by decide) (fun c2215 => ?_) (fun c2215 => ?_)
              ·
                refine r_iinc (k := 2) S dX12_said_55 hl rfl (by decide) (by decide) (fun v2216 d2217 ls z2218 z2219 hl => ?_)
                have r2220 := R_any v2216
                have hl : lv_has ls 4 [(2, .int v2216), (0, .ref (G.2.2.2.1 131)), (1, .int a0), (3, .int i2177)] := hl
                refine r_iinc (k := 3) S dX12_said_58 hl rfl (by decide) (by decide) (fun v2221 d2222 ls z2223 z2224 hl => ?_)
                obtain ⟨e2225, r2226⟩ := i_add (lo := 1) (hi := 10) z2223 r2203 (R_eq z2224) rfl
                have hl : lv_has ls 4 [(3, .int v2221), (2, .int v2216), (0, .ref (G.2.2.2.1 131)), (1, .int a0)] := hl
                refine r_goto (tgt := 27) S dX12_said_61 (by decide) ?_
                exact ih2186 t2207 _ _ _ v2216 v2221 X2206 q2209 F2212 r2220 (R_of r2226 rfl) ((q2210 131 0 (by decide)).trans z2183) ((q2210 133 332 (by decide)).trans z2184) (lv_sub hl [2, 3, 1, 0] rfl) (by omega)
              ·
                have r2227 : R (-1) (2147483647) i2175 := ⟨by omega, by omega⟩
                refine r_iload_n S dX12_said_53 rfl (lv_at hl 3 rfl) ?_
                exact r_ret S hr hlk X2206 ⟨q2209, F2212⟩ rfl dX12_said_54
            ·
              have r2228 : R (0) (0) v2208 := ⟨by omega, by omega⟩
              refine r_goto (tgt := 58) S dX12_said_45 (by decide) ?_
              refine r_iinc (k := 3) S dX12_said_58 hl rfl (by decide) (by decide) (fun v2229 d2230 ls z2231 z2232 hl => ?_)
              obtain ⟨e2233, r2234⟩ := i_add (lo := 1) (hi := 10) z2231 r2203 (R_eq z2232) rfl
              have hl : lv_has ls 4 [(3, .int v2229), (0, .ref (G.2.2.2.1 131)), (1, .int a0), (2, .int i2175)] := hl
              refine r_goto (tgt := 27) S dX12_said_61 (by decide) ?_
              exact ih2186 t2207 _ _ _ i2175 v2229 X2206 q2209 F2212 r2176 (R_of r2234 rfl) ((q2210 131 0 (by decide)).trans z2183) ((q2210 133 332 (by decide)).trans z2184) (lv_sub hl [1, 2, 3, 0] rfl) (by omega)
      exact L2185 _ t4 _ _ _ v26 v29 X6 I7 F8 (R_of r28 rfl) (R_of r31 rfl) M5.1 (zc (n := 332) (by omega) z13) (lv_sub hl [2, 3, 1, 0] rfl) (Nat.lt_succ_self _)
    ·
      have r2235 : R (-2147483648) (-2) a0 := ⟨by omega, by omega⟩
      refine r_iconst S dX12_said_21 (by decide) (fun v2236 z2237 => ?_)
      have r2238 := R_eq z2237
      exact r_ret S hr hlk X6 ⟨I7, F8⟩ rfl dX12_said_22
