def po_X12_spreads (τ : Tau)  (a0 : Int32)   (u : Tau) : Prop := Inv u ∧ Fr [] [140, 141, 142] τ u
set_option maxHeartbeats 4000000 in
set_option maxRecDepth 100000 in
theorem c_X12_spreads (l : Launch) (G : Gx) (τ : Tau) (hI : Inv τ) (a0 : Int32) (h_a0 : R (0) (8) a0) : Cv l G yX12_spreads cX12_spreads 9 5 116 [.ref (G.2.2.2.1 131), .int a0] τ (po_X12_spreads τ  a0  ) := by
  unfold Cv
  refine C_of (own := RX12) (by decide) rfl (Nat.le_of_ble_eq_true rfl) ?_
  intro p e s m below meth c ls S hr hlk X hl
  have hl : lv_has ls 9 [(0, .ref (G.2.2.2.1 131)), (1, .int a0)] := hl
  refine r_iconst S dX12_spreads_0 (by decide) (fun v1 z2 => ?_)
  have r3 := R_eq z2
  refine r_aload_n S dX12_spreads_1 rfl (lv_at hl 0 rfl) ?_
  refine r_get (K := 38) (v := .ref (G.2.2.2.1 133)) S X (Nat.le_of_ble_eq_true rfl) rfl lk12_33_10 (fun _ => ⟨_, rfl, rfl⟩) dX12_spreads_2 ?_
  refine r_iconst S dX12_spreads_5 (by decide) (fun v4 z5 => ?_)
  have r6 := R_eq z5
  refine r_aldn (n := 513) (K := 40) S X (Nat.le_of_ble_eq_true rfl) rfl (fun _ => rfl) (ix_of r6 rfl) dX12_spreads_6 (fun v7 z8 => ?_)
  have r9 : R (0) (10) v7 := rds (K := 40) (a := 1) (n := 1) hI rfl z8 (R_of r6 rfl) (by decide +kernel)
  refine r_ishl S dX12_spreads_7 (fun v10 z11 => ?_)
  have r13 : R (1) (1024) v10 := i_shl z11 r3 r9 rfl
  refine r_iconst S dX12_spreads_8 (by decide) (fun v14 z15 => ?_)
  have r16 := R_eq z15
  refine r_isub S dX12_spreads_9 (fun v17 z18 => ?_)
  obtain ⟨e19, r20⟩ := i_sub (lo := 0) (hi := 1023) z18 r13 r16 rfl
  refine r_istore_n (lv' := [(2, .int v17), (0, .ref (G.2.2.2.1 131)), (1, .int a0)]) S dX12_spreads_10 rfl hl (by decide) rfl (fun ls hl => ?_)
  refine r_iconst S dX12_spreads_11 (by decide) (fun v21 z22 => ?_)
  have r23 := R_eq z22
  refine r_istore_n (lv' := [(3, .int v21), (2, .int v17), (0, .ref (G.2.2.2.1 131)), (1, .int a0)]) S dX12_spreads_12 rfl hl (by decide) rfl (fun ls hl => ?_)
  have L4099 : ∀ (n : Nat) (t4094 : Tau) (H : Heap) (lc : List Loc) (ls : Array Slot) (i4092 : Int32), Xd G s H lc t4094 → Inv t4094 → Fr [] [140, 141, 142] τ t4094 → R (0) (1024) i4092 → t4094 133 1 = v7 → lv_has ls 9 [(0, .ref (G.2.2.2.1 131)), (1, .int a0), (2, .int v17), (3, .int i4092)] → (1024 - i4092.toInt).toNat < n → W p l e (Rm 5 116) s m ([.ref (G.2.2.2.1 131), .int a0] : List Value).toArray below meth c H lc 0 0 (MQ below (va_Qv (po_X12_spreads τ  a0  ) (Bs G) G.2.2.2.2) ([.ref (G.2.2.2.1 131), .int a0] : List Value).toArray s 0 0 G.2.2.2.2) (F0 m 13 ls []) := by
    intro n
    induction n with
    | zero => intros; omega
    | succ n ih4100 =>
      intro t4094 H lc ls i4092 X4097 I4095 F4096 r4093 z4098 hl hm
      refine r_iload_n S dX12_spreads_13 rfl (lv_at hl 3 rfl) ?_
      refine r_iload_n S dX12_spreads_14 rfl (lv_at hl 2 rfl) ?_
      refine r_icmp_gt (tgt := 73) S dX12_spreads_15 (by decide) (fun c4101 => ?_) (fun c4101 => ?_)
      ·
        have r4102 : R (1) (1024) i4092 := ⟨by omega, by omega⟩
        refine r_iconst S dX12_spreads_73 (by decide) (fun v4103 z4104 => ?_)
        have r4105 := R_eq z4104
        refine r_istore_n (lv' := [(3, .int v4103), (0, .ref (G.2.2.2.1 131)), (1, .int a0), (2, .int v17)]) S dX12_spreads_74 rfl hl (by decide) rfl (fun ls hl => ?_)
        have L5151 : ∀ (n : Nat) (t5146 : Tau) (H : Heap) (lc : List Loc) (ls : Array Slot) (i5144 : Int32), Xd G s H lc t5146 → Inv t5146 → Fr [] [140, 141, 142] τ t5146 → R (0) (2048) i5144 → t5146 133 1 = v7 → (∀ j : Nat, (j : Int) < i5144.toInt → (t5146 140 j).toInt = 100000) → lv_has ls 9 [(0, .ref (G.2.2.2.1 131)), (2, .int v17), (3, .int i5144)] → (2048 - i5144.toInt).toNat < n → W p l e (Rm 5 116) s m ([.ref (G.2.2.2.1 131), .int a0] : List Value).toArray below meth c H lc 0 0 (MQ below (va_Qv (po_X12_spreads τ  a0  ) (Bs G) G.2.2.2.2) ([.ref (G.2.2.2.1 131), .int a0] : List Value).toArray s 0 0 G.2.2.2.2) (F0 m 75 ls []) := by
          intro n
          induction n with
          | zero => intros; omega
          | succ n ih5153 =>
            intro t5146 H lc ls i5144 X5149 I5147 F5148 r5145 z5150 x5152 hl hm
            refine r_iload_n S dX12_spreads_75 rfl (lv_at hl 2 rfl) ?_
            refine r_sipush S dX12_spreads_76 (by decide) (fun v5154 z5155 => ?_)
            have r5156 := R_eq z5155
            refine r_icmp_ge (tgt := 97) S dX12_spreads_79 (by decide) (fun c5157 => ?_) (fun c5157 => ?_)
            ·
              have r5158 : R (2048) (2048) i5144 := ⟨by omega, by omega⟩
              refine r_iconst S dX12_spreads_97 (by decide) (fun v5159 z5160 => ?_)
              have r5161 := R_eq z5160
              refine r_istore_n (lv' := [(3, .int v5159), (0, .ref (G.2.2.2.1 131)), (2, .int v17)]) S dX12_spreads_98 rfl hl (by decide) rfl (fun ls hl => ?_)
              refine r_aload_n S dX12_spreads_99 rfl (lv_at hl 1 rfl) ?_
              refine r_get (K := 38) (v := .ref (G.2.2.2.1 141)) S X5149 (Nat.le_of_ble_eq_true rfl) rfl lk12_59_10 (fun _ => ⟨_, rfl, rfl⟩) dX12_spreads_100 ?_
              refine r_iconst S dX12_spreads_103 (by decide) (fun v5162 z5163 => ?_)
              have r5164 := R_eq z5163
              refine r_sipush S dX12_spreads_104 (by decide) (fun v5165 z5166 => ?_)
              have r5167 := R_eq z5166
              refine r_iload_n S dX12_spreads_107 rfl (lv_at hl 2 rfl) ?_
              refine r_ior S dX12_spreads_108 (fun v5168 z5169 => ?_)
              have r5171 : R (0) (2047) v5168 := i_or 11 z5169 r5167 r20 rfl
              refine r_ast (n := 2048) (K := 48) S X5149 (Nat.le_of_ble_eq_true rfl) rfl (fun _ _ => rfl) (ix_of r5164 rfl) dX12_spreads_109 (fun t5172 H lc M5173 X5174 => ?_)
              have I5175 := Inv_mu I5147 M5173 (show Rg (kd 141) _ v5168 from (R_of (lo := 0) (hi := 2047) r5171 rfl))
              have F5176 : Fr [] [140, 141, 142] τ t5172 := Fr_cell F5148 M5173 (by decide)
              refine r_aload_n S dX12_spreads_110 rfl (lv_at hl 1 rfl) ?_
              refine r_get (K := 38) (v := .ref (G.2.2.2.1 140)) S X5174 (Nat.le_of_ble_eq_true rfl) rfl lk12_56_10 (fun _ => ⟨_, rfl, rfl⟩) dX12_spreads_111 ?_
              refine r_sipush S dX12_spreads_114 (by decide) (fun v5177 z5178 => ?_)
              have r5179 := R_eq z5178
              refine r_iload_n S dX12_spreads_117 rfl (lv_at hl 2 rfl) ?_
              refine r_ior S dX12_spreads_118 (fun v5180 z5181 => ?_)
              have r5183 : R (0) (2047) v5180 := i_or 11 z5181 r5179 r20 rfl
              refine r_iconst S dX12_spreads_119 (by decide) (fun v5184 z5185 => ?_)
              have r5186 := R_eq z5185
              have h5187 : v5168 = v5180 := by rw [z5169, z5181, show v5165 = v5177 from Int32.toInt_inj.mp (by omega)]
              refine r_ast (n := 2048) (K := 47) S X5174 (Nat.le_of_ble_eq_true rfl) rfl (fun _ _ => rfl) (ix_of r5183 rfl) dX12_spreads_120 (fun t5188 H lc M5189 X5190 => ?_)
              have I5191 := Inv_mu I5175 M5189 (R_any v5184)
              have F5192 : Fr [] [140, 141, 142] τ t5188 := Fr_cell F5176 M5189 (by decide)
              refine r_iconst S dX12_spreads_121 (by decide) (fun v5193 z5194 => ?_)
              have r5195 := R_eq z5194
              refine r_istore (lv' := [(4, .int v5193), (3, .int v5159), (0, .ref (G.2.2.2.1 131)), (2, .int v17)]) S dX12_spreads_122 hl (by decide) rfl (fun ls hl => ?_)
              have L48721 : ∀ (n : Nat) (t48716 : Tau) (H : Heap) (lc : List Loc) (ls : Array Slot) (i48712 : Int32) (i48714 : Int32), Xd G s H lc t48716 → Inv t48716 → Fr [] [140, 141, 142] τ t48716 → R (1) (2048) i48712 → R (0) (2048) i48714 → t48716 133 1 = v7 → BF t48716 i48712 → lv_has ls 9 [(0, .ref (G.2.2.2.1 131)), (2, .int v17), (3, .int i48712), (4, .int i48714)] → (2048 - i48714.toInt).toNat < n → W p l e (Rm 5 116) s m ([.ref (G.2.2.2.1 131), .int a0] : List Value).toArray below meth c H lc 0 0 (MQ below (va_Qv (po_X12_spreads τ  a0  ) (Bs G) G.2.2.2.2) ([.ref (G.2.2.2.1 131), .int a0] : List Value).toArray s 0 0 G.2.2.2.2) (F0 m 124 ls []) := by
                intro n
                induction n with
                | zero => intros; omega
                | succ n ih48723 =>
                  intro t48716 H lc ls i48712 i48714 X48719 I48717 F48718 r48713 r48715 z48720 x48722 hl hm
                  refine r_iload S dX12_spreads_124 (lv_at hl 3 rfl) ?_
                  refine r_iload_n S dX12_spreads_126 rfl (lv_at hl 2 rfl) ?_
                  refine r_icmp_ge (tgt := 252) S dX12_spreads_127 (by decide) (fun c48724 => ?_) (fun c48724 => ?_)
                  ·
                    have r48725 : R (1) (2048) i48714 := ⟨by omega, by omega⟩
                    exact r_vret S hr hlk X48719 ⟨I48717, F48718⟩ dX12_spreads_252
                  ·
                    have r48726 : R (0) (2047) i48714 := ⟨by omega, by omega⟩
                    refine r_aload_n S dX12_spreads_130 rfl (lv_at hl 0 rfl) ?_
                    refine r_get (K := 38) (v := .ref (G.2.2.2.1 141)) S X48719 (Nat.le_of_ble_eq_true rfl) rfl lk12_59_10 (fun _ => ⟨_, rfl, rfl⟩) dX12_spreads_131 ?_
                    refine r_iload S dX12_spreads_134 (lv_at hl 3 rfl) ?_
                    refine r_aldn (n := 2048) (K := 48) S X48719 (Nat.le_of_ble_eq_true rfl) rfl (fun _ => rfl) (ix_of r48726 rfl) dX12_spreads_136 (fun v48727 z48728 => ?_)
                    have r48729 : R (0) (2047) v48727 := rd I48717 rfl z48728
                    refine r_istore (lv' := [(5, .int v48727), (0, .ref (G.2.2.2.1 131)), (2, .int v17), (3, .int i48712), (4, .int i48714)]) S dX12_spreads_137 hl (by decide) rfl (fun ls hl => ?_)
                    refine r_iload S dX12_spreads_139 (lv_at hl 0 rfl) ?_
                    refine r_bipush S dX12_spreads_141 (by decide) (fun v48730 z48731 => ?_)
                    have r48732 := R_eq z48731
                    refine r_ishr S dX12_spreads_143 (fun v48733 z48734 => ?_)
                    have r48736 : R (0) (2047) v48733 := i_shr z48734 r48729 r48732 rfl
                    refine r_iconst S dX12_spreads_144 (by decide) (fun v48737 z48738 => ?_)
                    have r48739 := R_eq z48738
                    refine r_icmp_ne (tgt := 153) S dX12_spreads_145 (by decide) (fun c48740 => ?_) (fun c48740 => ?_)
                    ·
                      refine r_iload S dX12_spreads_153 (lv_at hl 0 rfl) ?_
                      refine r_iconst S dX12_spreads_155 (by decide) (fun v48741 z48742 => ?_)
                      have r48743 := R_eq z48742
                      refine r_ixor S dX12_spreads_156 (fun v48744 z48745 => ?_)
                      have r48746 := R_any v48744
                      refine r_iload_n S dX12_spreads_157 rfl (lv_at hl 2 rfl) ?_
                      refine r_iand S dX12_spreads_158 (fun v48747 z48748 => ?_)
                      have r48750 : R (0) (1023) v48747 := i_and2 z48748 r48746 r20 rfl
                      refine r_istore (lv' := [(6, .int v48747), (5, .int v48727), (0, .ref (G.2.2.2.1 131)), (2, .int v17), (3, .int i48712), (4, .int i48714)]) S dX12_spreads_159 hl (by decide) rfl (fun ls hl => ?_)
                      refine r_iload S dX12_spreads_161 (lv_at hl 0 rfl) ?_
                      refine r_istore (lv' := [(7, .int v48747), (6, .int v48747), (5, .int v48727), (0, .ref (G.2.2.2.1 131)), (2, .int v17), (3, .int i48712), (4, .int i48714)]) S dX12_spreads_163 hl (by decide) rfl (fun ls hl => ?_)
                      have L48970 : ∀ (n : Nat) (t48965 : Tau) (H : Heap) (lc : List Loc) (ls : Array Slot) (i48961 : Int32) (i48963 : Int32), Xd G s H lc t48965 → Inv t48965 → Fr [] [140, 141, 142] τ t48965 → R (1) (2048) i48961 → R (0) (1023) i48963 → t48965 133 1 = v7 → BF t48965 i48961 → (t48965 140 v48727.toNatClampNeg).toInt < 100000 → lv_has ls 9 [(0, .ref (G.2.2.2.1 131)), (2, .int v17), (3, .int i48961), (4, .int i48714), (5, .int v48727), (6, .int v48747), (7, .int i48963)] → (i48963.toInt).toNat < n → W p l e (Rm 5 116) s m ([.ref (G.2.2.2.1 131), .int a0] : List Value).toArray below meth c H lc 0 0 (MQ below (va_Qv (po_X12_spreads τ  a0  ) (Bs G) G.2.2.2.2) ([.ref (G.2.2.2.1 131), .int a0] : List Value).toArray s 0 0 G.2.2.2.2) (F0 m 165 ls []) := by
                        intro n
                        induction n with
                        | zero => intros; omega
                        | succ n ih48973 =>
                          intro t48965 H lc ls i48961 i48963 X48968 I48966 F48967 r48962 r48964 z48969 x48971 x48972 hl hm
                          refine r_iload S dX12_spreads_165 (lv_at hl 6 rfl) ?_
                          refine r_if_le (tgt := 246) S dX12_spreads_167 (by decide) (fun c48974 => ?_) (fun c48974 => ?_)
                          ·
                            have r48975 : R (0) (0) i48963 := ⟨by omega, by omega⟩
                            refine r_iinc (k := 3) S dX12_spreads_246 hl rfl (by decide) (by decide) (fun v48976 d48977 ls z48978 z48979 hl => ?_)
                            obtain ⟨e48980, r48981⟩ := i_add (lo := 1) (hi := 2048) z48978 r48726 (R_eq z48979) rfl
                            have hl : lv_has ls 9 [(4, .int v48976), (0, .ref (G.2.2.2.1 131)), (2, .int v17), (3, .int i48961), (5, .int v48727), (6, .int v48747), (7, .int i48963)] := hl
                            refine r_goto (tgt := 124) S dX12_spreads_249 (by decide) ?_
                            exact ih48723 t48965 _ _ _ i48961 v48976 X48968 I48966 F48967 r48962 (R_of r48981 rfl) z48969 x48971 (lv_sub hl [1, 2, 3, 0] rfl) (by omega)
                          ·
                            have r48982 : R (1) (1023) i48963 := ⟨by omega, by omega⟩
                            refine r_iload S dX12_spreads_170 (lv_at hl 4 rfl) ?_
                            refine r_sipush S dX12_spreads_172 (by decide) (fun v48983 z48984 => ?_)
                            have r48985 := R_eq z48984
                            refine r_ixor S dX12_spreads_175 (fun v48986 z48987 => ?_)
                            have r48989 : R (0) (2047) v48986 := i_xor 11 z48987 r48729 r48985 rfl
                            refine r_iload S dX12_spreads_176 (lv_at hl 6 rfl) ?_
                            refine r_ixor S dX12_spreads_178 (fun v48990 z48991 => ?_)
                            have r48993 : R (0) (2047) v48990 := i_xor 11 z48991 r48989 r48982 rfl
                            refine r_istore (lv' := [(8, .int v48990), (0, .ref (G.2.2.2.1 131)), (2, .int v17), (3, .int i48961), (4, .int i48714), (5, .int v48727), (6, .int v48747), (7, .int i48963)]) S dX12_spreads_179 hl (by decide) rfl (fun ls hl => ?_)
                            refine r_aload_n S dX12_spreads_181 rfl (lv_at hl 1 rfl) ?_
                            refine r_get (K := 38) (v := .ref (G.2.2.2.1 142)) S X48968 (Nat.le_of_ble_eq_true rfl) rfl lk12_62_10 (fun _ => ⟨_, rfl, rfl⟩) dX12_spreads_182 ?_
                            refine r_iload S dX12_spreads_185 (lv_at hl 7 rfl) ?_
                            refine r_zald (n := 1024) (K := 49) S X48968 (Nat.le_of_ble_eq_true rfl) rfl (fun _ => rfl) (ix_of r48982 rfl) dX12_spreads_187 (fun v48994 z48995 => ?_)
                            have r48996 : R (0) (1) v48994 := rd I48966 rfl z48995
                            refine r_if_eq (tgt := 234) S dX12_spreads_188 (by decide) (fun c48997 => ?_) (fun c48997 => ?_)
                            ·
                              have r48998 : R (0) (0) v48994 := ⟨by omega, by omega⟩
                              refine r_iload S dX12_spreads_234 (lv_at hl 7 rfl) ?_
                              refine r_iconst S dX12_spreads_236 (by decide) (fun v48999 z49000 => ?_)
                              have r49001 := R_eq z49000
                              refine r_isub S dX12_spreads_237 (fun v49002 z49003 => ?_)
                              obtain ⟨e49004, r49005⟩ := i_sub (lo := 0) (hi := 1022) z49003 r48982 r49001 rfl
                              refine r_iload S dX12_spreads_238 (lv_at hl 6 rfl) ?_
                              refine r_iand S dX12_spreads_240 (fun v49006 z49007 => ?_)
                              have r49009 : R (0) (1022) v49006 := i_and1 z49007 r49005 r48750 rfl
                              have e49010 := i_andle z49007 r49005 rfl
                              refine r_istore (lv' := [(7, .int v49006), (8, .int v48990), (0, .ref (G.2.2.2.1 131)), (2, .int v17), (3, .int i48961), (4, .int i48714), (5, .int v48727), (6, .int v48747)]) S dX12_spreads_241 hl (by decide) rfl (fun ls hl => ?_)
                              refine r_goto (tgt := 165) S dX12_spreads_243 (by decide) ?_
                              exact ih48973 t48965 _ _ _ i48961 v49006 X48968 I48966 F48967 r48962 (R_of r49009 rfl) z48969 x48971 x48972 (lv_sub hl [2, 3, 4, 5, 6, 7, 0] rfl) (by omega)
                            ·
                              have r49011 : R (1) (1) v48994 := ⟨by omega, by omega⟩
                              refine r_aload_n S dX12_spreads_191 rfl (lv_at hl 1 rfl) ?_
                              refine r_get (K := 38) (v := .ref (G.2.2.2.1 140)) S X48968 (Nat.le_of_ble_eq_true rfl) rfl lk12_56_10 (fun _ => ⟨_, rfl, rfl⟩) dX12_spreads_192 ?_
                              refine r_iload S dX12_spreads_195 (lv_at hl 0 rfl) ?_
                              refine r_aldn (n := 2048) (K := 47) S X48968 (Nat.le_of_ble_eq_true rfl) rfl (fun _ => rfl) (ix_of r48993 rfl) dX12_spreads_197 (fun v49012 z49013 => ?_)
                              have r49015 := R_any v49012
                              refine lv_ldcw S.1.1 S.1.2.1 S.1.2.2.2.1 (S.1.2.2.2.2 _ kw35) dX12_spreads_198 ?_
                              refine lv_topi (fun v49016 z49017 => ?_)
                              have r49018 : R (100000) (100000) v49016 := by rw [z49017]; decide
                              have e49019 : v49016.toInt = 100000 := by omega
                              refine r_icmp_ge (tgt := 207) S dX12_spreads_201 (by decide) (fun c49020 => ?_) (fun c49020 => ?_)
                              ·
                                have r49021 : R (100000) (2147483647) v49012 := ⟨by omega, by omega⟩
                                have h49022 : i48961.toInt < 2048 := BF_lt x48971 ⟨by omega, by omega⟩ z49013 (by omega)
                                have r49023 : R (1) (2047) i48961 := ⟨by omega, by omega⟩
                                refine r_aload_n S dX12_spreads_207 rfl (lv_at hl 1 rfl) ?_
                                refine r_get (K := 38) (v := .ref (G.2.2.2.1 140)) S X48968 (Nat.le_of_ble_eq_true rfl) rfl lk12_56_10 (fun _ => ⟨_, rfl, rfl⟩) dX12_spreads_208 ?_
                                refine r_iload S dX12_spreads_211 (lv_at hl 0 rfl) ?_
                                refine r_aload_n S dX12_spreads_213 rfl (lv_at hl 1 rfl) ?_
                                refine r_get (K := 38) (v := .ref (G.2.2.2.1 140)) S X48968 (Nat.le_of_ble_eq_true rfl) rfl lk12_56_10 (fun _ => ⟨_, rfl, rfl⟩) dX12_spreads_214 ?_
                                refine r_iload S dX12_spreads_217 (lv_at hl 5 rfl) ?_
                                refine r_aldn (n := 2048) (K := 47) S X48968 (Nat.le_of_ble_eq_true rfl) rfl (fun _ => rfl) (ix_of r48729 rfl) dX12_spreads_219 (fun v49024 z49025 => ?_)
                                have r49027 := R_any v49024
                                have h49028 : v49024.toInt ≤ i48961.toInt := BF_hi x48971 ⟨by omega, by omega⟩ x48972 z49025
                                have r49029 : R (-2147483648) (2047) v49024 := ⟨by omega, by omega⟩
                                refine r_iconst S dX12_spreads_220 (by decide) (fun v49030 z49031 => ?_)
                                have r49032 := R_eq z49031
                                refine r_iadd S dX12_spreads_221 (fun v49033 z49034 => ?_)
                                obtain ⟨e49035, r49036⟩ := i_add (lo := -2147483647) (hi := 2048) z49034 r49029 r49032 rfl
                                refine r_ast (n := 2048) (K := 47) S X48968 (Nat.le_of_ble_eq_true rfl) rfl (fun _ _ => rfl) (ix_of r48993 rfl) dX12_spreads_222 (fun t49037 H lc M49038 X49039 => ?_)
                                have I49040 := Inv_mu I48966 M49038 (R_any v49033)
                                have F49041 : Fr [] [140, 141, 142] τ t49037 := Fr_cell F48967 M49038 (by decide)
                                refine r_aload_n S dX12_spreads_223 rfl (lv_at hl 1 rfl) ?_
                                refine r_get (K := 38) (v := .ref (G.2.2.2.1 141)) S X49039 (Nat.le_of_ble_eq_true rfl) rfl lk12_59_10 (fun _ => ⟨_, rfl, rfl⟩) dX12_spreads_224 ?_
                                refine r_iload_n S dX12_spreads_227 rfl (lv_at hl 3 rfl) ?_
                                refine r_iload S dX12_spreads_228 (lv_at hl 0 rfl) ?_
                                refine r_ast (n := 2048) (K := 48) S X49039 (Nat.le_of_ble_eq_true rfl) rfl (fun _ _ => rfl) (ix_of r49023 rfl) dX12_spreads_230 (fun t49042 H lc M49043 X49044 => ?_)
                                have I49045 := Inv_mu I49040 M49043 (show Rg (kd 141) _ v48990 from (R_of (lo := 0) (hi := 2047) r48993 rfl))
                                have F49046 : Fr [] [140, 141, 142] τ t49042 := Fr_cell F49041 M49043 (by decide)
                                refine r_iinc (k := 3) S dX12_spreads_231 hl rfl (by decide) (by decide) (fun v49047 d49048 ls z49049 z49050 hl => ?_)
                                obtain ⟨e49051, r49052⟩ := i_add (lo := 2) (hi := 2048) z49049 r49023 (R_eq z49050) rfl
                                have hl : lv_has ls 9 [(3, .int v49047), (8, .int v48990), (0, .ref (G.2.2.2.1 131)), (2, .int v17), (4, .int i48714), (5, .int v48727), (6, .int v48747), (7, .int i48963)] := hl
                                refine r_iload S dX12_spreads_234 (lv_at hl 7 rfl) ?_
                                refine r_iconst S dX12_spreads_236 (by decide) (fun v49053 z49054 => ?_)
                                have r49055 := R_eq z49054
                                refine r_isub S dX12_spreads_237 (fun v49056 z49057 => ?_)
                                obtain ⟨e49058, r49059⟩ := i_sub (lo := 0) (hi := 1022) z49057 r48982 r49055 rfl
                                refine r_iload S dX12_spreads_238 (lv_at hl 6 rfl) ?_
                                refine r_iand S dX12_spreads_240 (fun v49060 z49061 => ?_)
                                have r49063 : R (0) (1022) v49060 := i_and1 z49061 r49059 r48750 rfl
                                have e49064 := i_andle z49061 r49059 rfl
                                refine r_istore (lv' := [(7, .int v49060), (3, .int v49047), (8, .int v48990), (0, .ref (G.2.2.2.1 131)), (2, .int v17), (4, .int i48714), (5, .int v48727), (6, .int v48747)]) S dX12_spreads_241 hl (by decide) rfl (fun ls hl => ?_)
                                refine r_goto (tgt := 165) S dX12_spreads_243 (by decide) ?_
                                exact ih48973 t49042 _ _ _ v49047 v49060 X49044 I49045 F49046 (R_of r49052 rfl) (R_of r49063 rfl) ((M49043.2 133 1 (Or.inl (by decide))).trans ((M49038.2 133 1 (Or.inl (by decide))).trans z48969)) (BF_step x48971 ⟨by omega, by omega⟩ z49013 (by omega) M49038 (by omega) M49043 (by omega) (by omega)) (BF_st x48972 M49038 (by omega) M49043) (lv_sub hl [3, 4, 1, 5, 6, 7, 0] rfl) (by omega)
                              ·
                                have r49065 : R (-2147483648) (99999) v49012 := ⟨by omega, by omega⟩
                                refine r_goto (tgt := 234) S dX12_spreads_204 (by decide) ?_
                                refine r_iload S dX12_spreads_234 (lv_at hl 7 rfl) ?_
                                refine r_iconst S dX12_spreads_236 (by decide) (fun v49066 z49067 => ?_)
                                have r49068 := R_eq z49067
                                refine r_isub S dX12_spreads_237 (fun v49069 z49070 => ?_)
                                obtain ⟨e49071, r49072⟩ := i_sub (lo := 0) (hi := 1022) z49070 r48982 r49068 rfl
                                refine r_iload S dX12_spreads_238 (lv_at hl 6 rfl) ?_
                                refine r_iand S dX12_spreads_240 (fun v49073 z49074 => ?_)
                                have r49076 : R (0) (1022) v49073 := i_and1 z49074 r49072 r48750 rfl
                                have e49077 := i_andle z49074 r49072 rfl
                                refine r_istore (lv' := [(7, .int v49073), (8, .int v48990), (0, .ref (G.2.2.2.1 131)), (2, .int v17), (3, .int i48961), (4, .int i48714), (5, .int v48727), (6, .int v48747)]) S dX12_spreads_241 hl (by decide) rfl (fun ls hl => ?_)
                                refine r_goto (tgt := 165) S dX12_spreads_243 (by decide) ?_
                                exact ih48973 t48965 _ _ _ i48961 v49073 X48968 I48966 F48967 r48962 (R_of r49076 rfl) z48969 x48971 x48972 (lv_sub hl [2, 3, 4, 5, 6, 7, 0] rfl) (by omega)
                      exact L48970 _ t48716 _ _ _ i48712 v48747 X48719 I48717 F48718 r48713 r48750 z48720 x48722 (BF_at x48722 ⟨by omega, by omega⟩ z48728) (lv_sub hl [3, 4, 5, 6, 2, 1, 0] rfl) (Nat.lt_succ_self _)
                    ·
                      have r49078 : R (1) (1) v48733 := ⟨by omega, by omega⟩
                      refine r_iload S dX12_spreads_148 (lv_at hl 0 rfl) ?_
                      refine r_goto (tgt := 157) S dX12_spreads_150 (by decide) ?_
                      refine r_iload_n S dX12_spreads_157 rfl (lv_at hl 2 rfl) ?_
                      refine r_iand S dX12_spreads_158 (fun v49079 z49080 => ?_)
                      have r49082 : R (0) (1023) v49079 := i_and2 z49080 r48729 r20 rfl
                      have e49083 := i_andle z49080 r48729 rfl
                      refine r_istore (lv' := [(6, .int v49079), (5, .int v48727), (0, .ref (G.2.2.2.1 131)), (2, .int v17), (3, .int i48712), (4, .int i48714)]) S dX12_spreads_159 hl (by decide) rfl (fun ls hl => ?_)
                      refine r_iload S dX12_spreads_161 (lv_at hl 0 rfl) ?_
                      refine r_istore (lv' := [(7, .int v49079), (6, .int v49079), (5, .int v48727), (0, .ref (G.2.2.2.1 131)), (2, .int v17), (3, .int i48712), (4, .int i48714)]) S dX12_spreads_163 hl (by decide) rfl (fun ls hl => ?_)
                      have L49303 : ∀ (n : Nat) (t49298 : Tau) (H : Heap) (lc : List Loc) (ls : Array Slot) (i49294 : Int32) (i49296 : Int32), Xd G s H lc t49298 → Inv t49298 → Fr [] [140, 141, 142] τ t49298 → R (1) (2048) i49294 → R (0) (1023) i49296 → t49298 133 1 = v7 → BF t49298 i49294 → (t49298 140 v48727.toNatClampNeg).toInt < 100000 → lv_has ls 9 [(0, .ref (G.2.2.2.1 131)), (2, .int v17), (3, .int i49294), (4, .int i48714), (5, .int v48727), (6, .int v49079), (7, .int i49296)] → (i49296.toInt).toNat < n → W p l e (Rm 5 116) s m ([.ref (G.2.2.2.1 131), .int a0] : List Value).toArray below meth c H lc 0 0 (MQ below (va_Qv (po_X12_spreads τ  a0  ) (Bs G) G.2.2.2.2) ([.ref (G.2.2.2.1 131), .int a0] : List Value).toArray s 0 0 G.2.2.2.2) (F0 m 165 ls []) := by
                        intro n
                        induction n with
                        | zero => intros; omega
                        | succ n ih49306 =>
                          intro t49298 H lc ls i49294 i49296 X49301 I49299 F49300 r49295 r49297 z49302 x49304 x49305 hl hm
                          refine r_iload S dX12_spreads_165 (lv_at hl 6 rfl) ?_
                          refine r_if_le (tgt := 246) S dX12_spreads_167 (by decide) (fun c49307 => ?_) (fun c49307 => ?_)
                          ·
                            have r49308 : R (0) (0) i49296 := ⟨by omega, by omega⟩
                            refine r_iinc (k := 3) S dX12_spreads_246 hl rfl (by decide) (by decide) (fun v49309 d49310 ls z49311 z49312 hl => ?_)
                            obtain ⟨e49313, r49314⟩ := i_add (lo := 1) (hi := 2048) z49311 r48726 (R_eq z49312) rfl
                            have hl : lv_has ls 9 [(4, .int v49309), (0, .ref (G.2.2.2.1 131)), (2, .int v17), (3, .int i49294), (5, .int v48727), (6, .int v49079), (7, .int i49296)] := hl
                            refine r_goto (tgt := 124) S dX12_spreads_249 (by decide) ?_
                            exact ih48723 t49298 _ _ _ i49294 v49309 X49301 I49299 F49300 r49295 (R_of r49314 rfl) z49302 x49304 (lv_sub hl [1, 2, 3, 0] rfl) (by omega)
                          ·
                            have r49315 : R (1) (1023) i49296 := ⟨by omega, by omega⟩
                            refine r_iload S dX12_spreads_170 (lv_at hl 4 rfl) ?_
                            refine r_sipush S dX12_spreads_172 (by decide) (fun v49316 z49317 => ?_)
                            have r49318 := R_eq z49317
                            refine r_ixor S dX12_spreads_175 (fun v49319 z49320 => ?_)
                            have r49322 : R (0) (2047) v49319 := i_xor 11 z49320 r48729 r49318 rfl
                            refine r_iload S dX12_spreads_176 (lv_at hl 6 rfl) ?_
                            refine r_ixor S dX12_spreads_178 (fun v49323 z49324 => ?_)
                            have r49326 : R (0) (2047) v49323 := i_xor 11 z49324 r49322 r49315 rfl
                            refine r_istore (lv' := [(8, .int v49323), (0, .ref (G.2.2.2.1 131)), (2, .int v17), (3, .int i49294), (4, .int i48714), (5, .int v48727), (6, .int v49079), (7, .int i49296)]) S dX12_spreads_179 hl (by decide) rfl (fun ls hl => ?_)
                            refine r_aload_n S dX12_spreads_181 rfl (lv_at hl 1 rfl) ?_
                            refine r_get (K := 38) (v := .ref (G.2.2.2.1 142)) S X49301 (Nat.le_of_ble_eq_true rfl) rfl lk12_62_10 (fun _ => ⟨_, rfl, rfl⟩) dX12_spreads_182 ?_
                            refine r_iload S dX12_spreads_185 (lv_at hl 7 rfl) ?_
                            refine r_zald (n := 1024) (K := 49) S X49301 (Nat.le_of_ble_eq_true rfl) rfl (fun _ => rfl) (ix_of r49315 rfl) dX12_spreads_187 (fun v49327 z49328 => ?_)
                            have r49329 : R (0) (1) v49327 := rd I49299 rfl z49328
                            refine r_if_eq (tgt := 234) S dX12_spreads_188 (by decide) (fun c49330 => ?_) (fun c49330 => ?_)
                            ·
                              have r49331 : R (0) (0) v49327 := ⟨by omega, by omega⟩
                              refine r_iload S dX12_spreads_234 (lv_at hl 7 rfl) ?_
                              refine r_iconst S dX12_spreads_236 (by decide) (fun v49332 z49333 => ?_)
                              have r49334 := R_eq z49333
                              refine r_isub S dX12_spreads_237 (fun v49335 z49336 => ?_)
                              obtain ⟨e49337, r49338⟩ := i_sub (lo := 0) (hi := 1022) z49336 r49315 r49334 rfl
                              refine r_iload S dX12_spreads_238 (lv_at hl 6 rfl) ?_
                              refine r_iand S dX12_spreads_240 (fun v49339 z49340 => ?_)
                              have r49342 : R (0) (1022) v49339 := i_and1 z49340 r49338 r49082 rfl
                              have e49343 := i_andle z49340 r49338 rfl
                              refine r_istore (lv' := [(7, .int v49339), (8, .int v49323), (0, .ref (G.2.2.2.1 131)), (2, .int v17), (3, .int i49294), (4, .int i48714), (5, .int v48727), (6, .int v49079)]) S dX12_spreads_241 hl (by decide) rfl (fun ls hl => ?_)
                              refine r_goto (tgt := 165) S dX12_spreads_243 (by decide) ?_
                              exact ih49306 t49298 _ _ _ i49294 v49339 X49301 I49299 F49300 r49295 (R_of r49342 rfl) z49302 x49304 x49305 (lv_sub hl [2, 3, 4, 5, 6, 7, 0] rfl) (by omega)
                            ·
                              have r49344 : R (1) (1) v49327 := ⟨by omega, by omega⟩
                              refine r_aload_n S dX12_spreads_191 rfl (lv_at hl 1 rfl) ?_
                              refine r_get (K := 38) (v := .ref (G.2.2.2.1 140)) S X49301 (Nat.le_of_ble_eq_true rfl) rfl lk12_56_10 (fun _ => ⟨_, rfl, rfl⟩) dX12_spreads_192 ?_
                              refine r_iload S dX12_spreads_195 (lv_at hl 0 rfl) ?_
                              refine r_aldn (n := 2048) (K := 47) S X49301 (Nat.le_of_ble_eq_true rfl) rfl (fun _ => rfl) (ix_of r49326 rfl) dX12_spreads_197 (fun v49345 z49346 => ?_)
                              have r49348 := R_any v49345
                              refine lv_ldcw S.1.1 S.1.2.1 S.1.2.2.2.1 (S.1.2.2.2.2 _ kw35) dX12_spreads_198 ?_
                              refine lv_topi (fun v49349 z49350 => ?_)
                              have r49351 : R (100000) (100000) v49349 := by rw [z49350]; decide
                              have e49352 : v49349.toInt = 100000 := by omega
                              refine r_icmp_ge (tgt := 207) S dX12_spreads_201 (by decide) (fun c49353 => ?_) (fun c49353 => ?_)
                              ·
                                have r49354 : R (100000) (2147483647) v49345 := ⟨by omega, by omega⟩
                                have h49355 : i49294.toInt < 2048 := BF_lt x49304 ⟨by omega, by omega⟩ z49346 (by omega)
                                have r49356 : R (1) (2047) i49294 := ⟨by omega, by omega⟩
                                refine r_aload_n S dX12_spreads_207 rfl (lv_at hl 1 rfl) ?_
                                refine r_get (K := 38) (v := .ref (G.2.2.2.1 140)) S X49301 (Nat.le_of_ble_eq_true rfl) rfl lk12_56_10 (fun _ => ⟨_, rfl, rfl⟩) dX12_spreads_208 ?_
                                refine r_iload S dX12_spreads_211 (lv_at hl 0 rfl) ?_
                                refine r_aload_n S dX12_spreads_213 rfl (lv_at hl 1 rfl) ?_
                                refine r_get (K := 38) (v := .ref (G.2.2.2.1 140)) S X49301 (Nat.le_of_ble_eq_true rfl) rfl lk12_56_10 (fun _ => ⟨_, rfl, rfl⟩) dX12_spreads_214 ?_
                                refine r_iload S dX12_spreads_217 (lv_at hl 5 rfl) ?_
                                refine r_aldn (n := 2048) (K := 47) S X49301 (Nat.le_of_ble_eq_true rfl) rfl (fun _ => rfl) (ix_of r48729 rfl) dX12_spreads_219 (fun v49357 z49358 => ?_)
                                have r49360 := R_any v49357
                                have h49361 : v49357.toInt ≤ i49294.toInt := BF_hi x49304 ⟨by omega, by omega⟩ x49305 z49358
                                have r49362 : R (-2147483648) (2047) v49357 := ⟨by omega, by omega⟩
                                refine r_iconst S dX12_spreads_220 (by decide) (fun v49363 z49364 => ?_)
                                have r49365 := R_eq z49364
                                refine r_iadd S dX12_spreads_221 (fun v49366 z49367 => ?_)
                                obtain ⟨e49368, r49369⟩ := i_add (lo := -2147483647) (hi := 2048) z49367 r49362 r49365 rfl
                                refine r_ast (n := 2048) (K := 47) S X49301 (Nat.le_of_ble_eq_true rfl) rfl (fun _ _ => rfl) (ix_of r49326 rfl) dX12_spreads_222 (fun t49370 H lc M49371 X49372 => ?_)
                                have I49373 := Inv_mu I49299 M49371 (R_any v49366)
                                have F49374 : Fr [] [140, 141, 142] τ t49370 := Fr_cell F49300 M49371 (by decide)
                                refine r_aload_n S dX12_spreads_223 rfl (lv_at hl 1 rfl) ?_
                                refine r_get (K := 38) (v := .ref (G.2.2.2.1 141)) S X49372 (Nat.le_of_ble_eq_true rfl) rfl lk12_59_10 (fun _ => ⟨_, rfl, rfl⟩) dX12_spreads_224 ?_
                                refine r_iload_n S dX12_spreads_227 rfl (lv_at hl 3 rfl) ?_
                                refine r_iload S dX12_spreads_228 (lv_at hl 0 rfl) ?_
                                refine r_ast (n := 2048) (K := 48) S X49372 (Nat.le_of_ble_eq_true rfl) rfl (fun _ _ => rfl) (ix_of r49356 rfl) dX12_spreads_230 (fun t49375 H lc M49376 X49377 => ?_)
                                have I49378 := Inv_mu I49373 M49376 (show Rg (kd 141) _ v49323 from (R_of (lo := 0) (hi := 2047) r49326 rfl))
                                have F49379 : Fr [] [140, 141, 142] τ t49375 := Fr_cell F49374 M49376 (by decide)
                                refine r_iinc (k := 3) S dX12_spreads_231 hl rfl (by decide) (by decide) (fun v49380 d49381 ls z49382 z49383 hl => ?_)
                                obtain ⟨e49384, r49385⟩ := i_add (lo := 2) (hi := 2048) z49382 r49356 (R_eq z49383) rfl
                                have hl : lv_has ls 9 [(3, .int v49380), (8, .int v49323), (0, .ref (G.2.2.2.1 131)), (2, .int v17), (4, .int i48714), (5, .int v48727), (6, .int v49079), (7, .int i49296)] := hl
                                refine r_iload S dX12_spreads_234 (lv_at hl 7 rfl) ?_
                                refine r_iconst S dX12_spreads_236 (by decide) (fun v49386 z49387 => ?_)
                                have r49388 := R_eq z49387
                                refine r_isub S dX12_spreads_237 (fun v49389 z49390 => ?_)
                                obtain ⟨e49391, r49392⟩ := i_sub (lo := 0) (hi := 1022) z49390 r49315 r49388 rfl
                                refine r_iload S dX12_spreads_238 (lv_at hl 6 rfl) ?_
                                refine r_iand S dX12_spreads_240 (fun v49393 z49394 => ?_)
                                have r49396 : R (0) (1022) v49393 := i_and1 z49394 r49392 r49082 rfl
                                have e49397 := i_andle z49394 r49392 rfl
                                refine r_istore (lv' := [(7, .int v49393), (3, .int v49380), (8, .int v49323), (0, .ref (G.2.2.2.1 131)), (2, .int v17), (4, .int i48714), (5, .int v48727), (6, .int v49079)]) S dX12_spreads_241 hl (by decide) rfl (fun ls hl => ?_)
                                refine r_goto (tgt := 165) S dX12_spreads_243 (by decide) ?_
                                exact ih49306 t49375 _ _ _ v49380 v49393 X49377 I49378 F49379 (R_of r49385 rfl) (R_of r49396 rfl) ((M49376.2 133 1 (Or.inl (by decide))).trans ((M49371.2 133 1 (Or.inl (by decide))).trans z49302)) (BF_step x49304 ⟨by omega, by omega⟩ z49346 (by omega) M49371 (by omega) M49376 (by omega) (by omega)) (BF_st x49305 M49371 (by omega) M49376) (lv_sub hl [3, 4, 1, 5, 6, 7, 0] rfl) (by omega)
                              ·
                                have r49398 : R (-2147483648) (99999) v49345 := ⟨by omega, by omega⟩
                                refine r_goto (tgt := 234) S dX12_spreads_204 (by decide) ?_
                                refine r_iload S dX12_spreads_234 (lv_at hl 7 rfl) ?_
                                refine r_iconst S dX12_spreads_236 (by decide) (fun v49399 z49400 => ?_)
                                have r49401 := R_eq z49400
                                refine r_isub S dX12_spreads_237 (fun v49402 z49403 => ?_)
                                obtain ⟨e49404, r49405⟩ := i_sub (lo := 0) (hi := 1022) z49403 r49315 r49401 rfl
                                refine r_iload S dX12_spreads_238 (lv_at hl 6 rfl) ?_
                                refine r_iand S dX12_spreads_240 (fun v49406 z49407 => ?_)
                                have r49409 : R (0) (1022) v49406 := i_and1 z49407 r49405 r49082 rfl
                                have e49410 := i_andle z49407 r49405 rfl
                                refine r_istore (lv' := [(7, .int v49406), (8, .int v49323), (0, .ref (G.2.2.2.1 131)), (2, .int v17), (3, .int i49294), (4, .int i48714), (5, .int v48727), (6, .int v49079)]) S dX12_spreads_241 hl (by decide) rfl (fun ls hl => ?_)
                                refine r_goto (tgt := 165) S dX12_spreads_243 (by decide) ?_
                                exact ih49306 t49298 _ _ _ i49294 v49406 X49301 I49299 F49300 r49295 (R_of r49409 rfl) z49302 x49304 x49305 (lv_sub hl [2, 3, 4, 5, 6, 7, 0] rfl) (by omega)
                      exact L49303 _ t48716 _ _ _ i48712 v49079 X48719 I48717 F48718 r48713 r49082 z48720 x48722 (BF_at x48722 ⟨by omega, by omega⟩ z48728) (lv_sub hl [3, 4, 5, 6, 2, 1, 0] rfl) (Nat.lt_succ_self _)
              exact L48721 _ t5188 _ _ _ v5159 v5193 X5190 I5191 F5192 (R_of r5161 rfl) (R_of r5195 rfl) ((M5189.2 133 1 (Or.inl (by decide))).trans ((M5173.2 133 1 (Or.inl (by decide))).trans z5150)) (BF_0 (fun j hj => x5152 j (by omega)) M5173 (by omega) M5189 (by omega) h5187 ⟨by omega, by omega⟩ (by omega)) (lv_sub hl [2, 3, 1, 0] rfl) (Nat.lt_succ_self _)
            ·
              have r49411 : R (0) (2047) i5144 := ⟨by omega, by omega⟩
              refine r_aload_n S dX12_spreads_82 rfl (lv_at hl 0 rfl) ?_
              refine r_get (K := 38) (v := .ref (G.2.2.2.1 140)) S X5149 (Nat.le_of_ble_eq_true rfl) rfl lk12_56_10 (fun _ => ⟨_, rfl, rfl⟩) dX12_spreads_83 ?_
              refine r_iload_n S dX12_spreads_86 rfl (lv_at hl 2 rfl) ?_
              refine lv_ldcw S.1.1 S.1.2.1 S.1.2.2.2.1 (S.1.2.2.2.2 _ kw35) dX12_spreads_87 ?_
              refine lv_topi (fun v49412 z49413 => ?_)
              have r49414 : R (100000) (100000) v49412 := by rw [z49413]; decide
              have e49415 : v49412.toInt = 100000 := by omega
              refine r_ast (n := 2048) (K := 47) S X5149 (Nat.le_of_ble_eq_true rfl) rfl (fun _ _ => rfl) (ix_of r49411 rfl) dX12_spreads_90 (fun t49416 H lc M49417 X49418 => ?_)
              have I49419 := Inv_mu I5147 M49417 (R_any v49412)
              have F49420 : Fr [] [140, 141, 142] τ t49416 := Fr_cell F5148 M49417 (by decide)
              refine r_iinc (k := 2) S dX12_spreads_91 hl rfl (by decide) (by decide) (fun v49421 d49422 ls z49423 z49424 hl => ?_)
              obtain ⟨e49425, r49426⟩ := i_add (lo := 1) (hi := 2048) z49423 r49411 (R_eq z49424) rfl
              have hl : lv_has ls 9 [(3, .int v49421), (0, .ref (G.2.2.2.1 131)), (2, .int v17)] := hl
              refine r_goto (tgt := 75) S dX12_spreads_94 (by decide) ?_
              exact ih5153 t49416 _ _ _ v49421 X49418 I49419 F49420 (R_of r49426 rfl) ((M49417.2 133 1 (Or.inl (by decide))).trans z5150) (fill_step x5152 M49417 (by omega) (by omega) (by omega)) (lv_sub hl [1, 2, 0] rfl) (by omega)
        exact L5151 _ t4094 _ _ _ v4103 X4097 I4095 F4096 (R_of r4105 rfl) z4098 (fun j hj => by exfalso; omega) (lv_sub hl [1, 3, 0] rfl) (Nat.lt_succ_self _)
      ·
        have r49427 : R (0) (1023) i4092 := ⟨by omega, by omega⟩
        refine r_aload_n S dX12_spreads_18 rfl (lv_at hl 0 rfl) ?_
        refine r_get (K := 38) (v := .ref (G.2.2.2.1 142)) S X4097 (Nat.le_of_ble_eq_true rfl) rfl lk12_62_10 (fun _ => ⟨_, rfl, rfl⟩) dX12_spreads_19 ?_
        refine r_iload_n S dX12_spreads_22 rfl (lv_at hl 3 rfl) ?_
        refine r_iload_n S dX12_spreads_23 rfl (lv_at hl 3 rfl) ?_
        refine r_if_le (tgt := 65) S dX12_spreads_24 (by decide) (fun c49428 => ?_) (fun c49428 => ?_)
        ·
          have r49429 : R (0) (0) i4092 := ⟨by omega, by omega⟩
          refine r_iconst S dX12_spreads_65 (by decide) (fun v49430 z49431 => ?_)
          have r49432 := R_eq z49431
          refine r_zast (n := 1024) (K := 49) S X4097 (Nat.le_of_ble_eq_true rfl) rfl (fun _ _ => rfl) (ix_of r49429 rfl) (R_of (lo := 0) (hi := 1) r49432 rfl) dX12_spreads_66 (fun t49433 H lc M49434 X49435 => ?_)
          have I49436 := Inv_mu I4095 M49434 (show Rg (kd 142) _ v49430 from (R_of (lo := 0) (hi := 1) r49432 rfl))
          have F49437 : Fr [] [140, 141, 142] τ t49433 := Fr_cell F4096 M49434 (by decide)
          refine r_iinc (k := 3) S dX12_spreads_67 hl rfl (by decide) (by decide) (fun v49438 d49439 ls z49440 z49441 hl => ?_)
          obtain ⟨e49442, r49443⟩ := i_add (lo := 1) (hi := 1) z49440 r49429 (R_eq z49441) rfl
          have hl : lv_has ls 9 [(3, .int v49438), (0, .ref (G.2.2.2.1 131)), (1, .int a0), (2, .int v17)] := hl
          refine r_goto (tgt := 13) S dX12_spreads_70 (by decide) ?_
          exact ih4100 t49433 _ _ _ v49438 X49435 I49436 F49437 (R_of r49443 rfl) ((M49434.2 133 1 (Or.inl (by decide))).trans z4098) (lv_sub hl [1, 2, 3, 0] rfl) (by omega)
        ·
          have r49444 : R (1) (1023) i4092 := ⟨by omega, by omega⟩
          refine r_iload_n S dX12_spreads_27 rfl (lv_at hl 3 rfl) ?_
          refine r_ki (q_S (As := [.int i4092]) (rest := [.int i4092, .ref (G.2.2.2.1 142)]) S X4097 (c_X12_bits l G t4094 I4095 i4092 (R_of (lo := -2147483648) (hi := 2147483647) r49444 rfl)) ck12_284 ⟨Nat.le_of_ble_eq_true rfl, Nat.le_of_ble_eq_true rfl⟩ rfl hl.1 rfl (Nat.le_of_ble_eq_true rfl) dX12_spreads_28 ⟨Nat.le_refl 0, Nat.le_refl 0⟩) X4097 (fun v49448 t49447 H lc q49445 X49446 => ?_)
          unfold po_X12_bits at q49445
          have q49449 := q49445
          rw [q49449] at X49446
          have r49450 := R_any v49448
          refine r_aload_n S dX12_spreads_31 rfl (lv_at hl 0 rfl) ?_
          refine r_get (K := 38) (v := .ref (G.2.2.2.1 133)) S X49446 (Nat.le_of_ble_eq_true rfl) rfl lk12_33_10 (fun _ => ⟨_, rfl, rfl⟩) dX12_spreads_32 ?_
          refine r_iconst S dX12_spreads_35 (by decide) (fun v49451 z49452 => ?_)
          have r49453 := R_eq z49452
          refine r_aldn (n := 513) (K := 40) S X49446 (Nat.le_of_ble_eq_true rfl) rfl (fun _ => rfl) (ix_of r49453 rfl) dX12_spreads_36 (fun v49454 z49455 => ?_)
          have r49456 : R (0) (8) v49454 := rds (K := 40) (a := 2) (n := 1) I4095 rfl z49455 (R_of r49453 rfl) (by decide +kernel)
          refine r_icmp_gt (tgt := 65) S dX12_spreads_37 (by decide) (fun c49457 => ?_) (fun c49457 => ?_)
          ·
            have r49458 : R (1) (2147483647) v49448 := ⟨by omega, by omega⟩
            refine r_iconst S dX12_spreads_65 (by decide) (fun v49459 z49460 => ?_)
            have r49461 := R_eq z49460
            refine r_zast (n := 1024) (K := 49) S X49446 (Nat.le_of_ble_eq_true rfl) rfl (fun _ _ => rfl) (ix_of r49444 rfl) (R_of (lo := 0) (hi := 1) r49461 rfl) dX12_spreads_66 (fun t49462 H lc M49463 X49464 => ?_)
            have I49465 := Inv_mu I4095 M49463 (show Rg (kd 142) _ v49459 from (R_of (lo := 0) (hi := 1) r49461 rfl))
            have F49466 : Fr [] [140, 141, 142] τ t49462 := Fr_cell F4096 M49463 (by decide)
            refine r_iinc (k := 3) S dX12_spreads_67 hl rfl (by decide) (by decide) (fun v49467 d49468 ls z49469 z49470 hl => ?_)
            obtain ⟨e49471, r49472⟩ := i_add (lo := 2) (hi := 1024) z49469 r49444 (R_eq z49470) rfl
            have hl : lv_has ls 9 [(3, .int v49467), (0, .ref (G.2.2.2.1 131)), (1, .int a0), (2, .int v17)] := hl
            refine r_goto (tgt := 13) S dX12_spreads_70 (by decide) ?_
            exact ih4100 t49462 _ _ _ v49467 X49464 I49465 F49466 (R_of r49472 rfl) ((M49463.2 133 1 (Or.inl (by decide))).trans z4098) (lv_sub hl [1, 2, 3, 0] rfl) (by omega)
          ·
            have r49473 : R (-2147483648) (8) v49448 := ⟨by omega, by omega⟩
            refine r_aload_n S dX12_spreads_40 rfl (lv_at hl 0 rfl) ?_
            refine r_aload_n S dX12_spreads_41 rfl (lv_at hl 0 rfl) ?_
            refine r_iload_n S dX12_spreads_42 rfl (lv_at hl 3 rfl) ?_
            refine r_iload_n S dX12_spreads_43 rfl (lv_at hl 1 rfl) ?_
            refine r_ki (q_V (As := [.int i4092, .int a0]) (rest := [.ref (G.2.2.2.1 131), .int i4092, .ref (G.2.2.2.1 142)]) (K := 38) (ci := 10) S X49446 (c_X12_sumOf l G t4094 I4095 i4092 a0 (R_of (lo := -2147483648) (hi := 2147483647) r49444 rfl) h_a0) ck12_287 (Nat.le_of_ble_eq_true rfl) rfl (fun _ => ⟨_, rfl⟩) ⟨_, _, rfl⟩ ⟨Nat.le_of_ble_eq_true rfl, Nat.le_of_ble_eq_true rfl⟩ rfl hl.1 rfl (Nat.le_of_ble_eq_true rfl) dX12_spreads_44 ⟨Nat.le_refl 0, Nat.le_refl 0⟩) X49446 (fun v49477 t49476 H lc q49474 X49475 => ?_)
            unfold po_X12_sumOf at q49474
            have q49478 := q49474
            rw [q49478] at X49475
            have r49479 := R_any v49477
            refine r_ki (q_V (As := [.int v49477]) (rest := [.int i4092, .ref (G.2.2.2.1 142)]) (K := 38) (ci := 10) S X49475 (c_X12_balances l G t4094 I4095 v49477 r49479) ck12_290 (Nat.le_of_ble_eq_true rfl) rfl (fun _ => ⟨_, rfl⟩) ⟨_, _, rfl⟩ ⟨Nat.le_of_ble_eq_true rfl, Nat.le_of_ble_eq_true rfl⟩ rfl hl.1 rfl (Nat.le_of_ble_eq_true rfl) dX12_spreads_47 ⟨Nat.le_refl 0, Nat.le_refl 0⟩) X49475 (fun v49483 t49482 H lc q49480 X49481 => ?_)
            unfold po_X12_balances at q49480
            obtain ⟨q49484, q49485⟩ := q49480
            rw [q49484] at X49481
            refine r_if_eq (tgt := 65) S dX12_spreads_50 (by decide) (fun c49486 => ?_) (fun c49486 => ?_)
            ·
              have r49487 : R (0) (0) v49483 := ⟨by omega, by omega⟩
              refine r_iconst S dX12_spreads_65 (by decide) (fun v49488 z49489 => ?_)
              have r49490 := R_eq z49489
              refine r_zast (n := 1024) (K := 49) S X49481 (Nat.le_of_ble_eq_true rfl) rfl (fun _ _ => rfl) (ix_of r49444 rfl) (R_of (lo := 0) (hi := 1) r49490 rfl) dX12_spreads_66 (fun t49491 H lc M49492 X49493 => ?_)
              have I49494 := Inv_mu I4095 M49492 (show Rg (kd 142) _ v49488 from (R_of (lo := 0) (hi := 1) r49490 rfl))
              have F49495 : Fr [] [140, 141, 142] τ t49491 := Fr_cell F4096 M49492 (by decide)
              refine r_iinc (k := 3) S dX12_spreads_67 hl rfl (by decide) (by decide) (fun v49496 d49497 ls z49498 z49499 hl => ?_)
              obtain ⟨e49500, r49501⟩ := i_add (lo := 2) (hi := 1024) z49498 r49444 (R_eq z49499) rfl
              have hl : lv_has ls 9 [(3, .int v49496), (0, .ref (G.2.2.2.1 131)), (1, .int a0), (2, .int v17)] := hl
              refine r_goto (tgt := 13) S dX12_spreads_70 (by decide) ?_
              exact ih4100 t49491 _ _ _ v49496 X49493 I49494 F49495 (R_of r49501 rfl) ((M49492.2 133 1 (Or.inl (by decide))).trans z4098) (lv_sub hl [1, 2, 3, 0] rfl) (by omega)
            ·
              have r49502 : R (1) (1) v49483 := ⟨by omega, by omega⟩
              refine r_aload_n S dX12_spreads_53 rfl (lv_at hl 0 rfl) ?_
              refine r_iload_n S dX12_spreads_54 rfl (lv_at hl 3 rfl) ?_
              refine r_ki (q_V (As := [.int i4092]) (rest := [.int i4092, .ref (G.2.2.2.1 142)]) (K := 38) (ci := 10) S X49481 (c_X12_hasFoes l G t4094 I4095 i4092 (R_of (lo := -2147483648) (hi := 2147483647) r49444 rfl)) ck12_293 (Nat.le_of_ble_eq_true rfl) rfl (fun _ => ⟨_, rfl⟩) ⟨_, _, rfl⟩ ⟨Nat.le_of_ble_eq_true rfl, Nat.le_of_ble_eq_true rfl⟩ rfl hl.1 rfl (Nat.le_of_ble_eq_true rfl) dX12_spreads_55 ⟨Nat.le_refl 0, Nat.le_refl 0⟩) X49481 (fun v49506 t49505 H lc q49503 X49504 => ?_)
              unfold po_X12_hasFoes at q49503
              obtain ⟨q49507, q49508⟩ := q49503
              rw [q49507] at X49504
              refine r_if_ne (tgt := 65) S dX12_spreads_58 (by decide) (fun c49509 => ?_) (fun c49509 => ?_)
              ·
                have r49510 : R (1) (1) v49506 := ⟨by omega, by omega⟩
                refine r_iconst S dX12_spreads_65 (by decide) (fun v49511 z49512 => ?_)
                have r49513 := R_eq z49512
                refine r_zast (n := 1024) (K := 49) S X49504 (Nat.le_of_ble_eq_true rfl) rfl (fun _ _ => rfl) (ix_of r49444 rfl) (R_of (lo := 0) (hi := 1) r49513 rfl) dX12_spreads_66 (fun t49514 H lc M49515 X49516 => ?_)
                have I49517 := Inv_mu I4095 M49515 (show Rg (kd 142) _ v49511 from (R_of (lo := 0) (hi := 1) r49513 rfl))
                have F49518 : Fr [] [140, 141, 142] τ t49514 := Fr_cell F4096 M49515 (by decide)
                refine r_iinc (k := 3) S dX12_spreads_67 hl rfl (by decide) (by decide) (fun v49519 d49520 ls z49521 z49522 hl => ?_)
                obtain ⟨e49523, r49524⟩ := i_add (lo := 2) (hi := 1024) z49521 r49444 (R_eq z49522) rfl
                have hl : lv_has ls 9 [(3, .int v49519), (0, .ref (G.2.2.2.1 131)), (1, .int a0), (2, .int v17)] := hl
                refine r_goto (tgt := 13) S dX12_spreads_70 (by decide) ?_
                exact ih4100 t49514 _ _ _ v49519 X49516 I49517 F49518 (R_of r49524 rfl) ((M49515.2 133 1 (Or.inl (by decide))).trans z4098) (lv_sub hl [1, 2, 3, 0] rfl) (by omega)
              ·
                have r49525 : R (0) (0) v49506 := ⟨by omega, by omega⟩
                refine r_iconst S dX12_spreads_61 (by decide) (fun v49526 z49527 => ?_)
                have r49528 := R_eq z49527
                refine r_goto (tgt := 66) S dX12_spreads_62 (by decide) ?_
                refine r_zast (n := 1024) (K := 49) S X49504 (Nat.le_of_ble_eq_true rfl) rfl (fun _ _ => rfl) (ix_of r49444 rfl) (R_of (lo := 0) (hi := 1) r49528 rfl) dX12_spreads_66 (fun t49529 H lc M49530 X49531 => ?_)
                have I49532 := Inv_mu I4095 M49530 (show Rg (kd 142) _ v49526 from (R_of (lo := 0) (hi := 1) r49528 rfl))
                have F49533 : Fr [] [140, 141, 142] τ t49529 := Fr_cell F4096 M49530 (by decide)
                refine r_iinc (k := 3) S dX12_spreads_67 hl rfl (by decide) (by decide) (fun v49534 d49535 ls z49536 z49537 hl => ?_)
                obtain ⟨e49538, r49539⟩ := i_add (lo := 2) (hi := 1024) z49536 r49444 (R_eq z49537) rfl
                have hl : lv_has ls 9 [(3, .int v49534), (0, .ref (G.2.2.2.1 131)), (1, .int a0), (2, .int v17)] := hl
                refine r_goto (tgt := 13) S dX12_spreads_70 (by decide) ?_
                exact ih4100 t49529 _ _ _ v49534 X49531 I49532 F49533 (R_of r49539 rfl) ((M49530.2 133 1 (Or.inl (by decide))).trans z4098) (lv_sub hl [1, 2, 3, 0] rfl) (by omega)
  exact L4099 _ τ _ _ _ v21 X hI Fr_rfl (R_of r23 rfl) (zc (n := 1) (by omega) z8) (lv_sub hl [2, 3, 1, 0] rfl) (Nat.lt_succ_self _)
def po_X12_tripsBy (τ : Tau)  (a0 : Int32)   (r : Int32) (u : Tau) : Prop := Inv u ∧ Fr [] [140, 141, 142] τ u
set_option maxHeartbeats 4000000 in
set_option maxRecDepth 100000 in
theorem c_X12_tripsBy (l : Launch) (G : Gx) (τ : Tau) (hI : Inv τ) (a0 : Int32) (h_a0 : R (0) (8) a0) : Ci l G yX12_tripsBy cX12_tripsBy 3 (some .int) 6 144 [.ref (G.2.2.2.1 131), .int a0] τ (po_X12_tripsBy τ  a0  ) := by
  unfold Ci
  refine C_of (own := RX12) (by decide) rfl (Nat.le_of_ble_eq_true rfl) ?_
  intro p e s m below meth c ls S hr hlk X hl
  have hl : lv_has ls 3 [(0, .ref (G.2.2.2.1 131)), (1, .int a0)] := hl
  refine r_aload_n S dX12_tripsBy_0 rfl (lv_at hl 0 rfl) ?_
  refine r_get (K := 38) (v := .ref (G.2.2.2.1 133)) S X (Nat.le_of_ble_eq_true rfl) rfl lk12_33_10 (fun _ => ⟨_, rfl, rfl⟩) dX12_tripsBy_1 ?_
  refine r_sipush S dX12_tripsBy_4 (by decide) (fun v1 z2 => ?_)
  have r3 := R_eq z2
  refine r_aldn (n := 513) (K := 40) S X (Nat.le_of_ble_eq_true rfl) rfl (fun _ => rfl) (ix_of r3 rfl) dX12_tripsBy_7 (fun v4 z5 => ?_)
  have r6 : R (0) (1023) v4 := rds (K := 40) (a := 129) (n := 1) hI rfl z5 (R_of r3 rfl) (by decide +kernel)
  refine r_iconst S dX12_tripsBy_8 (by decide) (fun v7 z8 => ?_)
  have r9 := R_eq z8
  refine r_aload_n S dX12_tripsBy_9 rfl (lv_at hl 0 rfl) ?_
  refine r_get (K := 38) (v := .ref (G.2.2.2.1 133)) S X (Nat.le_of_ble_eq_true rfl) rfl lk12_33_10 (fun _ => ⟨_, rfl, rfl⟩) dX12_tripsBy_10 ?_
  refine r_iconst S dX12_tripsBy_13 (by decide) (fun v10 z11 => ?_)
  have r12 := R_eq z11
  refine r_aldn (n := 513) (K := 40) S X (Nat.le_of_ble_eq_true rfl) rfl (fun _ => rfl) (ix_of r12 rfl) dX12_tripsBy_14 (fun v13 z14 => ?_)
  have r15 : R (0) (10) v13 := rds (K := 40) (a := 1) (n := 1) hI rfl z14 (R_of r12 rfl) (by decide +kernel)
  refine r_ishl S dX12_tripsBy_15 (fun v16 z17 => ?_)
  have r19 : R (1) (1024) v16 := i_shl z17 r9 r15 rfl
  refine r_iconst S dX12_tripsBy_16 (by decide) (fun v20 z21 => ?_)
  have r22 := R_eq z21
  refine r_isub S dX12_tripsBy_17 (fun v23 z24 => ?_)
  obtain ⟨e25, r26⟩ := i_sub (lo := 0) (hi := 1023) z24 r19 r22 rfl
  refine r_icmp_ne (tgt := 23) S dX12_tripsBy_18 (by decide) (fun c27 => ?_) (fun c27 => ?_)
  ·
    refine r_aload_n S dX12_tripsBy_23 rfl (lv_at hl 0 rfl) ?_
    refine r_iload_n S dX12_tripsBy_24 rfl (lv_at hl 1 rfl) ?_
    refine r_kv (q_V (As := [.int a0]) (rest := []) (K := 38) (ci := 10) S X (c_X12_spreads l G τ hI a0 h_a0) ck12_332 (Nat.le_of_ble_eq_true rfl) rfl (fun _ => ⟨_, rfl⟩) ⟨_, _, rfl⟩ ⟨Nat.le_of_ble_eq_true rfl, Nat.le_of_ble_eq_true rfl⟩ rfl hl.1 rfl (Nat.le_of_ble_eq_true rfl) dX12_tripsBy_25 ⟨Nat.le_refl 0, Nat.le_refl 0⟩) X (fun t30 H lc q28 X29 => ?_)
    unfold po_X12_spreads at q28
    obtain ⟨q31, q32⟩ := q28
    have F33 : Fr [] [140, 141, 142] τ t30 := Fr_call Fr_rfl q32 (by decide)
    refine r_aload_n S dX12_tripsBy_28 rfl (lv_at hl 0 rfl) ?_
    refine r_get (K := 38) (v := .ref (G.2.2.2.1 140)) S X29 (Nat.le_of_ble_eq_true rfl) rfl lk12_56_10 (fun _ => ⟨_, rfl, rfl⟩) dX12_tripsBy_29 ?_
    refine r_aload_n S dX12_tripsBy_32 rfl (lv_at hl 0 rfl) ?_
    refine r_get (K := 38) (v := .ref (G.2.2.2.1 133)) S X29 (Nat.le_of_ble_eq_true rfl) rfl lk12_33_10 (fun _ => ⟨_, rfl, rfl⟩) dX12_tripsBy_33 ?_
    refine r_bipush S dX12_tripsBy_36 (by decide) (fun v34 z35 => ?_)
    have r36 := R_eq z35
    refine r_aldn (n := 513) (K := 40) S X29 (Nat.le_of_ble_eq_true rfl) rfl (fun _ => rfl) (ix_of r36 rfl) dX12_tripsBy_38 (fun v37 z38 => ?_)
    have r39 : R (0) (1) v37 := rds (K := 40) (a := 125) (n := 1) q31 rfl z38 (R_of r36 rfl) (by decide +kernel)
    refine r_bipush S dX12_tripsBy_39 (by decide) (fun v40 z41 => ?_)
    have r42 := R_eq z41
    refine r_ishl S dX12_tripsBy_41 (fun v43 z44 => ?_)
    have r46 : R (0) (1024) v43 := i_shl z44 r39 r42 rfl
    refine r_aload_n S dX12_tripsBy_42 rfl (lv_at hl 0 rfl) ?_
    refine r_get (K := 38) (v := .ref (G.2.2.2.1 133)) S X29 (Nat.le_of_ble_eq_true rfl) rfl lk12_33_10 (fun _ => ⟨_, rfl, rfl⟩) dX12_tripsBy_43 ?_
    refine r_sipush S dX12_tripsBy_46 (by decide) (fun v47 z48 => ?_)
    have r49 := R_eq z48
    refine r_aldi (x := v4) (n := 513) (K := 40) S X29 (Nat.le_of_ble_eq_true rfl) rfl (fun _ => rfl) (ix_of r49 rfl) (zc' (n := 129) (by omega) ((q32 133 129 (by decide)).trans (zc (n := 129) (by omega) z5))) dX12_tripsBy_49 ?_
    refine r_ior S dX12_tripsBy_50 (fun v51 z52 => ?_)
    have r54 : R (0) (2047) v51 := i_or 11 z52 r46 r6 rfl
    refine r_aldn (n := 2048) (K := 47) S X29 (Nat.le_of_ble_eq_true rfl) rfl (fun _ => rfl) (ix_of r54 rfl) dX12_tripsBy_51 (fun v55 z56 => ?_)
    have r58 := R_any v55
    refine r_istore_n (lv' := [(2, .int v55), (0, .ref (G.2.2.2.1 131)), (1, .int a0)]) S dX12_tripsBy_52 rfl hl (by decide) rfl (fun ls hl => ?_)
    refine r_iload_n S dX12_tripsBy_53 rfl (lv_at hl 0 rfl) ?_
    refine lv_ldcw S.1.1 S.1.2.1 S.1.2.2.2.1 (S.1.2.2.2.2 _ kw35) dX12_tripsBy_54 ?_
    refine lv_topi (fun v59 z60 => ?_)
    have r61 : R (100000) (100000) v59 := by rw [z60]; decide
    have e62 : v59.toInt = 100000 := by omega
    refine r_icmp_ge (tgt := 64) S dX12_tripsBy_57 (by decide) (fun c63 => ?_) (fun c63 => ?_)
    ·
      have r64 : R (100000) (2147483647) v55 := ⟨by omega, by omega⟩
      refine r_iconst S dX12_tripsBy_64 (by decide) (fun v65 z66 => ?_)
      have r67 := R_eq z66
      exact r_ret S hr hlk X29 ⟨q31, F33⟩ rfl dX12_tripsBy_65
    ·
      have r68 : R (-2147483648) (99999) v55 := ⟨by omega, by omega⟩
      refine r_iload_n S dX12_tripsBy_60 rfl (lv_at hl 0 rfl) ?_
      refine r_goto (tgt := 65) S dX12_tripsBy_61 (by decide) ?_
      exact r_ret S hr hlk X29 ⟨q31, F33⟩ rfl dX12_tripsBy_65
  ·
    refine r_iconst S dX12_tripsBy_21 (by decide) (fun v69 z70 => ?_)
    have r71 := R_eq z70
    exact r_ret S hr hlk X ⟨hI, Fr_rfl⟩ rfl dX12_tripsBy_22
def po_X12_trips (τ : Tau)  (a0 : Int32)   (r : Int32) (u : Tau) : Prop := Inv u ∧ Fr [(131, 0)] [140, 141, 142] τ u
set_option maxHeartbeats 4000000 in
set_option maxRecDepth 100000 in
theorem c_X12_trips (l : Launch) (G : Gx) (τ : Tau) (hI : Inv τ) (a0 : Int32) (h_a0 : R (-2147483648) (2147483647) a0) : Ci l G yX12_trips cX12_trips 2 (some .int) 7 166 [.ref (G.2.2.2.1 131), .int a0] τ (po_X12_trips τ  a0  ) := by
  unfold Ci
  refine C_of (own := RX12) (by decide) rfl (Nat.le_of_ble_eq_true rfl) ?_
  intro p e s m below meth c ls S hr hlk X hl
  have hl : lv_has ls 2 [(0, .ref (G.2.2.2.1 131)), (1, .int a0)] := hl
  refine r_aload_n S dX12_trips_0 rfl (lv_at hl 0 rfl) ?_
  refine r_iconst S dX12_trips_1 (by decide) (fun v1 z2 => ?_)
  have r3 := R_eq z2
  refine r_put (K := 38) (ty := .int) S X (Nat.le_of_ble_eq_true rfl) rfl lk12_1_10 (fun _ => ⟨_, rfl, Nat.le_of_ble_eq_true rfl, rfl⟩) (fun _ _ _ h => by cases h; exact ⟨rfl, rfl⟩) rfl rfl dX12_trips_2 (fun t4 H lc M5 X6 => ?_)
  have I7 := Inv_mu hI M5 (R_any v1)
  have F8 : Fr [(131, 0)] [140, 141, 142] τ t4 := Fr_mu Fr_rfl M5 (by decide)
  refine r_aload_n S dX12_trips_5 rfl (lv_at hl 0 rfl) ?_
  refine r_iload_n S dX12_trips_6 rfl (lv_at hl 1 rfl) ?_
  refine r_ki (q_V (As := [.int a0]) (rest := []) (K := 38) (ci := 10) S X6 (c_X12_isAsk l G t4 I7 a0 h_a0) ck12_266 (Nat.le_of_ble_eq_true rfl) rfl (fun _ => ⟨_, rfl⟩) ⟨_, _, rfl⟩ ⟨Nat.le_of_ble_eq_true rfl, Nat.le_of_ble_eq_true rfl⟩ rfl hl.1 rfl (Nat.le_of_ble_eq_true rfl) dX12_trips_7 ⟨Nat.le_refl 0, Nat.le_refl 0⟩) X6 (fun v12 t11 H lc q9 X10 => ?_)
  unfold po_X12_isAsk at q9
  obtain ⟨q13, q14, q15⟩ := q9
  rw [q13] at X10
  refine r_if_eq (tgt := 21) S dX12_trips_10 (by decide) (fun c16 => ?_) (fun c16 => ?_)
  ·
    have r17 : R (0) (0) v12 := ⟨by omega, by omega⟩
    refine r_iconst S dX12_trips_21 (by decide) (fun v18 z19 => ?_)
    have r20 := R_eq z19
    exact r_ret S hr hlk X10 ⟨I7, F8⟩ rfl dX12_trips_22
  ·
    have r21 : R (1) (1) v12 := ⟨by omega, by omega⟩
    have p22 := q15 (by omega)
    have r23 : R (0) (8) a0 := ⟨by omega, by omega⟩
    refine r_aload_n S dX12_trips_13 rfl (lv_at hl 0 rfl) ?_
    refine r_iload_n S dX12_trips_14 rfl (lv_at hl 1 rfl) ?_
    refine r_ki (q_V (As := [.int a0]) (rest := []) (K := 38) (ci := 10) S X10 (c_X12_tripsBy l G t4 I7 a0 r23) ck12_335 (Nat.le_of_ble_eq_true rfl) rfl (fun _ => ⟨_, rfl⟩) ⟨_, _, rfl⟩ ⟨Nat.le_of_ble_eq_true rfl, Nat.le_of_ble_eq_true rfl⟩ rfl hl.1 rfl (Nat.le_of_ble_eq_true rfl) dX12_trips_15 ⟨Nat.le_refl 0, Nat.le_refl 0⟩) X10 (fun v27 t26 H lc q24 X25 => ?_)
    unfold po_X12_tripsBy at q24
    obtain ⟨q28, q29⟩ := q24
    have F30 : Fr [(131, 0)] [140, 141, 142] τ t26 := Fr_call F8 q29 (by decide)
    have r31 := R_any v27
    refine r_goto (tgt := 22) S dX12_trips_18 (by decide) ?_
    exact r_ret S hr hlk X25 ⟨q28, F30⟩ rfl dX12_trips_22
def po_X12_next (τ : Tau)     (r : Int32) (u : Tau) : Prop := Inv u ∧ Fr [(131, 0)] [140, 141, 142] τ u
set_option maxHeartbeats 4000000 in
set_option maxRecDepth 100000 in
theorem c_X12_next (l : Launch) (G : Gx) (τ : Tau) (hI : Inv τ) : Ci l G yX12_next cX12_next 4 (some .int) 7 166 [.ref (G.2.2.2.1 131)] τ (po_X12_next τ    ) := by
  unfold Ci
  refine C_of (own := RX12) (by decide) rfl (Nat.le_of_ble_eq_true rfl) ?_
  intro p e s m below meth c ls S hr hlk X hl
  have hl : lv_has ls 4 [(0, .ref (G.2.2.2.1 131))] := hl
  refine r_aload_n S dX12_next_0 rfl (lv_at hl 0 rfl) ?_
  refine r_iconst S dX12_next_1 (by decide) (fun v1 z2 => ?_)
  have r3 := R_eq z2
  refine r_put (K := 38) (ty := .int) S X (Nat.le_of_ble_eq_true rfl) rfl lk12_1_10 (fun _ => ⟨_, rfl, Nat.le_of_ble_eq_true rfl, rfl⟩) (fun _ _ _ h => by cases h; exact ⟨rfl, rfl⟩) rfl rfl dX12_next_2 (fun t4 H lc M5 X6 => ?_)
  have I7 := Inv_mu hI M5 (R_any v1)
  have F8 : Fr [(131, 0)] [140, 141, 142] τ t4 := Fr_mu Fr_rfl M5 (by decide)
  refine r_aload_n S dX12_next_5 rfl (lv_at hl 0 rfl) ?_
  refine r_get (K := 38) (v := .ref (G.2.2.2.1 133)) S X6 (Nat.le_of_ble_eq_true rfl) rfl lk12_33_10 (fun _ => ⟨_, rfl, rfl⟩) dX12_next_6 ?_
  refine r_iconst S dX12_next_9 (by decide) (fun v9 z10 => ?_)
  have r11 := R_eq z10
  refine r_aldn (n := 513) (K := 40) S X6 (Nat.le_of_ble_eq_true rfl) rfl (fun _ => rfl) (ix_of r11 rfl) dX12_next_10 (fun v12 z13 => ?_)
  have r14 : R (0) (9) v12 := rds (K := 40) (a := 0) (n := 1) I7 rfl z13 (R_of r11 rfl) (by decide +kernel)
  refine r_if_ne (tgt := 18) S dX12_next_11 (by decide) (fun c15 => ?_) (fun c15 => ?_)
  ·
    have r16 : R (1) (9) v12 := ⟨by omega, by omega⟩
    refine r_aload_n S dX12_next_18 rfl (lv_at hl 0 rfl) ?_
    refine r_aload_n S dX12_next_19 rfl (lv_at hl 0 rfl) ?_
    refine r_get (K := 38) (v := .ref (G.2.2.2.1 133)) S X6 (Nat.le_of_ble_eq_true rfl) rfl lk12_33_10 (fun _ => ⟨_, rfl, rfl⟩) dX12_next_20 ?_
    refine r_bipush S dX12_next_23 (by decide) (fun v17 z18 => ?_)
    have r19 := R_eq z18
    refine r_aldn (n := 513) (K := 40) S X6 (Nat.le_of_ble_eq_true rfl) rfl (fun _ => rfl) (ix_of r19 rfl) dX12_next_25 (fun v20 z21 => ?_)
    have r22 : R (0) (8) v20 := rds (K := 40) (a := 126) (n := 1) I7 rfl z21 (R_of r19 rfl) (by decide +kernel)
    refine r_ki (q_V (As := [.int v20]) (rest := []) (K := 38) (ci := 10) S X6 (c_X12_tripsBy l G t4 I7 v20 r22) ck12_335 (Nat.le_of_ble_eq_true rfl) rfl (fun _ => ⟨_, rfl⟩) ⟨_, _, rfl⟩ ⟨Nat.le_of_ble_eq_true rfl, Nat.le_of_ble_eq_true rfl⟩ rfl hl.1 rfl (Nat.le_of_ble_eq_true rfl) dX12_next_26 ⟨Nat.le_refl 0, Nat.le_refl 0⟩) X6 (fun v26 t25 H lc q23 X24 => ?_)
    unfold po_X12_tripsBy at q23
    obtain ⟨q27, q28⟩ := q23
    have F29 : Fr [(131, 0)] [140, 141, 142] τ t25 := Fr_call F8 q28 (by decide)
    have r30 := R_any v26
    refine r_istore_n (lv' := [(1, .int v26), (0, .ref (G.2.2.2.1 131))]) S dX12_next_29 rfl hl (by decide) rfl (fun ls hl => ?_)
    refine r_iload_n S dX12_next_30 rfl (lv_at hl 0 rfl) ?_
    refine r_if_gt (tgt := 36) S dX12_next_31 (by decide) (fun c31 => ?_) (fun c31 => ?_)
    ·
      have r32 : R (1) (2147483647) v26 := ⟨by omega, by omega⟩
      refine r_aload_n S dX12_next_36 rfl (lv_at hl 1 rfl) ?_
      refine r_get (K := 38) (v := .ref (G.2.2.2.1 133)) S X24 (Nat.le_of_ble_eq_true rfl) rfl lk12_33_10 (fun _ => ⟨_, rfl, rfl⟩) dX12_next_37 ?_
      refine r_bipush S dX12_next_40 (by decide) (fun v33 z34 => ?_)
      have r35 := R_eq z34
      refine r_aldn (n := 513) (K := 40) S X24 (Nat.le_of_ble_eq_true rfl) rfl (fun _ => rfl) (ix_of r35 rfl) dX12_next_42 (fun v36 z37 => ?_)
      have r38 : R (0) (1) v36 := rds (K := 40) (a := 125) (n := 1) q27 rfl z37 (R_of r35 rfl) (by decide +kernel)
      refine r_bipush S dX12_next_43 (by decide) (fun v39 z40 => ?_)
      have r41 := R_eq z40
      refine r_ishl S dX12_next_45 (fun v42 z43 => ?_)
      have r45 : R (0) (1024) v42 := i_shl z43 r38 r41 rfl
      refine r_aload_n S dX12_next_46 rfl (lv_at hl 1 rfl) ?_
      refine r_get (K := 38) (v := .ref (G.2.2.2.1 133)) S X24 (Nat.le_of_ble_eq_true rfl) rfl lk12_33_10 (fun _ => ⟨_, rfl, rfl⟩) dX12_next_47 ?_
      refine r_sipush S dX12_next_50 (by decide) (fun v46 z47 => ?_)
      have r48 := R_eq z47
      refine r_aldn (n := 513) (K := 40) S X24 (Nat.le_of_ble_eq_true rfl) rfl (fun _ => rfl) (ix_of r48 rfl) dX12_next_53 (fun v49 z50 => ?_)
      have r51 : R (0) (1023) v49 := rds (K := 40) (a := 129) (n := 1) q27 rfl z50 (R_of r48 rfl) (by decide +kernel)
      refine r_ior S dX12_next_54 (fun v52 z53 => ?_)
      have r55 : R (0) (2047) v52 := i_or 11 z53 r45 r51 rfl
      refine r_istore_n (lv' := [(2, .int v52), (1, .int v26), (0, .ref (G.2.2.2.1 131))]) S dX12_next_55 rfl hl (by decide) rfl (fun ls hl => ?_)
      refine r_iconst S dX12_next_56 (by decide) (fun v56 z57 => ?_)
      have r58 := R_eq z57
      refine r_istore_n (lv' := [(3, .int v56), (2, .int v52), (1, .int v26), (0, .ref (G.2.2.2.1 131))]) S dX12_next_57 rfl hl (by decide) rfl (fun ls hl => ?_)
      have L2933 : ∀ (n : Nat) (H : Heap) (lc : List Loc) (ls : Array Slot) (i2930 : Int32), Xd G s H lc t25 → R (1) (1024) i2930 → lv_has ls 4 [(0, .ref (G.2.2.2.1 131)), (1, .int v26), (2, .int v52), (3, .int i2930)] → (1024 - i2930.toInt).toNat < n → W p l e (Rm 7 166) s m ([.ref (G.2.2.2.1 131)] : List Value).toArray below meth c H lc 0 0 (MQ below (va_Qi (po_X12_next τ    ) (Bs G) G.2.2.2.2) ([.ref (G.2.2.2.1 131)] : List Value).toArray s 0 0 G.2.2.2.2) (F0 m 58 ls []) := by
        intro n
        induction n with
        | zero => intros; omega
        | succ n ih2934 =>
          intro H lc ls i2930 X2932 r2931 hl hm
          refine r_iload_n S dX12_next_58 rfl (lv_at hl 3 rfl) ?_
          refine r_iconst S dX12_next_59 (by decide) (fun v2935 z2936 => ?_)
          have r2937 := R_eq z2936
          refine r_aload_n S dX12_next_60 rfl (lv_at hl 0 rfl) ?_
          refine r_get (K := 38) (v := .ref (G.2.2.2.1 133)) S X2932 (Nat.le_of_ble_eq_true rfl) rfl lk12_33_10 (fun _ => ⟨_, rfl, rfl⟩) dX12_next_61 ?_
          refine r_iconst S dX12_next_64 (by decide) (fun v2938 z2939 => ?_)
          have r2940 := R_eq z2939
          refine r_aldn (n := 513) (K := 40) S X2932 (Nat.le_of_ble_eq_true rfl) rfl (fun _ => rfl) (ix_of r2940 rfl) dX12_next_65 (fun v2941 z2942 => ?_)
          have r2943 : R (0) (10) v2941 := rds (K := 40) (a := 1) (n := 1) q27 rfl z2942 (R_of r2940 rfl) (by decide +kernel)
          refine r_ishl S dX12_next_66 (fun v2944 z2945 => ?_)
          have r2947 : R (1) (1024) v2944 := i_shl z2945 r2937 r2943 rfl
          refine r_icmp_ge (tgt := 116) S dX12_next_67 (by decide) (fun c2948 => ?_) (fun c2948 => ?_)
          ·
            refine r_iconst S dX12_next_116 (by decide) (fun v2949 z2950 => ?_)
            have r2951 := R_eq z2950
            exact r_ret S hr hlk X2932 ⟨q27, F29⟩ rfl dX12_next_117
          ·
            have r2952 : R (1) (1023) i2930 := ⟨by omega, by omega⟩
            have r2953 : R (2) (1024) v2944 := ⟨by omega, by omega⟩
            refine r_iload_n S dX12_next_70 rfl (lv_at hl 3 rfl) ?_
            refine r_aload_n S dX12_next_71 rfl (lv_at hl 0 rfl) ?_
            refine r_ki (q_V (As := []) (rest := [.int i2930]) (K := 38) (ci := 10) S X2932 (c_X12_ashore l G t25 q27 ) ck12_281 (Nat.le_of_ble_eq_true rfl) rfl (fun _ => ⟨_, rfl⟩) ⟨_, _, rfl⟩ ⟨Nat.le_of_ble_eq_true rfl, Nat.le_of_ble_eq_true rfl⟩ rfl hl.1 rfl (Nat.le_of_ble_eq_true rfl) dX12_next_72 ⟨Nat.le_refl 0, Nat.le_refl 0⟩) X2932 (fun v2957 t2956 H lc q2954 X2955 => ?_)
            unfold po_X12_ashore at q2954
            obtain ⟨q2958, q2959⟩ := q2954
            rw [q2958] at X2955
            refine r_iconst S dX12_next_75 (by decide) (fun v2960 z2961 => ?_)
            have r2962 := R_eq z2961
            refine r_ixor S dX12_next_76 (fun v2963 z2964 => ?_)
            have r2965 := R_any v2963
            refine r_iand S dX12_next_77 (fun v2966 z2967 => ?_)
            have r2969 : R (0) (1023) v2966 := i_and1 z2967 r2952 r2965 rfl
            have e2970 := i_andle z2967 r2952 rfl
            refine r_if_ne (tgt := 110) S dX12_next_78 (by decide) (fun c2971 => ?_) (fun c2971 => ?_)
            ·
              have r2972 : R (1) (1023) v2966 := ⟨by omega, by omega⟩
              refine r_iinc (k := 3) S dX12_next_110 hl rfl (by decide) (by decide) (fun v2973 d2974 ls z2975 z2976 hl => ?_)
              obtain ⟨e2977, r2978⟩ := i_add (lo := 2) (hi := 1024) z2975 r2952 (R_eq z2976) rfl
              have hl : lv_has ls 4 [(3, .int v2973), (0, .ref (G.2.2.2.1 131)), (1, .int v26), (2, .int v52)] := hl
              refine r_goto (tgt := 58) S dX12_next_113 (by decide) ?_
              exact ih2934 _ _ _ v2973 X2955 (R_of r2978 rfl) (lv_sub hl [1, 2, 3, 0] rfl) (by omega)
            ·
              have r2979 : R (0) (0) v2966 := ⟨by omega, by omega⟩
              refine r_aload_n S dX12_next_81 rfl (lv_at hl 0 rfl) ?_
              refine r_get (K := 38) (v := .ref (G.2.2.2.1 142)) S X2955 (Nat.le_of_ble_eq_true rfl) rfl lk12_62_10 (fun _ => ⟨_, rfl, rfl⟩) dX12_next_82 ?_
              refine r_iload_n S dX12_next_85 rfl (lv_at hl 3 rfl) ?_
              refine r_zald (n := 1024) (K := 49) S X2955 (Nat.le_of_ble_eq_true rfl) rfl (fun _ => rfl) (ix_of r2952 rfl) dX12_next_86 (fun v2980 z2981 => ?_)
              have r2982 : R (0) (1) v2980 := rd q27 rfl z2981
              refine r_if_eq (tgt := 110) S dX12_next_87 (by decide) (fun c2983 => ?_) (fun c2983 => ?_)
              ·
                have r2984 : R (0) (0) v2980 := ⟨by omega, by omega⟩
                refine r_iinc (k := 3) S dX12_next_110 hl rfl (by decide) (by decide) (fun v2985 d2986 ls z2987 z2988 hl => ?_)
                obtain ⟨e2989, r2990⟩ := i_add (lo := 2) (hi := 1024) z2987 r2952 (R_eq z2988) rfl
                have hl : lv_has ls 4 [(3, .int v2985), (0, .ref (G.2.2.2.1 131)), (1, .int v26), (2, .int v52)] := hl
                refine r_goto (tgt := 58) S dX12_next_113 (by decide) ?_
                exact ih2934 _ _ _ v2985 X2955 (R_of r2990 rfl) (lv_sub hl [1, 2, 3, 0] rfl) (by omega)
              ·
                have r2991 : R (1) (1) v2980 := ⟨by omega, by omega⟩
                refine r_aload_n S dX12_next_90 rfl (lv_at hl 0 rfl) ?_
                refine r_get (K := 38) (v := .ref (G.2.2.2.1 140)) S X2955 (Nat.le_of_ble_eq_true rfl) rfl lk12_56_10 (fun _ => ⟨_, rfl, rfl⟩) dX12_next_91 ?_
                refine r_iload_n S dX12_next_94 rfl (lv_at hl 2 rfl) ?_
                refine r_sipush S dX12_next_95 (by decide) (fun v2992 z2993 => ?_)
                have r2994 := R_eq z2993
                refine r_ixor S dX12_next_98 (fun v2995 z2996 => ?_)
                have r2998 : R (0) (2047) v2995 := i_xor 11 z2996 r55 r2994 rfl
                refine r_iload_n S dX12_next_99 rfl (lv_at hl 3 rfl) ?_
                refine r_ixor S dX12_next_100 (fun v2999 z3000 => ?_)
                have r3002 : R (0) (2047) v2999 := i_xor 11 z3000 r2998 r2952 rfl
                refine r_aldn (n := 2048) (K := 47) S X2955 (Nat.le_of_ble_eq_true rfl) rfl (fun _ => rfl) (ix_of r3002 rfl) dX12_next_101 (fun v3003 z3004 => ?_)
                have r3006 := R_any v3003
                refine r_iload_n S dX12_next_102 rfl (lv_at hl 1 rfl) ?_
                refine r_iconst S dX12_next_103 (by decide) (fun v3007 z3008 => ?_)
                have r3009 := R_eq z3008
                refine r_isub S dX12_next_104 (fun v3010 z3011 => ?_)
                obtain ⟨e3012, r3013⟩ := i_sub (lo := 0) (hi := 2147483646) z3011 r32 r3009 rfl
                refine r_icmp_ne (tgt := 110) S dX12_next_105 (by decide) (fun c3014 => ?_) (fun c3014 => ?_)
                ·
                  refine r_iinc (k := 3) S dX12_next_110 hl rfl (by decide) (by decide) (fun v3015 d3016 ls z3017 z3018 hl => ?_)
                  obtain ⟨e3019, r3020⟩ := i_add (lo := 2) (hi := 1024) z3017 r2952 (R_eq z3018) rfl
                  have hl : lv_has ls 4 [(3, .int v3015), (0, .ref (G.2.2.2.1 131)), (1, .int v26), (2, .int v52)] := hl
                  refine r_goto (tgt := 58) S dX12_next_113 (by decide) ?_
                  exact ih2934 _ _ _ v3015 X2955 (R_of r3020 rfl) (lv_sub hl [1, 2, 3, 0] rfl) (by omega)
                ·
                  have r3021 : R (0) (2147483646) v3003 := ⟨by omega, by omega⟩
                  refine r_iload_n S dX12_next_108 rfl (lv_at hl 3 rfl) ?_
                  exact r_ret S hr hlk X2955 ⟨q27, F29⟩ rfl dX12_next_109
      exact L2933 _ _ _ _ v56 X24 (R_of r58 rfl) (lv_sub hl [3, 2, 1, 0] rfl) (Nat.lt_succ_self _)
    ·
      have r3022 : R (-2147483648) (0) v26 := ⟨by omega, by omega⟩
      refine r_iload_n S dX12_next_34 rfl (lv_at hl 0 rfl) ?_
      exact r_ret S hr hlk X24 ⟨q27, F29⟩ rfl dX12_next_35
  ·
    have r3023 : R (0) (0) v12 := ⟨by omega, by omega⟩
    refine r_iconst S dX12_next_14 (by decide) (fun v3024 z3025 => ?_)
    have r3026 := R_eq z3025
    refine r_goto (tgt := 29) S dX12_next_15 (by decide) ?_
    refine r_istore_n (lv' := [(1, .int v3024), (0, .ref (G.2.2.2.1 131))]) S dX12_next_29 rfl hl (by decide) rfl (fun ls hl => ?_)
    refine r_iload_n S dX12_next_30 rfl (lv_at hl 0 rfl) ?_
    refine r_if_gt (tgt := 36) S dX12_next_31 (by decide) (fun c3027 => ?_) (fun c3027 => ?_)
    ·
      exfalso; omega
    ·
      refine r_iload_n S dX12_next_34 rfl (lv_at hl 0 rfl) ?_
      exact r_ret S hr hlk X6 ⟨I7, F8⟩ rfl dX12_next_35
def po_X12_best (τ : Tau)     (r : Int32) (u : Tau) : Prop := Inv u ∧ Fr [(131, 0)] [140, 141, 142] τ u
set_option maxHeartbeats 4000000 in
set_option maxRecDepth 100000 in
theorem c_X12_best (l : Launch) (G : Gx) (τ : Tau) (hI : Inv τ) : Ci l G yX12_best cX12_best 5 (some .int) 7 166 [.ref (G.2.2.2.1 131)] τ (po_X12_best τ    ) := by
  unfold Ci
  refine C_of (own := RX12) (by decide) rfl (Nat.le_of_ble_eq_true rfl) ?_
  intro p e s m below meth c ls S hr hlk X hl
  have hl : lv_has ls 5 [(0, .ref (G.2.2.2.1 131))] := hl
  refine r_aload_n S dX12_best_0 rfl (lv_at hl 0 rfl) ?_
  refine r_iconst S dX12_best_1 (by decide) (fun v1 z2 => ?_)
  have r3 := R_eq z2
  refine r_put (K := 38) (ty := .int) S X (Nat.le_of_ble_eq_true rfl) rfl lk12_1_10 (fun _ => ⟨_, rfl, Nat.le_of_ble_eq_true rfl, rfl⟩) (fun _ _ _ h => by cases h; exact ⟨rfl, rfl⟩) rfl rfl dX12_best_2 (fun t4 H lc M5 X6 => ?_)
  have I7 := Inv_mu hI M5 (R_any v1)
  have F8 : Fr [(131, 0)] [140, 141, 142] τ t4 := Fr_mu Fr_rfl M5 (by decide)
  refine r_iconst S dX12_best_5 (by decide) (fun v9 z10 => ?_)
  have r11 := R_eq z10
  refine r_istore_n (lv' := [(1, .int v9), (0, .ref (G.2.2.2.1 131))]) S dX12_best_6 rfl hl (by decide) rfl (fun ls hl => ?_)
  refine lv_ldcw S.1.1 S.1.2.1 S.1.2.2.2.1 (S.1.2.2.2.2 _ kw35) dX12_best_7 ?_
  refine lv_topi (fun v12 z13 => ?_)
  have r14 : R (100000) (100000) v12 := by rw [z13]; decide
  have e15 : v12.toInt = 100000 := by omega
  refine r_istore_n (lv' := [(2, .int v12), (1, .int v9), (0, .ref (G.2.2.2.1 131))]) S dX12_best_10 rfl hl (by decide) rfl (fun ls hl => ?_)
  refine r_iconst S dX12_best_11 (by decide) (fun v16 z17 => ?_)
  have r18 := R_eq z17
  refine r_istore_n (lv' := [(3, .int v16), (2, .int v12), (1, .int v9), (0, .ref (G.2.2.2.1 131))]) S dX12_best_12 rfl hl (by decide) rfl (fun ls hl => ?_)
  have L390 : ∀ (n : Nat) (t385 : Tau) (H : Heap) (lc : List Loc) (ls : Array Slot) (i379 : Int32) (i381 : Int32) (i383 : Int32), Xd G s H lc t385 → Inv t385 → Fr [(131, 0)] [140, 141, 142] τ t385 → R (-1) (8) i379 → R (0) (100000) i381 → R (0) (9) i383 → t385 131 0 = v1 → lv_has ls 5 [(0, .ref (G.2.2.2.1 131)), (1, .int i379), (2, .int i381), (3, .int i383)] → (9 - i383.toInt).toNat < n → W p l e (Rm 7 166) s m ([.ref (G.2.2.2.1 131)] : List Value).toArray below meth c H lc 0 0 (MQ below (va_Qi (po_X12_best τ    ) (Bs G) G.2.2.2.2) ([.ref (G.2.2.2.1 131)] : List Value).toArray s 0 0 G.2.2.2.2) (F0 m 13 ls []) := by
    intro n
    induction n with
    | zero => intros; omega
    | succ n ih391 =>
      intro t385 H lc ls i379 i381 i383 X388 I386 F387 r380 r382 r384 z389 hl hm
      refine r_iload_n S dX12_best_13 rfl (lv_at hl 3 rfl) ?_
      refine r_aload_n S dX12_best_14 rfl (lv_at hl 0 rfl) ?_
      refine r_get (K := 38) (v := .ref (G.2.2.2.1 133)) S X388 (Nat.le_of_ble_eq_true rfl) rfl lk12_33_10 (fun _ => ⟨_, rfl, rfl⟩) dX12_best_15 ?_
      refine r_iconst S dX12_best_18 (by decide) (fun v392 z393 => ?_)
      have r394 := R_eq z393
      refine r_aldn (n := 513) (K := 40) S X388 (Nat.le_of_ble_eq_true rfl) rfl (fun _ => rfl) (ix_of r394 rfl) dX12_best_19 (fun v395 z396 => ?_)
      have r397 : R (0) (9) v395 := rds (K := 40) (a := 0) (n := 1) I386 rfl z396 (R_of r394 rfl) (by decide +kernel)
      refine r_icmp_ge (tgt := 55) S dX12_best_20 (by decide) (fun c398 => ?_) (fun c398 => ?_)
      ·
        refine r_iload_n S dX12_best_55 rfl (lv_at hl 1 rfl) ?_
        exact r_ret S hr hlk X388 ⟨I386, F387⟩ rfl dX12_best_56
      ·
        have r399 : R (0) (8) i383 := ⟨by omega, by omega⟩
        have r400 : R (1) (9) v395 := ⟨by omega, by omega⟩
        refine r_aload_n S dX12_best_23 rfl (lv_at hl 0 rfl) ?_
        refine r_iload_n S dX12_best_24 rfl (lv_at hl 3 rfl) ?_
        refine r_ki (q_V (As := [.int i383]) (rest := []) (K := 38) (ci := 10) S X388 (c_X12_tripsBy l G t385 I386 i383 r399) ck12_335 (Nat.le_of_ble_eq_true rfl) rfl (fun _ => ⟨_, rfl⟩) ⟨_, _, rfl⟩ ⟨Nat.le_of_ble_eq_true rfl, Nat.le_of_ble_eq_true rfl⟩ rfl hl.1 rfl (Nat.le_of_ble_eq_true rfl) dX12_best_25 ⟨Nat.le_refl 0, Nat.le_refl 0⟩) X388 (fun v404 t403 H lc q401 X402 => ?_)
        unfold po_X12_tripsBy at q401
        obtain ⟨q405, q406⟩ := q401
        have F407 : Fr [(131, 0)] [140, 141, 142] τ t403 := Fr_call F387 q406 (by decide)
        have r408 := R_any v404
        refine r_istore (lv' := [(4, .int v404), (0, .ref (G.2.2.2.1 131)), (1, .int i379), (2, .int i381), (3, .int i383)]) S dX12_best_28 hl (by decide) rfl (fun ls hl => ?_)
        refine r_iload S dX12_best_30 (lv_at hl 0 rfl) ?_
        refine r_if_lt (tgt := 49) S dX12_best_32 (by decide) (fun c409 => ?_) (fun c409 => ?_)
        ·
          have r410 : R (-2147483648) (-1) v404 := ⟨by omega, by omega⟩
          refine r_iinc (k := 4) S dX12_best_49 hl rfl (by decide) (by decide) (fun v411 d412 ls z413 z414 hl => ?_)
          obtain ⟨e415, r416⟩ := i_add (lo := 1) (hi := 9) z413 r399 (R_eq z414) rfl
          have hl : lv_has ls 5 [(3, .int v411), (4, .int v404), (0, .ref (G.2.2.2.1 131)), (1, .int i379), (2, .int i381)] := hl
          refine r_goto (tgt := 13) S dX12_best_52 (by decide) ?_
          exact ih391 t403 _ _ _ i379 i381 v411 X402 q405 F407 r380 r382 (R_of r416 rfl) ((q406 131 0 (by decide)).trans z389) (lv_sub hl [2, 3, 4, 0] rfl) (by omega)
        ·
          have r417 : R (0) (2147483647) v404 := ⟨by omega, by omega⟩
          refine r_iload S dX12_best_35 (lv_at hl 0 rfl) ?_
          refine r_iload_n S dX12_best_37 rfl (lv_at hl 3 rfl) ?_
          refine r_icmp_lt (tgt := 44) S dX12_best_38 (by decide) (fun c418 => ?_) (fun c418 => ?_)
          ·
            have r419 : R (0) (99999) v404 := ⟨by omega, by omega⟩
            have r420 : R (1) (100000) i381 := ⟨by omega, by omega⟩
            refine r_iload S dX12_best_44 (lv_at hl 0 rfl) ?_
            refine r_istore_n (lv' := [(2, .int v404), (4, .int v404), (0, .ref (G.2.2.2.1 131)), (1, .int i379), (3, .int i383)]) S dX12_best_46 rfl hl (by decide) rfl (fun ls hl => ?_)
            refine r_iload_n S dX12_best_47 rfl (lv_at hl 4 rfl) ?_
            refine r_istore_n (lv' := [(1, .int i383), (2, .int v404), (4, .int v404), (0, .ref (G.2.2.2.1 131)), (3, .int i383)]) S dX12_best_48 rfl hl (by decide) rfl (fun ls hl => ?_)
            refine r_iinc (k := 4) S dX12_best_49 hl rfl (by decide) (by decide) (fun v421 d422 ls z423 z424 hl => ?_)
            obtain ⟨e425, r426⟩ := i_add (lo := 1) (hi := 9) z423 r399 (R_eq z424) rfl
            have hl : lv_has ls 5 [(3, .int v421), (1, .int i383), (2, .int v404), (4, .int v404), (0, .ref (G.2.2.2.1 131))] := hl
            refine r_goto (tgt := 13) S dX12_best_52 (by decide) ?_
            exact ih391 t403 _ _ _ i383 v404 v421 X402 q405 F407 (R_of r399 rfl) (R_of r419 rfl) (R_of r426 rfl) ((q406 131 0 (by decide)).trans z389) (lv_sub hl [4, 1, 2, 0] rfl) (by omega)
          ·
            refine r_goto (tgt := 49) S dX12_best_41 (by decide) ?_
            refine r_iinc (k := 4) S dX12_best_49 hl rfl (by decide) (by decide) (fun v427 d428 ls z429 z430 hl => ?_)
            obtain ⟨e431, r432⟩ := i_add (lo := 1) (hi := 9) z429 r399 (R_eq z430) rfl
            have hl : lv_has ls 5 [(3, .int v427), (4, .int v404), (0, .ref (G.2.2.2.1 131)), (1, .int i379), (2, .int i381)] := hl
            refine r_goto (tgt := 13) S dX12_best_52 (by decide) ?_
            exact ih391 t403 _ _ _ i379 i381 v427 X402 q405 F407 r380 r382 (R_of r432 rfl) ((q406 131 0 (by decide)).trans z389) (lv_sub hl [2, 3, 4, 0] rfl) (by omega)
  exact L390 _ t4 _ _ _ v9 v12 v16 X6 I7 F8 (R_of r11 rfl) (R_of r14 rfl) (R_of r18 rfl) M5.1 (lv_sub hl [3, 2, 1, 0] rfl) (Nat.lt_succ_self _)
