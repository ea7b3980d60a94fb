def po_X7_step_q (τ : Tau)    (bb : Nat → Int) (nb lm pp : Nat) (u : Tau) : Prop := Inv u ∧ Fr [(1, 3), (1, 4), (1, 5), (1, 7), (1, 8)] [201] τ u ∧ RT bb nb lm u (lex bb nb lm pp)
set_option maxHeartbeats 4000000 in
set_option maxRecDepth 100000 in
theorem c_X7_step_q (l : Launch) (G : Gx) (τ : Tau) (hI : Inv τ) (bb : Nat → Int) (nb lm pp : Nat) (hB : RB bb nb lm τ) (hpp : (τ 1 4).toInt = pp) (hpn : pp ≤ nb) : Cv l G yX7_step cX7_step 5 0 0 [.ref (G.2.2.2.1 1)] τ (po_X7_step_q τ    bb nb lm pp) := by
  unfold Cv
  refine C_of (own := RX7) (by decide) rfl (Nat.le_of_ble_eq_true rfl) ?_
  intro p e s m below meth c ls S hr hlk X hl
  have hl : lv_has ls 5 [(0, .ref (G.2.2.2.1 1))] := hl
  have hB1 := hB.1
  have hB2 := hB.2.1
  have hB3 := hB.2.2.1
  refine r_aload_n S dX7_step_0 rfl (lv_at hl 0 rfl) ?_
  refine r_getn (K := 1) S X (Nat.le_of_ble_eq_true rfl) rfl lk7_15_7 (fun _ => ⟨_, rfl, rfl⟩) dX7_step_1 (fun v1 z2 => ?_)
  have r3 : R (0) (940) v1 := rd hI rfl z2
  refine r_aload_n S dX7_step_4 rfl (lv_at hl 0 rfl) ?_
  refine r_getn (K := 1) S X (Nat.le_of_ble_eq_true rfl) rfl lk7_19_7 (fun _ => ⟨_, rfl, rfl⟩) dX7_step_5 (fun v4 z5 => ?_)
  have r6 : R (0) (900) v4 := rd hI rfl z5
  refine r_icmp_ge (tgt := 18) S dX7_step_8 (by decide) (fun c7 => ?_) (fun c7 => ?_)
  ·
    refine r_aload_n S dX7_step_18 rfl (lv_at hl 0 rfl) ?_
    refine r_geti (K := 1) S X (Nat.le_of_ble_eq_true rfl) rfl lk7_19_7 (fun _ => ⟨_, rfl, rfl⟩) z5 dX7_step_19 ?_
    refine r_istore_n (lv' := [(1, .int v4), (0, .ref (G.2.2.2.1 1))]) S dX7_step_22 rfl hl (by decide) rfl (fun ls hl => ?_)
    have e8 := congrArg Int32.toInt z2
    have e9 := congrArg Int32.toInt z5
    refine r_aload_n S dX7_step_23 rfl (lv_at hl 1 rfl) ?_
    refine r_aload_n S dX7_step_24 rfl (lv_at hl 1 rfl) ?_
    refine r_getn (K := 1) S X (Nat.le_of_ble_eq_true rfl) rfl lk7_22_7 (fun _ => ⟨_, rfl, rfl⟩) dX7_step_25 (fun v10 z11 => ?_)
    have r12 : R (0) (940) v10 := rd hI rfl z11
    have e13 := congrArg Int32.toInt z11
    refine r_put (K := 1) (ty := .int) S X (Nat.le_of_ble_eq_true rfl) rfl lk7_28_7 (fun _ => ⟨_, rfl, Nat.le_of_ble_eq_true rfl, rfl⟩) (fun _ _ _ h => by cases h; exact ⟨rfl, rfl⟩) rfl rfl dX7_step_28 (fun t14 H lc M15 X16 => ?_)
    have I17 := Inv_mu hI M15 (show Rg (kd 1) 3 v10 from (R_of (lo := 0) (hi := 940) r12 rfl))
    have F18 : Fr [(1, 3), (1, 4), (1, 5), (1, 7), (1, 8)] [201] τ t14 := Fr_mu Fr_rfl M15 (by decide)
    have L183 : ∀ (n : Nat) (t173 : Tau) (H : Heap) (lc : List Loc) (ls : Array Slot) (f180 : Int32), Xd G s H lc t173 → Inv t173 → Fr [(1, 3), (1, 4), (1, 5), (1, 7), (1, 8)] [201] τ t173 → t173 1 1 = v1 → t173 1 2 = v4 → t173 1 4 = v10 → t173 1 3 = f180 → R (0) (940) f180 → (∀ k, pp ≤ k → k < (f180).toInt.toNat → spc (bb k)) → (pp : Int) ≤ (f180).toInt ∧ (f180).toInt ≤ nb → lv_has ls 5 [(0, .ref (G.2.2.2.1 1)), (1, .int v4)] → (940 - f180.toInt).toNat < n → W p l e (Rm 0 0) s m ([.ref (G.2.2.2.1 1)] : List Value).toArray below meth c H lc 0 0 (MQ below (va_Qv (po_X7_step_q τ    bb nb lm pp) (Bs G) G.2.2.2.2) ([.ref (G.2.2.2.1 1)] : List Value).toArray s 0 0 G.2.2.2.2) (F0 m 31 ls []) := by
      intro n
      induction n with
      | zero => intros; omega
      | succ n ih186 =>
        intro t173 H lc ls f180 X176 I174 F175 z177 z178 z179 z182 r181 x184 x185 hl hm
        refine r_aload_n S dX7_step_31 rfl (lv_at hl 0 rfl) ?_
        refine r_geti (K := 1) S X176 (Nat.le_of_ble_eq_true rfl) rfl lk7_28_7 (fun _ => ⟨_, rfl, rfl⟩) z182 dX7_step_32 ?_
        refine r_iload_n S dX7_step_35 rfl (lv_at hl 1 rfl) ?_
        refine r_icmp_ge (tgt := 80) S dX7_step_36 (by decide) (fun c187 => ?_) (fun c187 => ?_)
        ·
          refine r_aload_n S dX7_step_80 rfl (lv_at hl 0 rfl) ?_
          refine r_geti (K := 1) S X176 (Nat.le_of_ble_eq_true rfl) rfl lk7_28_7 (fun _ => ⟨_, rfl, rfl⟩) z182 dX7_step_81 ?_
          refine r_iload_n S dX7_step_84 rfl (lv_at hl 1 rfl) ?_
          refine r_icmp_lt (tgt := 114) S dX7_step_85 (by decide) (fun c188 => ?_) (fun c188 => ?_)
          ·
            exfalso; omega
          ·
            refine r_aload_n S dX7_step_88 rfl (lv_at hl 0 rfl) ?_
            refine r_iload_n S dX7_step_89 rfl (lv_at hl 1 rfl) ?_
            refine r_put (K := 1) (ty := .int) S X176 (Nat.le_of_ble_eq_true rfl) rfl lk7_28_7 (fun _ => ⟨_, rfl, Nat.le_of_ble_eq_true rfl, rfl⟩) (fun _ _ _ h => by cases h; exact ⟨rfl, rfl⟩) rfl rfl dX7_step_90 (fun t191 H lc M192 X193 => ?_)
            have I194 := Inv_mu I174 M192 (show Rg (kd 1) 3 v4 from (R_of (lo := 0) (hi := 940) r6 rfl))
            have F195 : Fr [(1, 3), (1, 4), (1, 5), (1, 7), (1, 8)] [201] τ t191 := Fr_mu F175 M192 (by decide)
            refine r_aload_n S dX7_step_93 rfl (lv_at hl 0 rfl) ?_
            refine r_aload_n S dX7_step_94 rfl (lv_at hl 0 rfl) ?_
            refine r_geti (K := 1) S X193 (Nat.le_of_ble_eq_true rfl) rfl lk7_15_7 (fun _ => ⟨_, rfl, rfl⟩) ((M192.2 1 1 (Or.inr (by decide))).trans z177) dX7_step_95 ?_
            refine r_aload_n S dX7_step_98 rfl (lv_at hl 0 rfl) ?_
            refine r_geti (K := 1) S X193 (Nat.le_of_ble_eq_true rfl) rfl lk7_19_7 (fun _ => ⟨_, rfl, rfl⟩) ((M192.2 1 2 (Or.inr (by decide))).trans z178) dX7_step_99 ?_
            refine r_icmp_le (tgt := 109) S dX7_step_102 (by decide) (fun c196 => ?_) (fun c196 => ?_)
            ·
              have r197 : R (0) (900) v1 := ⟨by omega, by omega⟩
              refine r_iconst S dX7_step_109 (by decide) (fun v198 z199 => ?_)
              have r200 := R_eq z199
              refine r_put (K := 1) (ty := .int) S X193 (Nat.le_of_ble_eq_true rfl) rfl lk7_31_7 (fun _ => ⟨_, rfl, Nat.le_of_ble_eq_true rfl, rfl⟩) (fun _ _ _ h => by cases h; exact ⟨rfl, rfl⟩) rfl rfl dX7_step_110 (fun t201 H lc M202 X203 => ?_)
              have I204 := Inv_mu I194 M202 (show Rg (kd 1) 5 v198 from (R_of (lo := 0) (hi := 4) r200 rfl))
              have F205 : Fr [(1, 3), (1, 4), (1, 5), (1, 7), (1, 8)] [201] τ t201 := Fr_mu F195 M202 (by decide)
              exact r_vret S hr hlk X203 ⟨I204, F205, (RT_stop (RB_eq hB (F205 1 1 (by simp [fz])) (F205 1 2 (by simp [fz])) (fun j => F205 2 j (by simp [fz]))) (by omega) (by omega) (fun k h1 h2 => x184 k h1 (by omega)) (by have q := congrArg Int32.toInt ((M202.2 1 3 (Or.inr (by decide))).trans M192.1); omega) (by have q := congrArg Int32.toInt M202.1; omega))⟩ dX7_step_113
            ·
              have r206 : R (1) (940) v1 := ⟨by omega, by omega⟩
              refine r_iconst S dX7_step_105 (by decide) (fun v207 z208 => ?_)
              have r209 := R_eq z208
              refine r_goto (tgt := 110) S dX7_step_106 (by decide) ?_
              refine r_put (K := 1) (ty := .int) S X193 (Nat.le_of_ble_eq_true rfl) rfl lk7_31_7 (fun _ => ⟨_, rfl, Nat.le_of_ble_eq_true rfl, rfl⟩) (fun _ _ _ h => by cases h; exact ⟨rfl, rfl⟩) rfl rfl dX7_step_110 (fun t210 H lc M211 X212 => ?_)
              have I213 := Inv_mu I194 M211 (show Rg (kd 1) 5 v207 from (R_of (lo := 0) (hi := 4) r209 rfl))
              have F214 : Fr [(1, 3), (1, 4), (1, 5), (1, 7), (1, 8)] [201] τ t210 := Fr_mu F195 M211 (by decide)
              exact r_vret S hr hlk X212 ⟨I213, F214, (RT_over (st := v4) (RB_eq hB (F214 1 1 (by simp [fz])) (F214 1 2 (by simp [fz])) (fun j => F214 2 j (by simp [fz]))) (by omega) (by omega) (fun k h1 h2 => x184 k h1 (by omega)) (by omega) (by have q := congrArg Int32.toInt ((M211.2 1 3 (Or.inr (by decide))).trans M192.1); omega) (by have q := congrArg Int32.toInt M211.1; omega))⟩ dX7_step_113
        ·
          have r215 : R (0) (899) f180 := ⟨by omega, by omega⟩
          have r216 : R (1) (900) v4 := ⟨by omega, by omega⟩
          refine r_aload_n S dX7_step_39 rfl (lv_at hl 0 rfl) ?_
          refine r_get (K := 1) (v := .ref (G.2.2.2.1 2)) S X176 (Nat.le_of_ble_eq_true rfl) rfl lk7_9_7 (fun _ => ⟨_, rfl, rfl⟩) dX7_step_40 ?_
          refine r_aload_n S dX7_step_43 rfl (lv_at hl 0 rfl) ?_
          refine r_geti (K := 1) S X176 (Nat.le_of_ble_eq_true rfl) rfl lk7_28_7 (fun _ => ⟨_, rfl, rfl⟩) z182 dX7_step_44 ?_
          refine r_aldn (n := 940) (K := 2) S X176 (Nat.le_of_ble_eq_true rfl) rfl (fun _ => rfl) (ix_of r215 rfl) dX7_step_47 (fun v217 z218 => ?_)
          have r219 : R (0) (255) v217 := rd I174 rfl z218
          have hb220 : bb f180.toInt.toNat = v217.toInt := RB_at hB (fun j => F175 2 j (by simp [fz])) z218 ⟨by omega, by omega⟩
          refine r_bipush S dX7_step_48 (by decide) (fun v221 z222 => ?_)
          have r223 := R_eq z222
          refine r_icmp_eq (tgt := 67) S dX7_step_50 (by decide) (fun c224 => ?_) (fun c224 => ?_)
          ·
            have r225 : R (32) (32) v217 := ⟨by omega, by omega⟩
            refine r_aload_n S dX7_step_67 rfl (lv_at hl 0 rfl) ?_
            refine r_dup S dX7_step_68 rfl ?_
            refine r_geti (K := 1) S X176 (Nat.le_of_ble_eq_true rfl) rfl lk7_28_7 (fun _ => ⟨_, rfl, rfl⟩) z182 dX7_step_69 ?_
            refine r_iconst S dX7_step_72 (by decide) (fun v226 z227 => ?_)
            have r228 := R_eq z227
            refine r_iadd S dX7_step_73 (fun v229 z230 => ?_)
            obtain ⟨e231, r232⟩ := i_add (lo := 1) (hi := 900) z230 r215 r228 rfl
            refine r_put (K := 1) (ty := .int) S X176 (Nat.le_of_ble_eq_true rfl) rfl lk7_28_7 (fun _ => ⟨_, rfl, Nat.le_of_ble_eq_true rfl, rfl⟩) (fun _ _ _ h => by cases h; exact ⟨rfl, rfl⟩) rfl rfl dX7_step_74 (fun t233 H lc M234 X235 => ?_)
            have I236 := Inv_mu I174 M234 (show Rg (kd 1) 3 v229 from (R_of (lo := 0) (hi := 940) r232 rfl))
            have F237 : Fr [(1, 3), (1, 4), (1, 5), (1, 7), (1, 8)] [201] τ t233 := Fr_mu F175 M234 (by decide)
            refine r_goto (tgt := 31) S dX7_step_77 (by decide) ?_
            exact ih186 t233 _ _ _ v229 X235 I236 F237 ((M234.2 1 1 (Or.inr (by decide))).trans z177) ((M234.2 1 2 (Or.inr (by decide))).trans z178) ((M234.2 1 4 (Or.inr (by decide))).trans z179) M234.1 ⟨by omega, by omega⟩ (spc_up (i := f180) x184 hb220 (by omega) (by omega) (by omega)) ⟨by omega, by omega⟩ (lv_sub hl [0, 1] rfl) (by omega)
          ·
            refine r_aload_n S dX7_step_53 rfl (lv_at hl 0 rfl) ?_
            refine r_get (K := 1) (v := .ref (G.2.2.2.1 2)) S X176 (Nat.le_of_ble_eq_true rfl) rfl lk7_9_7 (fun _ => ⟨_, rfl, rfl⟩) dX7_step_54 ?_
            refine r_aload_n S dX7_step_57 rfl (lv_at hl 0 rfl) ?_
            refine r_geti (K := 1) S X176 (Nat.le_of_ble_eq_true rfl) rfl lk7_28_7 (fun _ => ⟨_, rfl, rfl⟩) z182 dX7_step_58 ?_
            refine r_aldn (n := 940) (K := 2) S X176 (Nat.le_of_ble_eq_true rfl) rfl (fun _ => rfl) (ix_of r215 rfl) dX7_step_61 (fun v238 z239 => ?_)
            have r240 : R (0) (255) v238 := rd I174 rfl z239
            have hb241 : bb f180.toInt.toNat = v238.toInt := RB_at hB (fun j => F175 2 j (by simp [fz])) z239 ⟨by omega, by omega⟩
            refine r_bipush S dX7_step_62 (by decide) (fun v242 z243 => ?_)
            have r244 := R_eq z243
            refine r_icmp_ne (tgt := 80) S dX7_step_64 (by decide) (fun c245 => ?_) (fun c245 => ?_)
            ·
              refine r_aload_n S dX7_step_80 rfl (lv_at hl 0 rfl) ?_
              refine r_geti (K := 1) S X176 (Nat.le_of_ble_eq_true rfl) rfl lk7_28_7 (fun _ => ⟨_, rfl, rfl⟩) z182 dX7_step_81 ?_
              refine r_iload_n S dX7_step_84 rfl (lv_at hl 1 rfl) ?_
              refine r_icmp_lt (tgt := 114) S dX7_step_85 (by decide) (fun c246 => ?_) (fun c246 => ?_)
              ·
                refine r_iconst S dX7_step_114 (by decide) (fun v247 z248 => ?_)
                have r249 := R_eq z248
                refine r_istore_n (lv' := [(2, .int v247), (0, .ref (G.2.2.2.1 1)), (1, .int v4)]) S dX7_step_115 rfl hl (by decide) rfl (fun ls hl => ?_)
                refine r_iconst S dX7_step_116 (by decide) (fun v250 z251 => ?_)
                have r252 := R_eq z251
                refine r_istore_n (lv' := [(3, .int v250), (2, .int v247), (0, .ref (G.2.2.2.1 1)), (1, .int v4)]) S dX7_step_117 rfl hl (by decide) rfl (fun ls hl => ?_)
                refine r_aload_n S dX7_step_118 rfl (lv_at hl 2 rfl) ?_
                refine lv_lconst S.1.1 S.1.2.1 dX7_step_119 rfl ?_
                refine lv_topl (fun j253 z254 => ?_)
                refine r_putJ (K := 1) S X176 (Nat.le_of_ble_eq_true rfl) rfl lk7_34_7 (fun _ => ⟨_, rfl, Nat.le_of_ble_eq_true rfl, rfl⟩) (fun _ _ _ h => by cases h; exact ⟨rfl, rfl⟩) dX7_step_120 (fun t256 H lc M257 X255 => ?_)
                have I258 := Inv_ml I174 M257
                have F259 : Fr [(1, 3), (1, 4), (1, 5), (1, 7), (1, 8)] [201] τ t256 := Fr_ml F175 M257 (by decide)
                refine r_aload_n S dX7_step_123 rfl (lv_at hl 2 rfl) ?_
                refine r_iconst S dX7_step_124 (by decide) (fun v260 z261 => ?_)
                have r262 := R_eq z261
                refine r_put (K := 1) (ty := .int) S X255 (Nat.le_of_ble_eq_true rfl) rfl lk7_38_7 (fun _ => ⟨_, rfl, Nat.le_of_ble_eq_true rfl, rfl⟩) (fun _ _ _ h => by cases h; exact ⟨rfl, rfl⟩) rfl rfl dX7_step_125 (fun t263 H lc M264 X265 => ?_)
                have I266 := Inv_mu I258 M264 (R_any v260)
                have F267 : Fr [(1, 3), (1, 4), (1, 5), (1, 7), (1, 8)] [201] τ t263 := Fr_mu F259 M264 (by decide)
                refine r_aload_n S dX7_step_128 rfl (lv_at hl 2 rfl) ?_
                refine r_aload_n S dX7_step_129 rfl (lv_at hl 2 rfl) ?_
                refine r_geti (K := 1) S X265 (Nat.le_of_ble_eq_true rfl) rfl lk7_28_7 (fun _ => ⟨_, rfl, rfl⟩) ((M264.2 1 3 (Or.inr (by decide))).trans ((M257.1 1 (by decide) 3).trans z182)) dX7_step_130 ?_
                refine r_put (K := 1) (ty := .int) S X265 (Nat.le_of_ble_eq_true rfl) rfl lk7_22_7 (fun _ => ⟨_, rfl, Nat.le_of_ble_eq_true rfl, rfl⟩) (fun _ _ _ h => by cases h; exact ⟨rfl, rfl⟩) rfl rfl dX7_step_133 (fun t268 H lc M269 X270 => ?_)
                have I271 := Inv_mu I266 M269 (show Rg (kd 1) 4 f180 from (R_of (lo := 0) (hi := 940) r215 rfl))
                have F272 : Fr [(1, 3), (1, 4), (1, 5), (1, 7), (1, 8)] [201] τ t268 := Fr_mu F267 M269 (by decide)
                have L5176 : ∀ (n : Nat) (t5163 : Tau) (H : Heap) (lc : List Loc) (ls : Array Slot) (i5159 : Int32) (i5161 : Int32) (f5170 : Int32) (f5173 : Int32), Xd G s H lc t5163 → Inv t5163 → Fr [(1, 3), (1, 4), (1, 5), (1, 7), (1, 8)] [201] τ t5163 → R (0) (1022) i5159 → R (0) (1022) i5161 → t5163 1 1 = v1 → t5163 1 2 = v4 → t5163 1 3 = f180 → t5163 1 7 = f5170 → R (-2147483648) (2147483647) f5170 → t5163 1 4 = f5173 → R (0) (940) f5173 → LX bb (f180).toInt.toNat (f5173).toInt.toNat (i5159).toInt (i5161).toInt (qof t5163 1 6).toInt (f5170).toInt → (f5173).toInt ≤ nb → lv_has ls 5 [(0, .ref (G.2.2.2.1 1)), (2, .int i5159), (3, .int i5161)] → (940 - f5173.toInt).toNat < n → W p l e (Rm 0 0) s m ([.ref (G.2.2.2.1 1)] : List Value).toArray below meth c H lc 0 0 (MQ below (va_Qv (po_X7_step_q τ    bb nb lm pp) (Bs G) G.2.2.2.2) ([.ref (G.2.2.2.1 1)] : List Value).toArray s 0 0 G.2.2.2.2) (F0 m 136 ls []) := by
                  intro n
                  induction n with
                  | zero => intros; omega
                  | succ n ih5179 =>
                    intro t5163 H lc ls i5159 i5161 f5170 f5173 X5166 I5164 F5165 r5160 r5162 z5167 z5168 z5169 z5172 r5171 z5175 r5174 x5177 x5178 hl hm
                    obtain ⟨e5180, e5181, e5182, e5183⟩ := LX_b x5177
                    have r5184 : R (0) (940) i5159 := ⟨by omega, by omega⟩
                    have r5185 : R (0) (940) i5161 := ⟨by omega, by omega⟩
                    refine r_aload_n S dX7_step_136 rfl (lv_at hl 0 rfl) ?_
                    refine r_geti (K := 1) S X5166 (Nat.le_of_ble_eq_true rfl) rfl lk7_22_7 (fun _ => ⟨_, rfl, rfl⟩) z5175 dX7_step_137 ?_
                    refine r_aload_n S dX7_step_140 rfl (lv_at hl 0 rfl) ?_
                    refine r_geti (K := 1) S X5166 (Nat.le_of_ble_eq_true rfl) rfl lk7_15_7 (fun _ => ⟨_, rfl, rfl⟩) z5167 dX7_step_141 ?_
                    refine r_icmp_ge (tgt := 246) S dX7_step_144 (by decide) (fun c5186 => ?_) (fun c5186 => ?_)
                    ·
                      refine r_aload_n S dX7_step_246 rfl (lv_at hl 0 rfl) ?_
                      refine r_iconst S dX7_step_247 (by decide) (fun v5187 z5188 => ?_)
                      have r5189 := R_eq z5188
                      refine r_put (K := 1) (ty := .int) S X5166 (Nat.le_of_ble_eq_true rfl) rfl lk7_31_7 (fun _ => ⟨_, rfl, Nat.le_of_ble_eq_true rfl, rfl⟩) (fun _ _ _ h => by cases h; exact ⟨rfl, rfl⟩) rfl rfl dX7_step_248 (fun t5190 H lc M5191 X5192 => ?_)
                      have I5193 := Inv_mu I5164 M5191 (show Rg (kd 1) 5 v5187 from (R_of (lo := 0) (hi := 4) r5189 rfl))
                      have F5194 : Fr [(1, 3), (1, 4), (1, 5), (1, 7), (1, 8)] [201] τ t5190 := Fr_mu F5165 M5191 (by decide)
                      refine r_iload_n S dX7_step_251 rfl (lv_at hl 1 rfl) ?_
                      refine r_if_ne (tgt := 360) S dX7_step_252 (by decide) (fun c5195 => ?_) (fun c5195 => ?_)
                      ·
                        have r5196 : R (1) (940) i5159 := ⟨by omega, by omega⟩
                        refine r_iload_n S dX7_step_360 rfl (lv_at hl 2 rfl) ?_
                        refine r_if_ne (tgt := 378) S dX7_step_361 (by decide) (fun c5197 => ?_) (fun c5197 => ?_)
                        ·
                          have r5198 : R (1) (940) i5161 := ⟨by omega, by omega⟩
                          refine r_iload_n S dX7_step_378 rfl (lv_at hl 1 rfl) ?_
                          refine r_if_ne (tgt := 392) S dX7_step_379 (by decide) (fun c5199 => ?_) (fun c5199 => ?_)
                          ·
                            exact r_vret S hr hlk X5192 ⟨I5193, F5194, (RT_odd (A := f180.toInt.toNat) (i := f5173.toInt.toNat) (le := i5159.toInt) (di := i5161.toInt) x5177 (RB_eq hB (F5194 1 1 (by simp [fz])) (F5194 1 2 (by simp [fz])) (fun j => F5194 2 j (by simp [fz]))) ⟨by omega, by omega, x184, fun _ => by omega⟩ (by omega) (by omega) (fun h => by omega) (by omega) (by omega) (by omega) (by have q := congrArg Int32.toInt ((M5191.2 1 3 (Or.inr (by decide))).trans z5169); omega) (by have q := congrArg Int32.toInt M5191.1; omega))⟩ dX7_step_392
                          ·
                            exfalso; omega
                        ·
                          have r5200 : R (0) (0) i5161 := ⟨by omega, by omega⟩
                          refine r_iload_n S dX7_step_364 rfl (lv_at hl 1 rfl) ?_
                          refine r_bipush S dX7_step_365 (by decide) (fun v5201 z5202 => ?_)
                          have r5203 := R_eq z5202
                          refine r_icmp_gt (tgt := 378) S dX7_step_367 (by decide) (fun c5204 => ?_) (fun c5204 => ?_)
                          ·
                            have r5205 : R (8) (940) i5159 := ⟨by omega, by omega⟩
                            refine r_iload_n S dX7_step_378 rfl (lv_at hl 1 rfl) ?_
                            refine r_if_ne (tgt := 392) S dX7_step_379 (by decide) (fun c5206 => ?_) (fun c5206 => ?_)
                            ·
                              exact r_vret S hr hlk X5192 ⟨I5193, F5194, (RT_odd (A := f180.toInt.toNat) (i := f5173.toInt.toNat) (le := i5159.toInt) (di := i5161.toInt) x5177 (RB_eq hB (F5194 1 1 (by simp [fz])) (F5194 1 2 (by simp [fz])) (fun j => F5194 2 j (by simp [fz]))) ⟨by omega, by omega, x184, fun _ => by omega⟩ (by omega) (by omega) (fun h => by omega) (by omega) (by omega) (by omega) (by have q := congrArg Int32.toInt ((M5191.2 1 3 (Or.inr (by decide))).trans z5169); omega) (by have q := congrArg Int32.toInt M5191.1; omega))⟩ dX7_step_392
                            ·
                              exfalso; omega
                          ·
                            have r5207 : R (1) (7) i5159 := ⟨by omega, by omega⟩
                            refine r_aload_n S dX7_step_370 rfl (lv_at hl 0 rfl) ?_
                            refine r_iconst S dX7_step_371 (by decide) (fun v5208 z5209 => ?_)
                            have r5210 := R_eq z5209
                            refine r_put (K := 1) (ty := .int) S X5192 (Nat.le_of_ble_eq_true rfl) rfl lk7_31_7 (fun _ => ⟨_, rfl, Nat.le_of_ble_eq_true rfl, rfl⟩) (fun _ _ _ h => by cases h; exact ⟨rfl, rfl⟩) rfl rfl dX7_step_372 (fun t5211 H lc M5212 X5213 => ?_)
                            have I5214 := Inv_mu I5193 M5212 (show Rg (kd 1) 5 v5208 from (R_of (lo := 0) (hi := 4) r5210 rfl))
                            have F5215 : Fr [(1, 3), (1, 4), (1, 5), (1, 7), (1, 8)] [201] τ t5211 := Fr_mu F5194 M5212 (by decide)
                            refine r_goto (tgt := 392) S dX7_step_375 (by decide) ?_
                            exact r_vret S hr hlk X5213 ⟨I5214, F5215, (RT_word (A := f180.toInt.toNat) (i := f5173.toInt.toNat) (le := i5159.toInt) (di := i5161.toInt) (nu := f5170.toInt) (by rw [(qof_of (k := 1) (fun j => ((M5212.2 201 j (Or.inl (by decide))).trans ((M5191.2 201 j (Or.inl (by decide))).trans rfl))) 6)]; exact x5177) (RB_eq hB (F5215 1 1 (by simp [fz])) (F5215 1 2 (by simp [fz])) (fun j => F5215 2 j (by simp [fz]))) ⟨by omega, by omega, x184, fun _ => by omega⟩ (by omega) (by omega) (fun h => by omega) (by omega) (by omega) (by have q := congrArg Int32.toInt ((M5212.2 1 3 (Or.inr (by decide))).trans ((M5191.2 1 3 (Or.inr (by decide))).trans z5169)); omega) (by have q := congrArg Int32.toInt ((M5212.2 1 4 (Or.inr (by decide))).trans ((M5191.2 1 4 (Or.inr (by decide))).trans z5175)); omega) (by have q := congrArg Int32.toInt M5212.1; omega))⟩ dX7_step_392
                      ·
                        have r5216 : R (0) (0) i5159 := ⟨by omega, by omega⟩
                        refine r_iload_n S dX7_step_255 rfl (lv_at hl 2 rfl) ?_
                        refine r_if_ne (tgt := 360) S dX7_step_256 (by decide) (fun c5217 => ?_) (fun c5217 => ?_)
                        ·
                          have r5218 : R (1) (940) i5161 := ⟨by omega, by omega⟩
                          refine r_iload_n S dX7_step_360 rfl (lv_at hl 2 rfl) ?_
                          refine r_if_ne (tgt := 378) S dX7_step_361 (by decide) (fun c5219 => ?_) (fun c5219 => ?_)
                          ·
                            refine r_iload_n S dX7_step_378 rfl (lv_at hl 1 rfl) ?_
                            refine r_if_ne (tgt := 392) S dX7_step_379 (by decide) (fun c5220 => ?_) (fun c5220 => ?_)
                            ·
                              exfalso; omega
                            ·
                              refine r_iload_n S dX7_step_382 rfl (lv_at hl 2 rfl) ?_
                              refine r_iconst S dX7_step_383 (by decide) (fun v5221 z5222 => ?_)
                              have r5223 := R_eq z5222
                              refine r_icmp_gt (tgt := 392) S dX7_step_384 (by decide) (fun c5224 => ?_) (fun c5224 => ?_)
                              ·
                                have r5225 : R (3) (940) i5161 := ⟨by omega, by omega⟩
                                exact r_vret S hr hlk X5192 ⟨I5193, F5194, (RT_odd (A := f180.toInt.toNat) (i := f5173.toInt.toNat) (le := i5159.toInt) (di := i5161.toInt) x5177 (RB_eq hB (F5194 1 1 (by simp [fz])) (F5194 1 2 (by simp [fz])) (fun j => F5194 2 j (by simp [fz]))) ⟨by omega, by omega, x184, fun _ => by omega⟩ (by omega) (by omega) (fun h => by omega) (by omega) (by omega) (by omega) (by have q := congrArg Int32.toInt ((M5191.2 1 3 (Or.inr (by decide))).trans z5169); omega) (by have q := congrArg Int32.toInt M5191.1; omega))⟩ dX7_step_392
                              ·
                                have r5226 : R (1) (2) i5161 := ⟨by omega, by omega⟩
                                refine r_aload_n S dX7_step_387 rfl (lv_at hl 0 rfl) ?_
                                refine r_iconst S dX7_step_388 (by decide) (fun v5227 z5228 => ?_)
                                have r5229 := R_eq z5228
                                refine r_put (K := 1) (ty := .int) S X5192 (Nat.le_of_ble_eq_true rfl) rfl lk7_31_7 (fun _ => ⟨_, rfl, Nat.le_of_ble_eq_true rfl, rfl⟩) (fun _ _ _ h => by cases h; exact ⟨rfl, rfl⟩) rfl rfl dX7_step_389 (fun t5230 H lc M5231 X5232 => ?_)
                                have I5233 := Inv_mu I5193 M5231 (show Rg (kd 1) 5 v5227 from (R_of (lo := 0) (hi := 4) r5229 rfl))
                                have F5234 : Fr [(1, 3), (1, 4), (1, 5), (1, 7), (1, 8)] [201] τ t5230 := Fr_mu F5194 M5231 (by decide)
                                exact r_vret S hr hlk X5232 ⟨I5233, F5234, (RT_nbr (A := f180.toInt.toNat) (i := f5173.toInt.toNat) (le := i5159.toInt) (di := i5161.toInt) (sp := (qof t5163 1 6).toInt) (by rw [((M5231.2 1 7 (Or.inr (by decide))).trans ((M5191.2 1 7 (Or.inr (by decide))).trans z5172))]; exact x5177) (RB_eq hB (F5234 1 1 (by simp [fz])) (F5234 1 2 (by simp [fz])) (fun j => F5234 2 j (by simp [fz]))) ⟨by omega, by omega, x184, fun _ => by omega⟩ (by omega) (by omega) (fun h => by omega) (by omega) (by omega) (by have q := congrArg Int32.toInt ((M5231.2 1 3 (Or.inr (by decide))).trans ((M5191.2 1 3 (Or.inr (by decide))).trans z5169)); omega) (by have q := congrArg Int32.toInt ((M5231.2 1 4 (Or.inr (by decide))).trans ((M5191.2 1 4 (Or.inr (by decide))).trans z5175)); omega) (by have q := congrArg Int32.toInt M5231.1; omega))⟩ dX7_step_392
                          ·
                            exfalso; omega
                        ·
                          have r5235 : R (0) (0) i5161 := ⟨by omega, by omega⟩
                          refine r_aload_n S dX7_step_259 rfl (lv_at hl 0 rfl) ?_
                          refine r_aload_n S dX7_step_260 rfl (lv_at hl 0 rfl) ?_
                          refine r_get (K := 1) (v := .ref (G.2.2.2.1 2)) S X5192 (Nat.le_of_ble_eq_true rfl) rfl lk7_9_7 (fun _ => ⟨_, rfl, rfl⟩) dX7_step_261 ?_
                          refine r_aload_n S dX7_step_264 rfl (lv_at hl 0 rfl) ?_
                          refine r_geti (K := 1) S X5192 (Nat.le_of_ble_eq_true rfl) rfl lk7_28_7 (fun _ => ⟨_, rfl, rfl⟩) ((M5191.2 1 3 (Or.inr (by decide))).trans z5169) dX7_step_265 ?_
                          refine r_aldn (n := 940) (K := 2) S X5192 (Nat.le_of_ble_eq_true rfl) rfl (fun _ => rfl) (ix_of r215 rfl) dX7_step_268 (fun v5236 z5237 => ?_)
                          have r5238 : R (0) (255) v5236 := rd I5193 rfl z5237
                          have hb5239 : bb f180.toInt.toNat = v5236.toInt := RB_at hB (fun j => F5194 2 j (by simp [fz])) z5237 ⟨by omega, by omega⟩
                          refine r_put (K := 1) (ty := .int) S X5192 (Nat.le_of_ble_eq_true rfl) rfl lk7_43_7 (fun _ => ⟨_, rfl, Nat.le_of_ble_eq_true rfl, rfl⟩) (fun _ _ _ h => by cases h; exact ⟨rfl, rfl⟩) rfl rfl dX7_step_269 (fun t5240 H lc M5241 X5242 => ?_)
                          have I5243 := Inv_mu I5193 M5241 (R_any v5236)
                          have F5244 : Fr [(1, 3), (1, 4), (1, 5), (1, 7), (1, 8)] [201] τ t5240 := Fr_mu F5194 M5241 (by decide)
                          refine r_aload_n S dX7_step_272 rfl (lv_at hl 0 rfl) ?_
                          refine r_aload_n S dX7_step_273 rfl (lv_at hl 0 rfl) ?_
                          refine r_geti (K := 1) S X5242 (Nat.le_of_ble_eq_true rfl) rfl lk7_28_7 (fun _ => ⟨_, rfl, rfl⟩) ((M5241.2 1 3 (Or.inr (by decide))).trans ((M5191.2 1 3 (Or.inr (by decide))).trans z5169)) dX7_step_274 ?_
                          refine r_iconst S dX7_step_277 (by decide) (fun v5245 z5246 => ?_)
                          have r5247 := R_eq z5246
                          refine r_iadd S dX7_step_278 (fun v5248 z5249 => ?_)
                          obtain ⟨e5250, r5251⟩ := i_add (lo := 1) (hi := 900) z5249 r215 r5247 rfl
                          refine r_put (K := 1) (ty := .int) S X5242 (Nat.le_of_ble_eq_true rfl) rfl lk7_22_7 (fun _ => ⟨_, rfl, Nat.le_of_ble_eq_true rfl, rfl⟩) (fun _ _ _ h => by cases h; exact ⟨rfl, rfl⟩) rfl rfl dX7_step_279 (fun t5252 H lc M5253 X5254 => ?_)
                          have I5255 := Inv_mu I5243 M5253 (show Rg (kd 1) 4 v5248 from (R_of (lo := 0) (hi := 940) r5251 rfl))
                          have F5256 : Fr [(1, 3), (1, 4), (1, 5), (1, 7), (1, 8)] [201] τ t5252 := Fr_mu F5244 M5253 (by decide)
                          refine r_aload_n S dX7_step_282 rfl (lv_at hl 0 rfl) ?_
                          refine r_geti (K := 1) S X5254 (Nat.le_of_ble_eq_true rfl) rfl lk7_43_7 (fun _ => ⟨_, rfl, rfl⟩) ((M5253.2 1 8 (Or.inr (by decide))).trans M5241.1) dX7_step_283 ?_
                          refine r_bipush S dX7_step_286 (by decide) (fun v5257 z5258 => ?_)
                          have r5259 := R_eq z5258
                          refine r_icmp_eq (tgt := 309) S dX7_step_288 (by decide) (fun c5260 => ?_) (fun c5260 => ?_)
                          ·
                            have r5261 : R (60) (60) v5236 := ⟨by omega, by omega⟩
                            refine r_iconst S dX7_step_309 (by decide) (fun v5262 z5263 => ?_)
                            have r5264 := R_eq z5263
                            refine r_goto (tgt := 314) S dX7_step_310 (by decide) ?_
                            refine r_istore (lv' := [(4, .int v5262), (0, .ref (G.2.2.2.1 1)), (2, .int i5159), (3, .int i5161)]) S dX7_step_314 hl (by decide) rfl (fun ls hl => ?_)
                            refine r_aload_n S dX7_step_316 rfl (lv_at hl 1 rfl) ?_
                            refine r_iload S dX7_step_317 (lv_at hl 0 rfl) ?_
                            refine r_if_ne (tgt := 349) S dX7_step_319 (by decide) (fun c5265 => ?_) (fun c5265 => ?_)
                            ·
                              refine r_iconst S dX7_step_349 (by decide) (fun v5266 z5267 => ?_)
                              have r5268 := R_eq z5267
                              refine r_goto (tgt := 354) S dX7_step_350 (by decide) ?_
                              refine r_put (K := 1) (ty := .int) S X5254 (Nat.le_of_ble_eq_true rfl) rfl lk7_31_7 (fun _ => ⟨_, rfl, Nat.le_of_ble_eq_true rfl, rfl⟩) (fun _ _ _ h => by cases h; exact ⟨rfl, rfl⟩) rfl rfl dX7_step_354 (fun t5269 H lc M5270 X5271 => ?_)
                              have I5272 := Inv_mu I5255 M5270 (show Rg (kd 1) 5 v5266 from (R_of (lo := 0) (hi := 4) r5268 rfl))
                              have F5273 : Fr [(1, 3), (1, 4), (1, 5), (1, 7), (1, 8)] [201] τ t5269 := Fr_mu F5256 M5270 (by decide)
                              refine r_goto (tgt := 392) S dX7_step_357 (by decide) ?_
                              exact r_vret S hr hlk X5271 ⟨I5272, F5273, (RT_sign (A := f180.toInt.toNat) (RB_eq hB (F5273 1 1 (by simp [fz])) (F5273 1 2 (by simp [fz])) (fun j => F5273 2 j (by simp [fz]))) ⟨by omega, by omega, x184, fun _ => by omega⟩ (by omega) (by omega) (by exfalso; omega) (by omega) (by have q := congrArg Int32.toInt ((M5270.2 1 3 (Or.inr (by decide))).trans ((M5253.2 1 3 (Or.inr (by decide))).trans ((M5241.2 1 3 (Or.inr (by decide))).trans ((M5191.2 1 3 (Or.inr (by decide))).trans z5169)))); omega) (by have q := congrArg Int32.toInt ((M5270.2 1 4 (Or.inr (by decide))).trans M5253.1); omega) (by have q := congrArg Int32.toInt M5270.1; omega) (by have q := congrArg Int32.toInt ((M5270.2 1 8 (Or.inr (by decide))).trans ((M5253.2 1 8 (Or.inr (by decide))).trans M5241.1)); omega))⟩ dX7_step_392
                            ·
                              exfalso; omega
                          ·
                            refine r_aload_n S dX7_step_291 rfl (lv_at hl 0 rfl) ?_
                            refine r_geti (K := 1) S X5254 (Nat.le_of_ble_eq_true rfl) rfl lk7_43_7 (fun _ => ⟨_, rfl, rfl⟩) ((M5253.2 1 8 (Or.inr (by decide))).trans M5241.1) dX7_step_292 ?_
                            refine r_bipush S dX7_step_295 (by decide) (fun v5274 z5275 => ?_)
                            have r5276 := R_eq z5275
                            refine r_icmp_eq (tgt := 309) S dX7_step_297 (by decide) (fun c5277 => ?_) (fun c5277 => ?_)
                            ·
                              have r5278 : R (61) (61) v5236 := ⟨by omega, by omega⟩
                              refine r_iconst S dX7_step_309 (by decide) (fun v5279 z5280 => ?_)
                              have r5281 := R_eq z5280
                              refine r_goto (tgt := 314) S dX7_step_310 (by decide) ?_
                              refine r_istore (lv' := [(4, .int v5279), (0, .ref (G.2.2.2.1 1)), (2, .int i5159), (3, .int i5161)]) S dX7_step_314 hl (by decide) rfl (fun ls hl => ?_)
                              refine r_aload_n S dX7_step_316 rfl (lv_at hl 1 rfl) ?_
                              refine r_iload S dX7_step_317 (lv_at hl 0 rfl) ?_
                              refine r_if_ne (tgt := 349) S dX7_step_319 (by decide) (fun c5282 => ?_) (fun c5282 => ?_)
                              ·
                                refine r_iconst S dX7_step_349 (by decide) (fun v5283 z5284 => ?_)
                                have r5285 := R_eq z5284
                                refine r_goto (tgt := 354) S dX7_step_350 (by decide) ?_
                                refine r_put (K := 1) (ty := .int) S X5254 (Nat.le_of_ble_eq_true rfl) rfl lk7_31_7 (fun _ => ⟨_, rfl, Nat.le_of_ble_eq_true rfl, rfl⟩) (fun _ _ _ h => by cases h; exact ⟨rfl, rfl⟩) rfl rfl dX7_step_354 (fun t5286 H lc M5287 X5288 => ?_)
                                have I5289 := Inv_mu I5255 M5287 (show Rg (kd 1) 5 v5283 from (R_of (lo := 0) (hi := 4) r5285 rfl))
                                have F5290 : Fr [(1, 3), (1, 4), (1, 5), (1, 7), (1, 8)] [201] τ t5286 := Fr_mu F5256 M5287 (by decide)
                                refine r_goto (tgt := 392) S dX7_step_357 (by decide) ?_
                                exact r_vret S hr hlk X5288 ⟨I5289, F5290, (RT_sign (A := f180.toInt.toNat) (RB_eq hB (F5290 1 1 (by simp [fz])) (F5290 1 2 (by simp [fz])) (fun j => F5290 2 j (by simp [fz]))) ⟨by omega, by omega, x184, fun _ => by omega⟩ (by omega) (by omega) (by exfalso; omega) (by omega) (by have q := congrArg Int32.toInt ((M5287.2 1 3 (Or.inr (by decide))).trans ((M5253.2 1 3 (Or.inr (by decide))).trans ((M5241.2 1 3 (Or.inr (by decide))).trans ((M5191.2 1 3 (Or.inr (by decide))).trans z5169)))); omega) (by have q := congrArg Int32.toInt ((M5287.2 1 4 (Or.inr (by decide))).trans M5253.1); omega) (by have q := congrArg Int32.toInt M5287.1; omega) (by have q := congrArg Int32.toInt ((M5287.2 1 8 (Or.inr (by decide))).trans ((M5253.2 1 8 (Or.inr (by decide))).trans M5241.1)); omega))⟩ dX7_step_392
                              ·
                                exfalso; omega
                            ·
                              refine r_aload_n S dX7_step_300 rfl (lv_at hl 0 rfl) ?_
                              refine r_geti (K := 1) S X5254 (Nat.le_of_ble_eq_true rfl) rfl lk7_43_7 (fun _ => ⟨_, rfl, rfl⟩) ((M5253.2 1 8 (Or.inr (by decide))).trans M5241.1) dX7_step_301 ?_
                              refine r_bipush S dX7_step_304 (by decide) (fun v5291 z5292 => ?_)
                              have r5293 := R_eq z5292
                              refine r_icmp_ne (tgt := 313) S dX7_step_306 (by decide) (fun c5294 => ?_) (fun c5294 => ?_)
                              ·
                                refine r_iconst S dX7_step_313 (by decide) (fun v5295 z5296 => ?_)
                                have r5297 := R_eq z5296
                                refine r_istore (lv' := [(4, .int v5295), (0, .ref (G.2.2.2.1 1)), (2, .int i5159), (3, .int i5161)]) S dX7_step_314 hl (by decide) rfl (fun ls hl => ?_)
                                refine r_aload_n S dX7_step_316 rfl (lv_at hl 1 rfl) ?_
                                refine r_iload S dX7_step_317 (lv_at hl 0 rfl) ?_
                                refine r_if_ne (tgt := 349) S dX7_step_319 (by decide) (fun c5298 => ?_) (fun c5298 => ?_)
                                ·
                                  exfalso; omega
                                ·
                                  refine r_aload_n S dX7_step_322 rfl (lv_at hl 1 rfl) ?_
                                  refine r_geti (K := 1) S X5254 (Nat.le_of_ble_eq_true rfl) rfl lk7_43_7 (fun _ => ⟨_, rfl, rfl⟩) ((M5253.2 1 8 (Or.inr (by decide))).trans M5241.1) dX7_step_323 ?_
                                  refine r_bipush S dX7_step_326 (by decide) (fun v5299 z5300 => ?_)
                                  have r5301 := R_eq z5300
                                  refine r_icmp_eq (tgt := 349) S dX7_step_328 (by decide) (fun c5302 => ?_) (fun c5302 => ?_)
                                  ·
                                    have r5303 : R (59) (59) v5236 := ⟨by omega, by omega⟩
                                    refine r_iconst S dX7_step_349 (by decide) (fun v5304 z5305 => ?_)
                                    have r5306 := R_eq z5305
                                    refine r_goto (tgt := 354) S dX7_step_350 (by decide) ?_
                                    refine r_put (K := 1) (ty := .int) S X5254 (Nat.le_of_ble_eq_true rfl) rfl lk7_31_7 (fun _ => ⟨_, rfl, Nat.le_of_ble_eq_true rfl, rfl⟩) (fun _ _ _ h => by cases h; exact ⟨rfl, rfl⟩) rfl rfl dX7_step_354 (fun t5307 H lc M5308 X5309 => ?_)
                                    have I5310 := Inv_mu I5255 M5308 (show Rg (kd 1) 5 v5304 from (R_of (lo := 0) (hi := 4) r5306 rfl))
                                    have F5311 : Fr [(1, 3), (1, 4), (1, 5), (1, 7), (1, 8)] [201] τ t5307 := Fr_mu F5256 M5308 (by decide)
                                    refine r_goto (tgt := 392) S dX7_step_357 (by decide) ?_
                                    exact r_vret S hr hlk X5309 ⟨I5310, F5311, (RT_sign (A := f180.toInt.toNat) (RB_eq hB (F5311 1 1 (by simp [fz])) (F5311 1 2 (by simp [fz])) (fun j => F5311 2 j (by simp [fz]))) ⟨by omega, by omega, x184, fun _ => by omega⟩ (by omega) (by omega) (by exfalso; omega) (by omega) (by have q := congrArg Int32.toInt ((M5308.2 1 3 (Or.inr (by decide))).trans ((M5253.2 1 3 (Or.inr (by decide))).trans ((M5241.2 1 3 (Or.inr (by decide))).trans ((M5191.2 1 3 (Or.inr (by decide))).trans z5169)))); omega) (by have q := congrArg Int32.toInt ((M5308.2 1 4 (Or.inr (by decide))).trans M5253.1); omega) (by have q := congrArg Int32.toInt M5308.1; omega) (by have q := congrArg Int32.toInt ((M5308.2 1 8 (Or.inr (by decide))).trans ((M5253.2 1 8 (Or.inr (by decide))).trans M5241.1)); omega))⟩ dX7_step_392
                                  ·
                                    refine r_aload_n S dX7_step_331 rfl (lv_at hl 1 rfl) ?_
                                    refine r_geti (K := 1) S X5254 (Nat.le_of_ble_eq_true rfl) rfl lk7_43_7 (fun _ => ⟨_, rfl, rfl⟩) ((M5253.2 1 8 (Or.inr (by decide))).trans M5241.1) dX7_step_332 ?_
                                    refine r_bipush S dX7_step_335 (by decide) (fun v5312 z5313 => ?_)
                                    have r5314 := R_eq z5313
                                    refine r_icmp_eq (tgt := 349) S dX7_step_337 (by decide) (fun c5315 => ?_) (fun c5315 => ?_)
                                    ·
                                      have r5316 : R (40) (40) v5236 := ⟨by omega, by omega⟩
                                      refine r_iconst S dX7_step_349 (by decide) (fun v5317 z5318 => ?_)
                                      have r5319 := R_eq z5318
                                      refine r_goto (tgt := 354) S dX7_step_350 (by decide) ?_
                                      refine r_put (K := 1) (ty := .int) S X5254 (Nat.le_of_ble_eq_true rfl) rfl lk7_31_7 (fun _ => ⟨_, rfl, Nat.le_of_ble_eq_true rfl, rfl⟩) (fun _ _ _ h => by cases h; exact ⟨rfl, rfl⟩) rfl rfl dX7_step_354 (fun t5320 H lc M5321 X5322 => ?_)
                                      have I5323 := Inv_mu I5255 M5321 (show Rg (kd 1) 5 v5317 from (R_of (lo := 0) (hi := 4) r5319 rfl))
                                      have F5324 : Fr [(1, 3), (1, 4), (1, 5), (1, 7), (1, 8)] [201] τ t5320 := Fr_mu F5256 M5321 (by decide)
                                      refine r_goto (tgt := 392) S dX7_step_357 (by decide) ?_
                                      exact r_vret S hr hlk X5322 ⟨I5323, F5324, (RT_sign (A := f180.toInt.toNat) (RB_eq hB (F5324 1 1 (by simp [fz])) (F5324 1 2 (by simp [fz])) (fun j => F5324 2 j (by simp [fz]))) ⟨by omega, by omega, x184, fun _ => by omega⟩ (by omega) (by omega) (by exfalso; omega) (by omega) (by have q := congrArg Int32.toInt ((M5321.2 1 3 (Or.inr (by decide))).trans ((M5253.2 1 3 (Or.inr (by decide))).trans ((M5241.2 1 3 (Or.inr (by decide))).trans ((M5191.2 1 3 (Or.inr (by decide))).trans z5169)))); omega) (by have q := congrArg Int32.toInt ((M5321.2 1 4 (Or.inr (by decide))).trans M5253.1); omega) (by have q := congrArg Int32.toInt M5321.1; omega) (by have q := congrArg Int32.toInt ((M5321.2 1 8 (Or.inr (by decide))).trans ((M5253.2 1 8 (Or.inr (by decide))).trans M5241.1)); omega))⟩ dX7_step_392
                                    ·
                                      refine r_aload_n S dX7_step_340 rfl (lv_at hl 1 rfl) ?_
                                      refine r_geti (K := 1) S X5254 (Nat.le_of_ble_eq_true rfl) rfl lk7_43_7 (fun _ => ⟨_, rfl, rfl⟩) ((M5253.2 1 8 (Or.inr (by decide))).trans M5241.1) dX7_step_341 ?_
                                      refine r_bipush S dX7_step_344 (by decide) (fun v5325 z5326 => ?_)
                                      have r5327 := R_eq z5326
                                      refine r_icmp_ne (tgt := 353) S dX7_step_346 (by decide) (fun c5328 => ?_) (fun c5328 => ?_)
                                      ·
                                        refine r_iconst S dX7_step_353 (by decide) (fun v5329 z5330 => ?_)
                                        have r5331 := R_eq z5330
                                        refine r_put (K := 1) (ty := .int) S X5254 (Nat.le_of_ble_eq_true rfl) rfl lk7_31_7 (fun _ => ⟨_, rfl, Nat.le_of_ble_eq_true rfl, rfl⟩) (fun _ _ _ h => by cases h; exact ⟨rfl, rfl⟩) rfl rfl dX7_step_354 (fun t5332 H lc M5333 X5334 => ?_)
                                        have I5335 := Inv_mu I5255 M5333 (show Rg (kd 1) 5 v5329 from (R_of (lo := 0) (hi := 4) r5331 rfl))
                                        have F5336 : Fr [(1, 3), (1, 4), (1, 5), (1, 7), (1, 8)] [201] τ t5332 := Fr_mu F5256 M5333 (by decide)
                                        refine r_goto (tgt := 392) S dX7_step_357 (by decide) ?_
                                        exact r_vret S hr hlk X5334 ⟨I5335, F5336, (RT_none (A := f180.toInt.toNat) (RB_eq hB (F5336 1 1 (by simp [fz])) (F5336 1 2 (by simp [fz])) (fun j => F5336 2 j (by simp [fz]))) ⟨by omega, by omega, x184, fun _ => by omega⟩ (by omega) (by omega) (by exfalso; omega) (by omega) (by have q := congrArg Int32.toInt ((M5333.2 1 3 (Or.inr (by decide))).trans ((M5253.2 1 3 (Or.inr (by decide))).trans ((M5241.2 1 3 (Or.inr (by decide))).trans ((M5191.2 1 3 (Or.inr (by decide))).trans z5169)))); omega) (by have q := congrArg Int32.toInt M5333.1; omega))⟩ dX7_step_392
                                      ·
                                        have r5337 : R (41) (41) v5236 := ⟨by omega, by omega⟩
                                        refine r_iconst S dX7_step_349 (by decide) (fun v5338 z5339 => ?_)
                                        have r5340 := R_eq z5339
                                        refine r_goto (tgt := 354) S dX7_step_350 (by decide) ?_
                                        refine r_put (K := 1) (ty := .int) S X5254 (Nat.le_of_ble_eq_true rfl) rfl lk7_31_7 (fun _ => ⟨_, rfl, Nat.le_of_ble_eq_true rfl, rfl⟩) (fun _ _ _ h => by cases h; exact ⟨rfl, rfl⟩) rfl rfl dX7_step_354 (fun t5341 H lc M5342 X5343 => ?_)
                                        have I5344 := Inv_mu I5255 M5342 (show Rg (kd 1) 5 v5338 from (R_of (lo := 0) (hi := 4) r5340 rfl))
                                        have F5345 : Fr [(1, 3), (1, 4), (1, 5), (1, 7), (1, 8)] [201] τ t5341 := Fr_mu F5256 M5342 (by decide)
                                        refine r_goto (tgt := 392) S dX7_step_357 (by decide) ?_
                                        exact r_vret S hr hlk X5343 ⟨I5344, F5345, (RT_sign (A := f180.toInt.toNat) (RB_eq hB (F5345 1 1 (by simp [fz])) (F5345 1 2 (by simp [fz])) (fun j => F5345 2 j (by simp [fz]))) ⟨by omega, by omega, x184, fun _ => by omega⟩ (by omega) (by omega) (by exfalso; omega) (by omega) (by have q := congrArg Int32.toInt ((M5342.2 1 3 (Or.inr (by decide))).trans ((M5253.2 1 3 (Or.inr (by decide))).trans ((M5241.2 1 3 (Or.inr (by decide))).trans ((M5191.2 1 3 (Or.inr (by decide))).trans z5169)))); omega) (by have q := congrArg Int32.toInt ((M5342.2 1 4 (Or.inr (by decide))).trans M5253.1); omega) (by have q := congrArg Int32.toInt M5342.1; omega) (by have q := congrArg Int32.toInt ((M5342.2 1 8 (Or.inr (by decide))).trans ((M5253.2 1 8 (Or.inr (by decide))).trans M5241.1)); omega))⟩ dX7_step_392
                              ·
                                have r5346 : R (62) (62) v5236 := ⟨by omega, by omega⟩
                                refine r_iconst S dX7_step_309 (by decide) (fun v5347 z5348 => ?_)
                                have r5349 := R_eq z5348
                                refine r_goto (tgt := 314) S dX7_step_310 (by decide) ?_
                                refine r_istore (lv' := [(4, .int v5347), (0, .ref (G.2.2.2.1 1)), (2, .int i5159), (3, .int i5161)]) S dX7_step_314 hl (by decide) rfl (fun ls hl => ?_)
                                refine r_aload_n S dX7_step_316 rfl (lv_at hl 1 rfl) ?_
                                refine r_iload S dX7_step_317 (lv_at hl 0 rfl) ?_
                                refine r_if_ne (tgt := 349) S dX7_step_319 (by decide) (fun c5350 => ?_) (fun c5350 => ?_)
                                ·
                                  refine r_iconst S dX7_step_349 (by decide) (fun v5351 z5352 => ?_)
                                  have r5353 := R_eq z5352
                                  refine r_goto (tgt := 354) S dX7_step_350 (by decide) ?_
                                  refine r_put (K := 1) (ty := .int) S X5254 (Nat.le_of_ble_eq_true rfl) rfl lk7_31_7 (fun _ => ⟨_, rfl, Nat.le_of_ble_eq_true rfl, rfl⟩) (fun _ _ _ h => by cases h; exact ⟨rfl, rfl⟩) rfl rfl dX7_step_354 (fun t5354 H lc M5355 X5356 => ?_)
                                  have I5357 := Inv_mu I5255 M5355 (show Rg (kd 1) 5 v5351 from (R_of (lo := 0) (hi := 4) r5353 rfl))
                                  have F5358 : Fr [(1, 3), (1, 4), (1, 5), (1, 7), (1, 8)] [201] τ t5354 := Fr_mu F5256 M5355 (by decide)
                                  refine r_goto (tgt := 392) S dX7_step_357 (by decide) ?_
                                  exact r_vret S hr hlk X5356 ⟨I5357, F5358, (RT_sign (A := f180.toInt.toNat) (RB_eq hB (F5358 1 1 (by simp [fz])) (F5358 1 2 (by simp [fz])) (fun j => F5358 2 j (by simp [fz]))) ⟨by omega, by omega, x184, fun _ => by omega⟩ (by omega) (by omega) (by exfalso; omega) (by omega) (by have q := congrArg Int32.toInt ((M5355.2 1 3 (Or.inr (by decide))).trans ((M5253.2 1 3 (Or.inr (by decide))).trans ((M5241.2 1 3 (Or.inr (by decide))).trans ((M5191.2 1 3 (Or.inr (by decide))).trans z5169)))); omega) (by have q := congrArg Int32.toInt ((M5355.2 1 4 (Or.inr (by decide))).trans M5253.1); omega) (by have q := congrArg Int32.toInt M5355.1; omega) (by have q := congrArg Int32.toInt ((M5355.2 1 8 (Or.inr (by decide))).trans ((M5253.2 1 8 (Or.inr (by decide))).trans M5241.1)); omega))⟩ dX7_step_392
                                ·
                                  exfalso; omega
                    ·
                      have r5359 : R (0) (939) f5173 := ⟨by omega, by omega⟩
                      have r5360 : R (1) (940) v1 := ⟨by omega, by omega⟩
                      refine r_aload_n S dX7_step_147 rfl (lv_at hl 0 rfl) ?_
                      refine r_get (K := 1) (v := .ref (G.2.2.2.1 2)) S X5166 (Nat.le_of_ble_eq_true rfl) rfl lk7_9_7 (fun _ => ⟨_, rfl, rfl⟩) dX7_step_148 ?_
                      refine r_aload_n S dX7_step_151 rfl (lv_at hl 0 rfl) ?_
                      refine r_geti (K := 1) S X5166 (Nat.le_of_ble_eq_true rfl) rfl lk7_22_7 (fun _ => ⟨_, rfl, rfl⟩) z5175 dX7_step_152 ?_
                      refine r_aldn (n := 940) (K := 2) S X5166 (Nat.le_of_ble_eq_true rfl) rfl (fun _ => rfl) (ix_of r5359 rfl) dX7_step_155 (fun v5361 z5362 => ?_)
                      have r5363 : R (0) (255) v5361 := rd I5164 rfl z5362
                      have hb5364 : bb f5173.toInt.toNat = v5361.toInt := RB_at hB (fun j => F5165 2 j (by simp [fz])) z5362 ⟨by omega, by omega⟩
                      refine r_istore (lv' := [(4, .int v5361), (0, .ref (G.2.2.2.1 1)), (2, .int i5159), (3, .int i5161)]) S dX7_step_156 hl (by decide) rfl (fun ls hl => ?_)
                      refine r_iload S dX7_step_158 (lv_at hl 0 rfl) ?_
                      refine r_bipush S dX7_step_160 (by decide) (fun v5365 z5366 => ?_)
                      have r5367 := R_eq z5366
                      refine r_icmp_lt (tgt := 199) S dX7_step_162 (by decide) (fun c5368 => ?_) (fun c5368 => ?_)
                      ·
                        have r5369 : R (0) (96) v5361 := ⟨by omega, by omega⟩
                        refine r_iload S dX7_step_199 (lv_at hl 0 rfl) ?_
                        refine r_bipush S dX7_step_201 (by decide) (fun v5370 z5371 => ?_)
                        have r5372 := R_eq z5371
                        refine r_icmp_lt (tgt := 246) S dX7_step_203 (by decide) (fun c5373 => ?_) (fun c5373 => ?_)
                        ·
                          have r5374 : R (0) (47) v5361 := ⟨by omega, by omega⟩
                          refine r_aload_n S dX7_step_246 rfl (lv_at hl 1 rfl) ?_
                          refine r_iconst S dX7_step_247 (by decide) (fun v5375 z5376 => ?_)
                          have r5377 := R_eq z5376
                          refine r_put (K := 1) (ty := .int) S X5166 (Nat.le_of_ble_eq_true rfl) rfl lk7_31_7 (fun _ => ⟨_, rfl, Nat.le_of_ble_eq_true rfl, rfl⟩) (fun _ _ _ h => by cases h; exact ⟨rfl, rfl⟩) rfl rfl dX7_step_248 (fun t5378 H lc M5379 X5380 => ?_)
                          have I5381 := Inv_mu I5164 M5379 (show Rg (kd 1) 5 v5375 from (R_of (lo := 0) (hi := 4) r5377 rfl))
                          have F5382 : Fr [(1, 3), (1, 4), (1, 5), (1, 7), (1, 8)] [201] τ t5378 := Fr_mu F5165 M5379 (by decide)
                          refine r_iload_n S dX7_step_251 rfl (lv_at hl 2 rfl) ?_
                          refine r_if_ne (tgt := 360) S dX7_step_252 (by decide) (fun c5383 => ?_) (fun c5383 => ?_)
                          ·
                            have r5384 : R (1) (940) i5159 := ⟨by omega, by omega⟩
                            refine r_iload_n S dX7_step_360 rfl (lv_at hl 3 rfl) ?_
                            refine r_if_ne (tgt := 378) S dX7_step_361 (by decide) (fun c5385 => ?_) (fun c5385 => ?_)
                            ·
                              have r5386 : R (1) (940) i5161 := ⟨by omega, by omega⟩
                              refine r_iload_n S dX7_step_378 rfl (lv_at hl 2 rfl) ?_
                              refine r_if_ne (tgt := 392) S dX7_step_379 (by decide) (fun c5387 => ?_) (fun c5387 => ?_)
                              ·
                                exact r_vret S hr hlk X5380 ⟨I5381, F5382, (RT_odd (A := f180.toInt.toNat) (i := f5173.toInt.toNat) (le := i5159.toInt) (di := i5161.toInt) x5177 (RB_eq hB (F5382 1 1 (by simp [fz])) (F5382 1 2 (by simp [fz])) (fun j => F5382 2 j (by simp [fz]))) ⟨by omega, by omega, x184, fun _ => by omega⟩ (by omega) (by omega) (fun _ => by omega) (by omega) (by omega) (by omega) (by have q := congrArg Int32.toInt ((M5379.2 1 3 (Or.inr (by decide))).trans z5169); omega) (by have q := congrArg Int32.toInt M5379.1; omega))⟩ dX7_step_392
                              ·
                                exfalso; omega
                            ·
                              have r5388 : R (0) (0) i5161 := ⟨by omega, by omega⟩
                              refine r_iload_n S dX7_step_364 rfl (lv_at hl 2 rfl) ?_
                              refine r_bipush S dX7_step_365 (by decide) (fun v5389 z5390 => ?_)
                              have r5391 := R_eq z5390
                              refine r_icmp_gt (tgt := 378) S dX7_step_367 (by decide) (fun c5392 => ?_) (fun c5392 => ?_)
                              ·
                                have r5393 : R (8) (940) i5159 := ⟨by omega, by omega⟩
                                refine r_iload_n S dX7_step_378 rfl (lv_at hl 2 rfl) ?_
                                refine r_if_ne (tgt := 392) S dX7_step_379 (by decide) (fun c5394 => ?_) (fun c5394 => ?_)
                                ·
                                  exact r_vret S hr hlk X5380 ⟨I5381, F5382, (RT_odd (A := f180.toInt.toNat) (i := f5173.toInt.toNat) (le := i5159.toInt) (di := i5161.toInt) x5177 (RB_eq hB (F5382 1 1 (by simp [fz])) (F5382 1 2 (by simp [fz])) (fun j => F5382 2 j (by simp [fz]))) ⟨by omega, by omega, x184, fun _ => by omega⟩ (by omega) (by omega) (fun _ => by omega) (by omega) (by omega) (by omega) (by have q := congrArg Int32.toInt ((M5379.2 1 3 (Or.inr (by decide))).trans z5169); omega) (by have q := congrArg Int32.toInt M5379.1; omega))⟩ dX7_step_392
                                ·
                                  exfalso; omega
                              ·
                                have r5395 : R (1) (7) i5159 := ⟨by omega, by omega⟩
                                refine r_aload_n S dX7_step_370 rfl (lv_at hl 1 rfl) ?_
                                refine r_iconst S dX7_step_371 (by decide) (fun v5396 z5397 => ?_)
                                have r5398 := R_eq z5397
                                refine r_put (K := 1) (ty := .int) S X5380 (Nat.le_of_ble_eq_true rfl) rfl lk7_31_7 (fun _ => ⟨_, rfl, Nat.le_of_ble_eq_true rfl, rfl⟩) (fun _ _ _ h => by cases h; exact ⟨rfl, rfl⟩) rfl rfl dX7_step_372 (fun t5399 H lc M5400 X5401 => ?_)
                                have I5402 := Inv_mu I5381 M5400 (show Rg (kd 1) 5 v5396 from (R_of (lo := 0) (hi := 4) r5398 rfl))
                                have F5403 : Fr [(1, 3), (1, 4), (1, 5), (1, 7), (1, 8)] [201] τ t5399 := Fr_mu F5382 M5400 (by decide)
                                refine r_goto (tgt := 392) S dX7_step_375 (by decide) ?_
                                exact r_vret S hr hlk X5401 ⟨I5402, F5403, (RT_word (A := f180.toInt.toNat) (i := f5173.toInt.toNat) (le := i5159.toInt) (di := i5161.toInt) (nu := f5170.toInt) (by rw [(qof_of (k := 1) (fun j => ((M5400.2 201 j (Or.inl (by decide))).trans ((M5379.2 201 j (Or.inl (by decide))).trans rfl))) 6)]; exact x5177) (RB_eq hB (F5403 1 1 (by simp [fz])) (F5403 1 2 (by simp [fz])) (fun j => F5403 2 j (by simp [fz]))) ⟨by omega, by omega, x184, fun _ => by omega⟩ (by omega) (by omega) (fun _ => by omega) (by omega) (by omega) (by have q := congrArg Int32.toInt ((M5400.2 1 3 (Or.inr (by decide))).trans ((M5379.2 1 3 (Or.inr (by decide))).trans z5169)); omega) (by have q := congrArg Int32.toInt ((M5400.2 1 4 (Or.inr (by decide))).trans ((M5379.2 1 4 (Or.inr (by decide))).trans z5175)); omega) (by have q := congrArg Int32.toInt M5400.1; omega))⟩ dX7_step_392
                          ·
                            have r5404 : R (0) (0) i5159 := ⟨by omega, by omega⟩
                            refine r_iload_n S dX7_step_255 rfl (lv_at hl 3 rfl) ?_
                            refine r_if_ne (tgt := 360) S dX7_step_256 (by decide) (fun c5405 => ?_) (fun c5405 => ?_)
                            ·
                              have r5406 : R (1) (940) i5161 := ⟨by omega, by omega⟩
                              refine r_iload_n S dX7_step_360 rfl (lv_at hl 3 rfl) ?_
                              refine r_if_ne (tgt := 378) S dX7_step_361 (by decide) (fun c5407 => ?_) (fun c5407 => ?_)
                              ·
                                refine r_iload_n S dX7_step_378 rfl (lv_at hl 2 rfl) ?_
                                refine r_if_ne (tgt := 392) S dX7_step_379 (by decide) (fun c5408 => ?_) (fun c5408 => ?_)
                                ·
                                  exfalso; omega
                                ·
                                  refine r_iload_n S dX7_step_382 rfl (lv_at hl 3 rfl) ?_
                                  refine r_iconst S dX7_step_383 (by decide) (fun v5409 z5410 => ?_)
                                  have r5411 := R_eq z5410
                                  refine r_icmp_gt (tgt := 392) S dX7_step_384 (by decide) (fun c5412 => ?_) (fun c5412 => ?_)
                                  ·
                                    have r5413 : R (3) (940) i5161 := ⟨by omega, by omega⟩
                                    exact r_vret S hr hlk X5380 ⟨I5381, F5382, (RT_odd (A := f180.toInt.toNat) (i := f5173.toInt.toNat) (le := i5159.toInt) (di := i5161.toInt) x5177 (RB_eq hB (F5382 1 1 (by simp [fz])) (F5382 1 2 (by simp [fz])) (fun j => F5382 2 j (by simp [fz]))) ⟨by omega, by omega, x184, fun _ => by omega⟩ (by omega) (by omega) (fun _ => by omega) (by omega) (by omega) (by omega) (by have q := congrArg Int32.toInt ((M5379.2 1 3 (Or.inr (by decide))).trans z5169); omega) (by have q := congrArg Int32.toInt M5379.1; omega))⟩ dX7_step_392
                                  ·
                                    have r5414 : R (1) (2) i5161 := ⟨by omega, by omega⟩
                                    refine r_aload_n S dX7_step_387 rfl (lv_at hl 1 rfl) ?_
                                    refine r_iconst S dX7_step_388 (by decide) (fun v5415 z5416 => ?_)
                                    have r5417 := R_eq z5416
                                    refine r_put (K := 1) (ty := .int) S X5380 (Nat.le_of_ble_eq_true rfl) rfl lk7_31_7 (fun _ => ⟨_, rfl, Nat.le_of_ble_eq_true rfl, rfl⟩) (fun _ _ _ h => by cases h; exact ⟨rfl, rfl⟩) rfl rfl dX7_step_389 (fun t5418 H lc M5419 X5420 => ?_)
                                    have I5421 := Inv_mu I5381 M5419 (show Rg (kd 1) 5 v5415 from (R_of (lo := 0) (hi := 4) r5417 rfl))
                                    have F5422 : Fr [(1, 3), (1, 4), (1, 5), (1, 7), (1, 8)] [201] τ t5418 := Fr_mu F5382 M5419 (by decide)
                                    exact r_vret S hr hlk X5420 ⟨I5421, F5422, (RT_nbr (A := f180.toInt.toNat) (i := f5173.toInt.toNat) (le := i5159.toInt) (di := i5161.toInt) (sp := (qof t5163 1 6).toInt) (by rw [((M5419.2 1 7 (Or.inr (by decide))).trans ((M5379.2 1 7 (Or.inr (by decide))).trans z5172))]; exact x5177) (RB_eq hB (F5422 1 1 (by simp [fz])) (F5422 1 2 (by simp [fz])) (fun j => F5422 2 j (by simp [fz]))) ⟨by omega, by omega, x184, fun _ => by omega⟩ (by omega) (by omega) (fun _ => by omega) (by omega) (by omega) (by have q := congrArg Int32.toInt ((M5419.2 1 3 (Or.inr (by decide))).trans ((M5379.2 1 3 (Or.inr (by decide))).trans z5169)); omega) (by have q := congrArg Int32.toInt ((M5419.2 1 4 (Or.inr (by decide))).trans ((M5379.2 1 4 (Or.inr (by decide))).trans z5175)); omega) (by have q := congrArg Int32.toInt M5419.1; omega))⟩ dX7_step_392
                              ·
                                exfalso; omega
                            ·
                              have r5423 : R (0) (0) i5161 := ⟨by omega, by omega⟩
                              refine r_aload_n S dX7_step_259 rfl (lv_at hl 1 rfl) ?_
                              refine r_aload_n S dX7_step_260 rfl (lv_at hl 1 rfl) ?_
                              refine r_get (K := 1) (v := .ref (G.2.2.2.1 2)) S X5380 (Nat.le_of_ble_eq_true rfl) rfl lk7_9_7 (fun _ => ⟨_, rfl, rfl⟩) dX7_step_261 ?_
                              refine r_aload_n S dX7_step_264 rfl (lv_at hl 1 rfl) ?_
                              refine r_geti (K := 1) S X5380 (Nat.le_of_ble_eq_true rfl) rfl lk7_28_7 (fun _ => ⟨_, rfl, rfl⟩) ((M5379.2 1 3 (Or.inr (by decide))).trans z5169) dX7_step_265 ?_
                              refine r_aldn (n := 940) (K := 2) S X5380 (Nat.le_of_ble_eq_true rfl) rfl (fun _ => rfl) (ix_of r215 rfl) dX7_step_268 (fun v5424 z5425 => ?_)
                              have r5426 : R (0) (255) v5424 := rd I5381 rfl z5425
                              have hb5427 : bb f180.toInt.toNat = v5424.toInt := RB_at hB (fun j => F5382 2 j (by simp [fz])) z5425 ⟨by omega, by omega⟩
                              refine r_put (K := 1) (ty := .int) S X5380 (Nat.le_of_ble_eq_true rfl) rfl lk7_43_7 (fun _ => ⟨_, rfl, Nat.le_of_ble_eq_true rfl, rfl⟩) (fun _ _ _ h => by cases h; exact ⟨rfl, rfl⟩) rfl rfl dX7_step_269 (fun t5428 H lc M5429 X5430 => ?_)
                              have I5431 := Inv_mu I5381 M5429 (R_any v5424)
                              have F5432 : Fr [(1, 3), (1, 4), (1, 5), (1, 7), (1, 8)] [201] τ t5428 := Fr_mu F5382 M5429 (by decide)
                              refine r_aload_n S dX7_step_272 rfl (lv_at hl 1 rfl) ?_
                              refine r_aload_n S dX7_step_273 rfl (lv_at hl 1 rfl) ?_
                              refine r_geti (K := 1) S X5430 (Nat.le_of_ble_eq_true rfl) rfl lk7_28_7 (fun _ => ⟨_, rfl, rfl⟩) ((M5429.2 1 3 (Or.inr (by decide))).trans ((M5379.2 1 3 (Or.inr (by decide))).trans z5169)) dX7_step_274 ?_
                              refine r_iconst S dX7_step_277 (by decide) (fun v5433 z5434 => ?_)
                              have r5435 := R_eq z5434
                              refine r_iadd S dX7_step_278 (fun v5436 z5437 => ?_)
                              obtain ⟨e5438, r5439⟩ := i_add (lo := 1) (hi := 900) z5437 r215 r5435 rfl
                              refine r_put (K := 1) (ty := .int) S X5430 (Nat.le_of_ble_eq_true rfl) rfl lk7_22_7 (fun _ => ⟨_, rfl, Nat.le_of_ble_eq_true rfl, rfl⟩) (fun _ _ _ h => by cases h; exact ⟨rfl, rfl⟩) rfl rfl dX7_step_279 (fun t5440 H lc M5441 X5442 => ?_)
                              have I5443 := Inv_mu I5431 M5441 (show Rg (kd 1) 4 v5436 from (R_of (lo := 0) (hi := 940) r5439 rfl))
                              have F5444 : Fr [(1, 3), (1, 4), (1, 5), (1, 7), (1, 8)] [201] τ t5440 := Fr_mu F5432 M5441 (by decide)
                              refine r_aload_n S dX7_step_282 rfl (lv_at hl 1 rfl) ?_
                              refine r_geti (K := 1) S X5442 (Nat.le_of_ble_eq_true rfl) rfl lk7_43_7 (fun _ => ⟨_, rfl, rfl⟩) ((M5441.2 1 8 (Or.inr (by decide))).trans M5429.1) dX7_step_283 ?_
                              refine r_bipush S dX7_step_286 (by decide) (fun v5445 z5446 => ?_)
                              have r5447 := R_eq z5446
                              refine r_icmp_eq (tgt := 309) S dX7_step_288 (by decide) (fun c5448 => ?_) (fun c5448 => ?_)
                              ·
                                have r5449 : R (60) (60) v5424 := ⟨by omega, by omega⟩
                                refine r_iconst S dX7_step_309 (by decide) (fun v5450 z5451 => ?_)
                                have r5452 := R_eq z5451
                                refine r_goto (tgt := 314) S dX7_step_310 (by decide) ?_
                                refine r_istore (lv' := [(4, .int v5450), (0, .ref (G.2.2.2.1 1)), (2, .int i5159), (3, .int i5161)]) S dX7_step_314 hl (by decide) rfl (fun ls hl => ?_)
                                refine r_aload_n S dX7_step_316 rfl (lv_at hl 1 rfl) ?_
                                refine r_iload S dX7_step_317 (lv_at hl 0 rfl) ?_
                                refine r_if_ne (tgt := 349) S dX7_step_319 (by decide) (fun c5453 => ?_) (fun c5453 => ?_)
                                ·
                                  refine r_iconst S dX7_step_349 (by decide) (fun v5454 z5455 => ?_)
                                  have r5456 := R_eq z5455
                                  refine r_goto (tgt := 354) S dX7_step_350 (by decide) ?_
                                  refine r_put (K := 1) (ty := .int) S X5442 (Nat.le_of_ble_eq_true rfl) rfl lk7_31_7 (fun _ => ⟨_, rfl, Nat.le_of_ble_eq_true rfl, rfl⟩) (fun _ _ _ h => by cases h; exact ⟨rfl, rfl⟩) rfl rfl dX7_step_354 (fun t5457 H lc M5458 X5459 => ?_)
                                  have I5460 := Inv_mu I5443 M5458 (show Rg (kd 1) 5 v5454 from (R_of (lo := 0) (hi := 4) r5456 rfl))
                                  have F5461 : Fr [(1, 3), (1, 4), (1, 5), (1, 7), (1, 8)] [201] τ t5457 := Fr_mu F5444 M5458 (by decide)
                                  refine r_goto (tgt := 392) S dX7_step_357 (by decide) ?_
                                  exact r_vret S hr hlk X5459 ⟨I5460, F5461, (RT_sign (A := f180.toInt.toNat) (RB_eq hB (F5461 1 1 (by simp [fz])) (F5461 1 2 (by simp [fz])) (fun j => F5461 2 j (by simp [fz]))) ⟨by omega, by omega, x184, fun _ => by omega⟩ (by omega) (by omega) (by rw [show f180.toInt.toNat = f5173.toInt.toNat by omega, hb5364]; omega) (by omega) (by have q := congrArg Int32.toInt ((M5458.2 1 3 (Or.inr (by decide))).trans ((M5441.2 1 3 (Or.inr (by decide))).trans ((M5429.2 1 3 (Or.inr (by decide))).trans ((M5379.2 1 3 (Or.inr (by decide))).trans z5169)))); omega) (by have q := congrArg Int32.toInt ((M5458.2 1 4 (Or.inr (by decide))).trans M5441.1); omega) (by have q := congrArg Int32.toInt M5458.1; omega) (by have q := congrArg Int32.toInt ((M5458.2 1 8 (Or.inr (by decide))).trans ((M5441.2 1 8 (Or.inr (by decide))).trans M5429.1)); omega))⟩ dX7_step_392
                                ·
                                  exfalso; omega
                              ·
                                refine r_aload_n S dX7_step_291 rfl (lv_at hl 1 rfl) ?_
                                refine r_geti (K := 1) S X5442 (Nat.le_of_ble_eq_true rfl) rfl lk7_43_7 (fun _ => ⟨_, rfl, rfl⟩) ((M5441.2 1 8 (Or.inr (by decide))).trans M5429.1) dX7_step_292 ?_
                                refine r_bipush S dX7_step_295 (by decide) (fun v5462 z5463 => ?_)
                                have r5464 := R_eq z5463
                                refine r_icmp_eq (tgt := 309) S dX7_step_297 (by decide) (fun c5465 => ?_) (fun c5465 => ?_)
                                ·
                                  have r5466 : R (61) (61) v5424 := ⟨by omega, by omega⟩
                                  refine r_iconst S dX7_step_309 (by decide) (fun v5467 z5468 => ?_)
                                  have r5469 := R_eq z5468
                                  refine r_goto (tgt := 314) S dX7_step_310 (by decide) ?_
                                  refine r_istore (lv' := [(4, .int v5467), (0, .ref (G.2.2.2.1 1)), (2, .int i5159), (3, .int i5161)]) S dX7_step_314 hl (by decide) rfl (fun ls hl => ?_)
                                  refine r_aload_n S dX7_step_316 rfl (lv_at hl 1 rfl) ?_
                                  refine r_iload S dX7_step_317 (lv_at hl 0 rfl) ?_
                                  refine r_if_ne (tgt := 349) S dX7_step_319 (by decide) (fun c5470 => ?_) (fun c5470 => ?_)
                                  ·
                                    refine r_iconst S dX7_step_349 (by decide) (fun v5471 z5472 => ?_)
                                    have r5473 := R_eq z5472
                                    refine r_goto (tgt := 354) S dX7_step_350 (by decide) ?_
                                    refine r_put (K := 1) (ty := .int) S X5442 (Nat.le_of_ble_eq_true rfl) rfl lk7_31_7 (fun _ => ⟨_, rfl, Nat.le_of_ble_eq_true rfl, rfl⟩) (fun _ _ _ h => by cases h; exact ⟨rfl, rfl⟩) rfl rfl dX7_step_354 (fun t5474 H lc M5475 X5476 => ?_)
                                    have I5477 := Inv_mu I5443 M5475 (show Rg (kd 1) 5 v5471 from (R_of (lo := 0) (hi := 4) r5473 rfl))
                                    have F5478 : Fr [(1, 3), (1, 4), (1, 5), (1, 7), (1, 8)] [201] τ t5474 := Fr_mu F5444 M5475 (by decide)
                                    refine r_goto (tgt := 392) S dX7_step_357 (by decide) ?_
                                    exact r_vret S hr hlk X5476 ⟨I5477, F5478, (RT_sign (A := f180.toInt.toNat) (RB_eq hB (F5478 1 1 (by simp [fz])) (F5478 1 2 (by simp [fz])) (fun j => F5478 2 j (by simp [fz]))) ⟨by omega, by omega, x184, fun _ => by omega⟩ (by omega) (by omega) (by rw [show f180.toInt.toNat = f5173.toInt.toNat by omega, hb5364]; omega) (by omega) (by have q := congrArg Int32.toInt ((M5475.2 1 3 (Or.inr (by decide))).trans ((M5441.2 1 3 (Or.inr (by decide))).trans ((M5429.2 1 3 (Or.inr (by decide))).trans ((M5379.2 1 3 (Or.inr (by decide))).trans z5169)))); omega) (by have q := congrArg Int32.toInt ((M5475.2 1 4 (Or.inr (by decide))).trans M5441.1); omega) (by have q := congrArg Int32.toInt M5475.1; omega) (by have q := congrArg Int32.toInt ((M5475.2 1 8 (Or.inr (by decide))).trans ((M5441.2 1 8 (Or.inr (by decide))).trans M5429.1)); omega))⟩ dX7_step_392
                                  ·
                                    exfalso; omega
                                ·
                                  refine r_aload_n S dX7_step_300 rfl (lv_at hl 1 rfl) ?_
                                  refine r_geti (K := 1) S X5442 (Nat.le_of_ble_eq_true rfl) rfl lk7_43_7 (fun _ => ⟨_, rfl, rfl⟩) ((M5441.2 1 8 (Or.inr (by decide))).trans M5429.1) dX7_step_301 ?_
                                  refine r_bipush S dX7_step_304 (by decide) (fun v5479 z5480 => ?_)
                                  have r5481 := R_eq z5480
                                  refine r_icmp_ne (tgt := 313) S dX7_step_306 (by decide) (fun c5482 => ?_) (fun c5482 => ?_)
                                  ·
                                    refine r_iconst S dX7_step_313 (by decide) (fun v5483 z5484 => ?_)
                                    have r5485 := R_eq z5484
                                    refine r_istore (lv' := [(4, .int v5483), (0, .ref (G.2.2.2.1 1)), (2, .int i5159), (3, .int i5161)]) S dX7_step_314 hl (by decide) rfl (fun ls hl => ?_)
                                    refine r_aload_n S dX7_step_316 rfl (lv_at hl 1 rfl) ?_
                                    refine r_iload S dX7_step_317 (lv_at hl 0 rfl) ?_
                                    refine r_if_ne (tgt := 349) S dX7_step_319 (by decide) (fun c5486 => ?_) (fun c5486 => ?_)
                                    ·
                                      exfalso; omega
                                    ·
                                      refine r_aload_n S dX7_step_322 rfl (lv_at hl 1 rfl) ?_
                                      refine r_geti (K := 1) S X5442 (Nat.le_of_ble_eq_true rfl) rfl lk7_43_7 (fun _ => ⟨_, rfl, rfl⟩) ((M5441.2 1 8 (Or.inr (by decide))).trans M5429.1) dX7_step_323 ?_
                                      refine r_bipush S dX7_step_326 (by decide) (fun v5487 z5488 => ?_)
                                      have r5489 := R_eq z5488
                                      refine r_icmp_eq (tgt := 349) S dX7_step_328 (by decide) (fun c5490 => ?_) (fun c5490 => ?_)
                                      ·
                                        have r5491 : R (59) (59) v5424 := ⟨by omega, by omega⟩
                                        refine r_iconst S dX7_step_349 (by decide) (fun v5492 z5493 => ?_)
                                        have r5494 := R_eq z5493
                                        refine r_goto (tgt := 354) S dX7_step_350 (by decide) ?_
                                        refine r_put (K := 1) (ty := .int) S X5442 (Nat.le_of_ble_eq_true rfl) rfl lk7_31_7 (fun _ => ⟨_, rfl, Nat.le_of_ble_eq_true rfl, rfl⟩) (fun _ _ _ h => by cases h; exact ⟨rfl, rfl⟩) rfl rfl dX7_step_354 (fun t5495 H lc M5496 X5497 => ?_)
                                        have I5498 := Inv_mu I5443 M5496 (show Rg (kd 1) 5 v5492 from (R_of (lo := 0) (hi := 4) r5494 rfl))
                                        have F5499 : Fr [(1, 3), (1, 4), (1, 5), (1, 7), (1, 8)] [201] τ t5495 := Fr_mu F5444 M5496 (by decide)
                                        refine r_goto (tgt := 392) S dX7_step_357 (by decide) ?_
                                        exact r_vret S hr hlk X5497 ⟨I5498, F5499, (RT_sign (A := f180.toInt.toNat) (RB_eq hB (F5499 1 1 (by simp [fz])) (F5499 1 2 (by simp [fz])) (fun j => F5499 2 j (by simp [fz]))) ⟨by omega, by omega, x184, fun _ => by omega⟩ (by omega) (by omega) (by rw [show f180.toInt.toNat = f5173.toInt.toNat by omega, hb5364]; omega) (by omega) (by have q := congrArg Int32.toInt ((M5496.2 1 3 (Or.inr (by decide))).trans ((M5441.2 1 3 (Or.inr (by decide))).trans ((M5429.2 1 3 (Or.inr (by decide))).trans ((M5379.2 1 3 (Or.inr (by decide))).trans z5169)))); omega) (by have q := congrArg Int32.toInt ((M5496.2 1 4 (Or.inr (by decide))).trans M5441.1); omega) (by have q := congrArg Int32.toInt M5496.1; omega) (by have q := congrArg Int32.toInt ((M5496.2 1 8 (Or.inr (by decide))).trans ((M5441.2 1 8 (Or.inr (by decide))).trans M5429.1)); omega))⟩ dX7_step_392
                                      ·
                                        refine r_aload_n S dX7_step_331 rfl (lv_at hl 1 rfl) ?_
                                        refine r_geti (K := 1) S X5442 (Nat.le_of_ble_eq_true rfl) rfl lk7_43_7 (fun _ => ⟨_, rfl, rfl⟩) ((M5441.2 1 8 (Or.inr (by decide))).trans M5429.1) dX7_step_332 ?_
                                        refine r_bipush S dX7_step_335 (by decide) (fun v5500 z5501 => ?_)
                                        have r5502 := R_eq z5501
                                        refine r_icmp_eq (tgt := 349) S dX7_step_337 (by decide) (fun c5503 => ?_) (fun c5503 => ?_)
                                        ·
                                          have r5504 : R (40) (40) v5424 := ⟨by omega, by omega⟩
                                          refine r_iconst S dX7_step_349 (by decide) (fun v5505 z5506 => ?_)
                                          have r5507 := R_eq z5506
                                          refine r_goto (tgt := 354) S dX7_step_350 (by decide) ?_
                                          refine r_put (K := 1) (ty := .int) S X5442 (Nat.le_of_ble_eq_true rfl) rfl lk7_31_7 (fun _ => ⟨_, rfl, Nat.le_of_ble_eq_true rfl, rfl⟩) (fun _ _ _ h => by cases h; exact ⟨rfl, rfl⟩) rfl rfl dX7_step_354 (fun t5508 H lc M5509 X5510 => ?_)
                                          have I5511 := Inv_mu I5443 M5509 (show Rg (kd 1) 5 v5505 from (R_of (lo := 0) (hi := 4) r5507 rfl))
                                          have F5512 : Fr [(1, 3), (1, 4), (1, 5), (1, 7), (1, 8)] [201] τ t5508 := Fr_mu F5444 M5509 (by decide)
                                          refine r_goto (tgt := 392) S dX7_step_357 (by decide) ?_
                                          exact r_vret S hr hlk X5510 ⟨I5511, F5512, (RT_sign (A := f180.toInt.toNat) (RB_eq hB (F5512 1 1 (by simp [fz])) (F5512 1 2 (by simp [fz])) (fun j => F5512 2 j (by simp [fz]))) ⟨by omega, by omega, x184, fun _ => by omega⟩ (by omega) (by omega) (by rw [show f180.toInt.toNat = f5173.toInt.toNat by omega, hb5364]; omega) (by omega) (by have q := congrArg Int32.toInt ((M5509.2 1 3 (Or.inr (by decide))).trans ((M5441.2 1 3 (Or.inr (by decide))).trans ((M5429.2 1 3 (Or.inr (by decide))).trans ((M5379.2 1 3 (Or.inr (by decide))).trans z5169)))); omega) (by have q := congrArg Int32.toInt ((M5509.2 1 4 (Or.inr (by decide))).trans M5441.1); omega) (by have q := congrArg Int32.toInt M5509.1; omega) (by have q := congrArg Int32.toInt ((M5509.2 1 8 (Or.inr (by decide))).trans ((M5441.2 1 8 (Or.inr (by decide))).trans M5429.1)); omega))⟩ dX7_step_392
                                        ·
                                          refine r_aload_n S dX7_step_340 rfl (lv_at hl 1 rfl) ?_
                                          refine r_geti (K := 1) S X5442 (Nat.le_of_ble_eq_true rfl) rfl lk7_43_7 (fun _ => ⟨_, rfl, rfl⟩) ((M5441.2 1 8 (Or.inr (by decide))).trans M5429.1) dX7_step_341 ?_
                                          refine r_bipush S dX7_step_344 (by decide) (fun v5513 z5514 => ?_)
                                          have r5515 := R_eq z5514
                                          refine r_icmp_ne (tgt := 353) S dX7_step_346 (by decide) (fun c5516 => ?_) (fun c5516 => ?_)
                                          ·
                                            refine r_iconst S dX7_step_353 (by decide) (fun v5517 z5518 => ?_)
                                            have r5519 := R_eq z5518
                                            refine r_put (K := 1) (ty := .int) S X5442 (Nat.le_of_ble_eq_true rfl) rfl lk7_31_7 (fun _ => ⟨_, rfl, Nat.le_of_ble_eq_true rfl, rfl⟩) (fun _ _ _ h => by cases h; exact ⟨rfl, rfl⟩) rfl rfl dX7_step_354 (fun t5520 H lc M5521 X5522 => ?_)
                                            have I5523 := Inv_mu I5443 M5521 (show Rg (kd 1) 5 v5517 from (R_of (lo := 0) (hi := 4) r5519 rfl))
                                            have F5524 : Fr [(1, 3), (1, 4), (1, 5), (1, 7), (1, 8)] [201] τ t5520 := Fr_mu F5444 M5521 (by decide)
                                            refine r_goto (tgt := 392) S dX7_step_357 (by decide) ?_
                                            exact r_vret S hr hlk X5522 ⟨I5523, F5524, (RT_none (A := f180.toInt.toNat) (RB_eq hB (F5524 1 1 (by simp [fz])) (F5524 1 2 (by simp [fz])) (fun j => F5524 2 j (by simp [fz]))) ⟨by omega, by omega, x184, fun _ => by omega⟩ (by omega) (by omega) (by rw [show f180.toInt.toNat = f5173.toInt.toNat by omega, hb5364]; omega) (by omega) (by have q := congrArg Int32.toInt ((M5521.2 1 3 (Or.inr (by decide))).trans ((M5441.2 1 3 (Or.inr (by decide))).trans ((M5429.2 1 3 (Or.inr (by decide))).trans ((M5379.2 1 3 (Or.inr (by decide))).trans z5169)))); omega) (by have q := congrArg Int32.toInt M5521.1; omega))⟩ dX7_step_392
                                          ·
                                            have r5525 : R (41) (41) v5424 := ⟨by omega, by omega⟩
                                            refine r_iconst S dX7_step_349 (by decide) (fun v5526 z5527 => ?_)
                                            have r5528 := R_eq z5527
                                            refine r_goto (tgt := 354) S dX7_step_350 (by decide) ?_
                                            refine r_put (K := 1) (ty := .int) S X5442 (Nat.le_of_ble_eq_true rfl) rfl lk7_31_7 (fun _ => ⟨_, rfl, Nat.le_of_ble_eq_true rfl, rfl⟩) (fun _ _ _ h => by cases h; exact ⟨rfl, rfl⟩) rfl rfl dX7_step_354 (fun t5529 H lc M5530 X5531 => ?_)
                                            have I5532 := Inv_mu I5443 M5530 (show Rg (kd 1) 5 v5526 from (R_of (lo := 0) (hi := 4) r5528 rfl))
                                            have F5533 : Fr [(1, 3), (1, 4), (1, 5), (1, 7), (1, 8)] [201] τ t5529 := Fr_mu F5444 M5530 (by decide)
                                            refine r_goto (tgt := 392) S dX7_step_357 (by decide) ?_
                                            exact r_vret S hr hlk X5531 ⟨I5532, F5533, (RT_sign (A := f180.toInt.toNat) (RB_eq hB (F5533 1 1 (by simp [fz])) (F5533 1 2 (by simp [fz])) (fun j => F5533 2 j (by simp [fz]))) ⟨by omega, by omega, x184, fun _ => by omega⟩ (by omega) (by omega) (by rw [show f180.toInt.toNat = f5173.toInt.toNat by omega, hb5364]; omega) (by omega) (by have q := congrArg Int32.toInt ((M5530.2 1 3 (Or.inr (by decide))).trans ((M5441.2 1 3 (Or.inr (by decide))).trans ((M5429.2 1 3 (Or.inr (by decide))).trans ((M5379.2 1 3 (Or.inr (by decide))).trans z5169)))); omega) (by have q := congrArg Int32.toInt ((M5530.2 1 4 (Or.inr (by decide))).trans M5441.1); omega) (by have q := congrArg Int32.toInt M5530.1; omega) (by have q := congrArg Int32.toInt ((M5530.2 1 8 (Or.inr (by decide))).trans ((M5441.2 1 8 (Or.inr (by decide))).trans M5429.1)); omega))⟩ dX7_step_392
                                  ·
                                    have r5534 : R (62) (62) v5424 := ⟨by omega, by omega⟩
                                    refine r_iconst S dX7_step_309 (by decide) (fun v5535 z5536 => ?_)
                                    have r5537 := R_eq z5536
                                    refine r_goto (tgt := 314) S dX7_step_310 (by decide) ?_
                                    refine r_istore (lv' := [(4, .int v5535), (0, .ref (G.2.2.2.1 1)), (2, .int i5159), (3, .int i5161)]) S dX7_step_314 hl (by decide) rfl (fun ls hl => ?_)
                                    refine r_aload_n S dX7_step_316 rfl (lv_at hl 1 rfl) ?_
                                    refine r_iload S dX7_step_317 (lv_at hl 0 rfl) ?_
                                    refine r_if_ne (tgt := 349) S dX7_step_319 (by decide) (fun c5538 => ?_) (fun c5538 => ?_)
                                    ·
                                      refine r_iconst S dX7_step_349 (by decide) (fun v5539 z5540 => ?_)
                                      have r5541 := R_eq z5540
                                      refine r_goto (tgt := 354) S dX7_step_350 (by decide) ?_
                                      refine r_put (K := 1) (ty := .int) S X5442 (Nat.le_of_ble_eq_true rfl) rfl lk7_31_7 (fun _ => ⟨_, rfl, Nat.le_of_ble_eq_true rfl, rfl⟩) (fun _ _ _ h => by cases h; exact ⟨rfl, rfl⟩) rfl rfl dX7_step_354 (fun t5542 H lc M5543 X5544 => ?_)
                                      have I5545 := Inv_mu I5443 M5543 (show Rg (kd 1) 5 v5539 from (R_of (lo := 0) (hi := 4) r5541 rfl))
                                      have F5546 : Fr [(1, 3), (1, 4), (1, 5), (1, 7), (1, 8)] [201] τ t5542 := Fr_mu F5444 M5543 (by decide)
                                      refine r_goto (tgt := 392) S dX7_step_357 (by decide) ?_
                                      exact r_vret S hr hlk X5544 ⟨I5545, F5546, (RT_sign (A := f180.toInt.toNat) (RB_eq hB (F5546 1 1 (by simp [fz])) (F5546 1 2 (by simp [fz])) (fun j => F5546 2 j (by simp [fz]))) ⟨by omega, by omega, x184, fun _ => by omega⟩ (by omega) (by omega) (by rw [show f180.toInt.toNat = f5173.toInt.toNat by omega, hb5364]; omega) (by omega) (by have q := congrArg Int32.toInt ((M5543.2 1 3 (Or.inr (by decide))).trans ((M5441.2 1 3 (Or.inr (by decide))).trans ((M5429.2 1 3 (Or.inr (by decide))).trans ((M5379.2 1 3 (Or.inr (by decide))).trans z5169)))); omega) (by have q := congrArg Int32.toInt ((M5543.2 1 4 (Or.inr (by decide))).trans M5441.1); omega) (by have q := congrArg Int32.toInt M5543.1; omega) (by have q := congrArg Int32.toInt ((M5543.2 1 8 (Or.inr (by decide))).trans ((M5441.2 1 8 (Or.inr (by decide))).trans M5429.1)); omega))⟩ dX7_step_392
                                    ·
                                      exfalso; omega
                        ·
                          have r5547 : R (48) (96) v5361 := ⟨by omega, by omega⟩
                          refine r_iload S dX7_step_206 (lv_at hl 0 rfl) ?_
                          refine r_bipush S dX7_step_208 (by decide) (fun v5548 z5549 => ?_)
                          have r5550 := R_eq z5549
                          refine r_icmp_gt (tgt := 246) S dX7_step_210 (by decide) (fun c5551 => ?_) (fun c5551 => ?_)
                          ·
                            have r5552 : R (58) (96) v5361 := ⟨by omega, by omega⟩
                            refine r_aload_n S dX7_step_246 rfl (lv_at hl 1 rfl) ?_
                            refine r_iconst S dX7_step_247 (by decide) (fun v5553 z5554 => ?_)
                            have r5555 := R_eq z5554
                            refine r_put (K := 1) (ty := .int) S X5166 (Nat.le_of_ble_eq_true rfl) rfl lk7_31_7 (fun _ => ⟨_, rfl, Nat.le_of_ble_eq_true rfl, rfl⟩) (fun _ _ _ h => by cases h; exact ⟨rfl, rfl⟩) rfl rfl dX7_step_248 (fun t5556 H lc M5557 X5558 => ?_)
                            have I5559 := Inv_mu I5164 M5557 (show Rg (kd 1) 5 v5553 from (R_of (lo := 0) (hi := 4) r5555 rfl))
                            have F5560 : Fr [(1, 3), (1, 4), (1, 5), (1, 7), (1, 8)] [201] τ t5556 := Fr_mu F5165 M5557 (by decide)
                            refine r_iload_n S dX7_step_251 rfl (lv_at hl 2 rfl) ?_
                            refine r_if_ne (tgt := 360) S dX7_step_252 (by decide) (fun c5561 => ?_) (fun c5561 => ?_)
                            ·
                              have r5562 : R (1) (940) i5159 := ⟨by omega, by omega⟩
                              refine r_iload_n S dX7_step_360 rfl (lv_at hl 3 rfl) ?_
                              refine r_if_ne (tgt := 378) S dX7_step_361 (by decide) (fun c5563 => ?_) (fun c5563 => ?_)
                              ·
                                have r5564 : R (1) (940) i5161 := ⟨by omega, by omega⟩
                                refine r_iload_n S dX7_step_378 rfl (lv_at hl 2 rfl) ?_
                                refine r_if_ne (tgt := 392) S dX7_step_379 (by decide) (fun c5565 => ?_) (fun c5565 => ?_)
                                ·
                                  exact r_vret S hr hlk X5558 ⟨I5559, F5560, (RT_odd (A := f180.toInt.toNat) (i := f5173.toInt.toNat) (le := i5159.toInt) (di := i5161.toInt) x5177 (RB_eq hB (F5560 1 1 (by simp [fz])) (F5560 1 2 (by simp [fz])) (fun j => F5560 2 j (by simp [fz]))) ⟨by omega, by omega, x184, fun _ => by omega⟩ (by omega) (by omega) (fun _ => by omega) (by omega) (by omega) (by omega) (by have q := congrArg Int32.toInt ((M5557.2 1 3 (Or.inr (by decide))).trans z5169); omega) (by have q := congrArg Int32.toInt M5557.1; omega))⟩ dX7_step_392
                                ·
                                  exfalso; omega
                              ·
                                have r5566 : R (0) (0) i5161 := ⟨by omega, by omega⟩
                                refine r_iload_n S dX7_step_364 rfl (lv_at hl 2 rfl) ?_
                                refine r_bipush S dX7_step_365 (by decide) (fun v5567 z5568 => ?_)
                                have r5569 := R_eq z5568
                                refine r_icmp_gt (tgt := 378) S dX7_step_367 (by decide) (fun c5570 => ?_) (fun c5570 => ?_)
                                ·
                                  have r5571 : R (8) (940) i5159 := ⟨by omega, by omega⟩
                                  refine r_iload_n S dX7_step_378 rfl (lv_at hl 2 rfl) ?_
                                  refine r_if_ne (tgt := 392) S dX7_step_379 (by decide) (fun c5572 => ?_) (fun c5572 => ?_)
                                  ·
                                    exact r_vret S hr hlk X5558 ⟨I5559, F5560, (RT_odd (A := f180.toInt.toNat) (i := f5173.toInt.toNat) (le := i5159.toInt) (di := i5161.toInt) x5177 (RB_eq hB (F5560 1 1 (by simp [fz])) (F5560 1 2 (by simp [fz])) (fun j => F5560 2 j (by simp [fz]))) ⟨by omega, by omega, x184, fun _ => by omega⟩ (by omega) (by omega) (fun _ => by omega) (by omega) (by omega) (by omega) (by have q := congrArg Int32.toInt ((M5557.2 1 3 (Or.inr (by decide))).trans z5169); omega) (by have q := congrArg Int32.toInt M5557.1; omega))⟩ dX7_step_392
                                  ·
                                    exfalso; omega
                                ·
                                  have r5573 : R (1) (7) i5159 := ⟨by omega, by omega⟩
                                  refine r_aload_n S dX7_step_370 rfl (lv_at hl 1 rfl) ?_
                                  refine r_iconst S dX7_step_371 (by decide) (fun v5574 z5575 => ?_)
                                  have r5576 := R_eq z5575
                                  refine r_put (K := 1) (ty := .int) S X5558 (Nat.le_of_ble_eq_true rfl) rfl lk7_31_7 (fun _ => ⟨_, rfl, Nat.le_of_ble_eq_true rfl, rfl⟩) (fun _ _ _ h => by cases h; exact ⟨rfl, rfl⟩) rfl rfl dX7_step_372 (fun t5577 H lc M5578 X5579 => ?_)
                                  have I5580 := Inv_mu I5559 M5578 (show Rg (kd 1) 5 v5574 from (R_of (lo := 0) (hi := 4) r5576 rfl))
                                  have F5581 : Fr [(1, 3), (1, 4), (1, 5), (1, 7), (1, 8)] [201] τ t5577 := Fr_mu F5560 M5578 (by decide)
                                  refine r_goto (tgt := 392) S dX7_step_375 (by decide) ?_
                                  exact r_vret S hr hlk X5579 ⟨I5580, F5581, (RT_word (A := f180.toInt.toNat) (i := f5173.toInt.toNat) (le := i5159.toInt) (di := i5161.toInt) (nu := f5170.toInt) (by rw [(qof_of (k := 1) (fun j => ((M5578.2 201 j (Or.inl (by decide))).trans ((M5557.2 201 j (Or.inl (by decide))).trans rfl))) 6)]; exact x5177) (RB_eq hB (F5581 1 1 (by simp [fz])) (F5581 1 2 (by simp [fz])) (fun j => F5581 2 j (by simp [fz]))) ⟨by omega, by omega, x184, fun _ => by omega⟩ (by omega) (by omega) (fun _ => by omega) (by omega) (by omega) (by have q := congrArg Int32.toInt ((M5578.2 1 3 (Or.inr (by decide))).trans ((M5557.2 1 3 (Or.inr (by decide))).trans z5169)); omega) (by have q := congrArg Int32.toInt ((M5578.2 1 4 (Or.inr (by decide))).trans ((M5557.2 1 4 (Or.inr (by decide))).trans z5175)); omega) (by have q := congrArg Int32.toInt M5578.1; omega))⟩ dX7_step_392
                            ·
                              have r5582 : R (0) (0) i5159 := ⟨by omega, by omega⟩
                              refine r_iload_n S dX7_step_255 rfl (lv_at hl 3 rfl) ?_
                              refine r_if_ne (tgt := 360) S dX7_step_256 (by decide) (fun c5583 => ?_) (fun c5583 => ?_)
                              ·
                                have r5584 : R (1) (940) i5161 := ⟨by omega, by omega⟩
                                refine r_iload_n S dX7_step_360 rfl (lv_at hl 3 rfl) ?_
                                refine r_if_ne (tgt := 378) S dX7_step_361 (by decide) (fun c5585 => ?_) (fun c5585 => ?_)
                                ·
                                  refine r_iload_n S dX7_step_378 rfl (lv_at hl 2 rfl) ?_
                                  refine r_if_ne (tgt := 392) S dX7_step_379 (by decide) (fun c5586 => ?_) (fun c5586 => ?_)
                                  ·
                                    exfalso; omega
                                  ·
                                    refine r_iload_n S dX7_step_382 rfl (lv_at hl 3 rfl) ?_
                                    refine r_iconst S dX7_step_383 (by decide) (fun v5587 z5588 => ?_)
                                    have r5589 := R_eq z5588
                                    refine r_icmp_gt (tgt := 392) S dX7_step_384 (by decide) (fun c5590 => ?_) (fun c5590 => ?_)
                                    ·
                                      have r5591 : R (3) (940) i5161 := ⟨by omega, by omega⟩
                                      exact r_vret S hr hlk X5558 ⟨I5559, F5560, (RT_odd (A := f180.toInt.toNat) (i := f5173.toInt.toNat) (le := i5159.toInt) (di := i5161.toInt) x5177 (RB_eq hB (F5560 1 1 (by simp [fz])) (F5560 1 2 (by simp [fz])) (fun j => F5560 2 j (by simp [fz]))) ⟨by omega, by omega, x184, fun _ => by omega⟩ (by omega) (by omega) (fun _ => by omega) (by omega) (by omega) (by omega) (by have q := congrArg Int32.toInt ((M5557.2 1 3 (Or.inr (by decide))).trans z5169); omega) (by have q := congrArg Int32.toInt M5557.1; omega))⟩ dX7_step_392
                                    ·
                                      have r5592 : R (1) (2) i5161 := ⟨by omega, by omega⟩
                                      refine r_aload_n S dX7_step_387 rfl (lv_at hl 1 rfl) ?_
                                      refine r_iconst S dX7_step_388 (by decide) (fun v5593 z5594 => ?_)
                                      have r5595 := R_eq z5594
                                      refine r_put (K := 1) (ty := .int) S X5558 (Nat.le_of_ble_eq_true rfl) rfl lk7_31_7 (fun _ => ⟨_, rfl, Nat.le_of_ble_eq_true rfl, rfl⟩) (fun _ _ _ h => by cases h; exact ⟨rfl, rfl⟩) rfl rfl dX7_step_389 (fun t5596 H lc M5597 X5598 => ?_)
                                      have I5599 := Inv_mu I5559 M5597 (show Rg (kd 1) 5 v5593 from (R_of (lo := 0) (hi := 4) r5595 rfl))
                                      have F5600 : Fr [(1, 3), (1, 4), (1, 5), (1, 7), (1, 8)] [201] τ t5596 := Fr_mu F5560 M5597 (by decide)
                                      exact r_vret S hr hlk X5598 ⟨I5599, F5600, (RT_nbr (A := f180.toInt.toNat) (i := f5173.toInt.toNat) (le := i5159.toInt) (di := i5161.toInt) (sp := (qof t5163 1 6).toInt) (by rw [((M5597.2 1 7 (Or.inr (by decide))).trans ((M5557.2 1 7 (Or.inr (by decide))).trans z5172))]; exact x5177) (RB_eq hB (F5600 1 1 (by simp [fz])) (F5600 1 2 (by simp [fz])) (fun j => F5600 2 j (by simp [fz]))) ⟨by omega, by omega, x184, fun _ => by omega⟩ (by omega) (by omega) (fun _ => by omega) (by omega) (by omega) (by have q := congrArg Int32.toInt ((M5597.2 1 3 (Or.inr (by decide))).trans ((M5557.2 1 3 (Or.inr (by decide))).trans z5169)); omega) (by have q := congrArg Int32.toInt ((M5597.2 1 4 (Or.inr (by decide))).trans ((M5557.2 1 4 (Or.inr (by decide))).trans z5175)); omega) (by have q := congrArg Int32.toInt M5597.1; omega))⟩ dX7_step_392
                                ·
                                  exfalso; omega
                              ·
                                have r5601 : R (0) (0) i5161 := ⟨by omega, by omega⟩
                                refine r_aload_n S dX7_step_259 rfl (lv_at hl 1 rfl) ?_
                                refine r_aload_n S dX7_step_260 rfl (lv_at hl 1 rfl) ?_
                                refine r_get (K := 1) (v := .ref (G.2.2.2.1 2)) S X5558 (Nat.le_of_ble_eq_true rfl) rfl lk7_9_7 (fun _ => ⟨_, rfl, rfl⟩) dX7_step_261 ?_
                                refine r_aload_n S dX7_step_264 rfl (lv_at hl 1 rfl) ?_
                                refine r_geti (K := 1) S X5558 (Nat.le_of_ble_eq_true rfl) rfl lk7_28_7 (fun _ => ⟨_, rfl, rfl⟩) ((M5557.2 1 3 (Or.inr (by decide))).trans z5169) dX7_step_265 ?_
                                refine r_aldn (n := 940) (K := 2) S X5558 (Nat.le_of_ble_eq_true rfl) rfl (fun _ => rfl) (ix_of r215 rfl) dX7_step_268 (fun v5602 z5603 => ?_)
                                have r5604 : R (0) (255) v5602 := rd I5559 rfl z5603
                                have hb5605 : bb f180.toInt.toNat = v5602.toInt := RB_at hB (fun j => F5560 2 j (by simp [fz])) z5603 ⟨by omega, by omega⟩
                                refine r_put (K := 1) (ty := .int) S X5558 (Nat.le_of_ble_eq_true rfl) rfl lk7_43_7 (fun _ => ⟨_, rfl, Nat.le_of_ble_eq_true rfl, rfl⟩) (fun _ _ _ h => by cases h; exact ⟨rfl, rfl⟩) rfl rfl dX7_step_269 (fun t5606 H lc M5607 X5608 => ?_)
                                have I5609 := Inv_mu I5559 M5607 (R_any v5602)
                                have F5610 : Fr [(1, 3), (1, 4), (1, 5), (1, 7), (1, 8)] [201] τ t5606 := Fr_mu F5560 M5607 (by decide)
                                refine r_aload_n S dX7_step_272 rfl (lv_at hl 1 rfl) ?_
                                refine r_aload_n S dX7_step_273 rfl (lv_at hl 1 rfl) ?_
                                refine r_geti (K := 1) S X5608 (Nat.le_of_ble_eq_true rfl) rfl lk7_28_7 (fun _ => ⟨_, rfl, rfl⟩) ((M5607.2 1 3 (Or.inr (by decide))).trans ((M5557.2 1 3 (Or.inr (by decide))).trans z5169)) dX7_step_274 ?_
                                refine r_iconst S dX7_step_277 (by decide) (fun v5611 z5612 => ?_)
                                have r5613 := R_eq z5612
                                refine r_iadd S dX7_step_278 (fun v5614 z5615 => ?_)
                                obtain ⟨e5616, r5617⟩ := i_add (lo := 1) (hi := 900) z5615 r215 r5613 rfl
                                refine r_put (K := 1) (ty := .int) S X5608 (Nat.le_of_ble_eq_true rfl) rfl lk7_22_7 (fun _ => ⟨_, rfl, Nat.le_of_ble_eq_true rfl, rfl⟩) (fun _ _ _ h => by cases h; exact ⟨rfl, rfl⟩) rfl rfl dX7_step_279 (fun t5618 H lc M5619 X5620 => ?_)
                                have I5621 := Inv_mu I5609 M5619 (show Rg (kd 1) 4 v5614 from (R_of (lo := 0) (hi := 940) r5617 rfl))
                                have F5622 : Fr [(1, 3), (1, 4), (1, 5), (1, 7), (1, 8)] [201] τ t5618 := Fr_mu F5610 M5619 (by decide)
                                refine r_aload_n S dX7_step_282 rfl (lv_at hl 1 rfl) ?_
                                refine r_geti (K := 1) S X5620 (Nat.le_of_ble_eq_true rfl) rfl lk7_43_7 (fun _ => ⟨_, rfl, rfl⟩) ((M5619.2 1 8 (Or.inr (by decide))).trans M5607.1) dX7_step_283 ?_
                                refine r_bipush S dX7_step_286 (by decide) (fun v5623 z5624 => ?_)
                                have r5625 := R_eq z5624
                                refine r_icmp_eq (tgt := 309) S dX7_step_288 (by decide) (fun c5626 => ?_) (fun c5626 => ?_)
                                ·
                                  have r5627 : R (60) (60) v5602 := ⟨by omega, by omega⟩
                                  refine r_iconst S dX7_step_309 (by decide) (fun v5628 z5629 => ?_)
                                  have r5630 := R_eq z5629
                                  refine r_goto (tgt := 314) S dX7_step_310 (by decide) ?_
                                  refine r_istore (lv' := [(4, .int v5628), (0, .ref (G.2.2.2.1 1)), (2, .int i5159), (3, .int i5161)]) S dX7_step_314 hl (by decide) rfl (fun ls hl => ?_)
                                  refine r_aload_n S dX7_step_316 rfl (lv_at hl 1 rfl) ?_
                                  refine r_iload S dX7_step_317 (lv_at hl 0 rfl) ?_
                                  refine r_if_ne (tgt := 349) S dX7_step_319 (by decide) (fun c5631 => ?_) (fun c5631 => ?_)
                                  ·
                                    refine r_iconst S dX7_step_349 (by decide) (fun v5632 z5633 => ?_)
                                    have r5634 := R_eq z5633
                                    refine r_goto (tgt := 354) S dX7_step_350 (by decide) ?_
                                    refine r_put (K := 1) (ty := .int) S X5620 (Nat.le_of_ble_eq_true rfl) rfl lk7_31_7 (fun _ => ⟨_, rfl, Nat.le_of_ble_eq_true rfl, rfl⟩) (fun _ _ _ h => by cases h; exact ⟨rfl, rfl⟩) rfl rfl dX7_step_354 (fun t5635 H lc M5636 X5637 => ?_)
                                    have I5638 := Inv_mu I5621 M5636 (show Rg (kd 1) 5 v5632 from (R_of (lo := 0) (hi := 4) r5634 rfl))
                                    have F5639 : Fr [(1, 3), (1, 4), (1, 5), (1, 7), (1, 8)] [201] τ t5635 := Fr_mu F5622 M5636 (by decide)
                                    refine r_goto (tgt := 392) S dX7_step_357 (by decide) ?_
                                    exact r_vret S hr hlk X5637 ⟨I5638, F5639, (RT_sign (A := f180.toInt.toNat) (RB_eq hB (F5639 1 1 (by simp [fz])) (F5639 1 2 (by simp [fz])) (fun j => F5639 2 j (by simp [fz]))) ⟨by omega, by omega, x184, fun _ => by omega⟩ (by omega) (by omega) (by rw [show f180.toInt.toNat = f5173.toInt.toNat by omega, hb5364]; omega) (by omega) (by have q := congrArg Int32.toInt ((M5636.2 1 3 (Or.inr (by decide))).trans ((M5619.2 1 3 (Or.inr (by decide))).trans ((M5607.2 1 3 (Or.inr (by decide))).trans ((M5557.2 1 3 (Or.inr (by decide))).trans z5169)))); omega) (by have q := congrArg Int32.toInt ((M5636.2 1 4 (Or.inr (by decide))).trans M5619.1); omega) (by have q := congrArg Int32.toInt M5636.1; omega) (by have q := congrArg Int32.toInt ((M5636.2 1 8 (Or.inr (by decide))).trans ((M5619.2 1 8 (Or.inr (by decide))).trans M5607.1)); omega))⟩ dX7_step_392
                                  ·
                                    exfalso; omega
                                ·
                                  refine r_aload_n S dX7_step_291 rfl (lv_at hl 1 rfl) ?_
                                  refine r_geti (K := 1) S X5620 (Nat.le_of_ble_eq_true rfl) rfl lk7_43_7 (fun _ => ⟨_, rfl, rfl⟩) ((M5619.2 1 8 (Or.inr (by decide))).trans M5607.1) dX7_step_292 ?_
                                  refine r_bipush S dX7_step_295 (by decide) (fun v5640 z5641 => ?_)
                                  have r5642 := R_eq z5641
                                  refine r_icmp_eq (tgt := 309) S dX7_step_297 (by decide) (fun c5643 => ?_) (fun c5643 => ?_)
                                  ·
                                    have r5644 : R (61) (61) v5602 := ⟨by omega, by omega⟩
                                    refine r_iconst S dX7_step_309 (by decide) (fun v5645 z5646 => ?_)
                                    have r5647 := R_eq z5646
                                    refine r_goto (tgt := 314) S dX7_step_310 (by decide) ?_
                                    refine r_istore (lv' := [(4, .int v5645), (0, .ref (G.2.2.2.1 1)), (2, .int i5159), (3, .int i5161)]) S dX7_step_314 hl (by decide) rfl (fun ls hl => ?_)
                                    refine r_aload_n S dX7_step_316 rfl (lv_at hl 1 rfl) ?_
                                    refine r_iload S dX7_step_317 (lv_at hl 0 rfl) ?_
                                    refine r_if_ne (tgt := 349) S dX7_step_319 (by decide) (fun c5648 => ?_) (fun c5648 => ?_)
                                    ·
                                      refine r_iconst S dX7_step_349 (by decide) (fun v5649 z5650 => ?_)
                                      have r5651 := R_eq z5650
                                      refine r_goto (tgt := 354) S dX7_step_350 (by decide) ?_
                                      refine r_put (K := 1) (ty := .int) S X5620 (Nat.le_of_ble_eq_true rfl) rfl lk7_31_7 (fun _ => ⟨_, rfl, Nat.le_of_ble_eq_true rfl, rfl⟩) (fun _ _ _ h => by cases h; exact ⟨rfl, rfl⟩) rfl rfl dX7_step_354 (fun t5652 H lc M5653 X5654 => ?_)
                                      have I5655 := Inv_mu I5621 M5653 (show Rg (kd 1) 5 v5649 from (R_of (lo := 0) (hi := 4) r5651 rfl))
                                      have F5656 : Fr [(1, 3), (1, 4), (1, 5), (1, 7), (1, 8)] [201] τ t5652 := Fr_mu F5622 M5653 (by decide)
                                      refine r_goto (tgt := 392) S dX7_step_357 (by decide) ?_
                                      exact r_vret S hr hlk X5654 ⟨I5655, F5656, (RT_sign (A := f180.toInt.toNat) (RB_eq hB (F5656 1 1 (by simp [fz])) (F5656 1 2 (by simp [fz])) (fun j => F5656 2 j (by simp [fz]))) ⟨by omega, by omega, x184, fun _ => by omega⟩ (by omega) (by omega) (by rw [show f180.toInt.toNat = f5173.toInt.toNat by omega, hb5364]; omega) (by omega) (by have q := congrArg Int32.toInt ((M5653.2 1 3 (Or.inr (by decide))).trans ((M5619.2 1 3 (Or.inr (by decide))).trans ((M5607.2 1 3 (Or.inr (by decide))).trans ((M5557.2 1 3 (Or.inr (by decide))).trans z5169)))); omega) (by have q := congrArg Int32.toInt ((M5653.2 1 4 (Or.inr (by decide))).trans M5619.1); omega) (by have q := congrArg Int32.toInt M5653.1; omega) (by have q := congrArg Int32.toInt ((M5653.2 1 8 (Or.inr (by decide))).trans ((M5619.2 1 8 (Or.inr (by decide))).trans M5607.1)); omega))⟩ dX7_step_392
                                    ·
                                      exfalso; omega
                                  ·
                                    refine r_aload_n S dX7_step_300 rfl (lv_at hl 1 rfl) ?_
                                    refine r_geti (K := 1) S X5620 (Nat.le_of_ble_eq_true rfl) rfl lk7_43_7 (fun _ => ⟨_, rfl, rfl⟩) ((M5619.2 1 8 (Or.inr (by decide))).trans M5607.1) dX7_step_301 ?_
                                    refine r_bipush S dX7_step_304 (by decide) (fun v5657 z5658 => ?_)
                                    have r5659 := R_eq z5658
                                    refine r_icmp_ne (tgt := 313) S dX7_step_306 (by decide) (fun c5660 => ?_) (fun c5660 => ?_)
                                    ·
                                      refine r_iconst S dX7_step_313 (by decide) (fun v5661 z5662 => ?_)
                                      have r5663 := R_eq z5662
                                      refine r_istore (lv' := [(4, .int v5661), (0, .ref (G.2.2.2.1 1)), (2, .int i5159), (3, .int i5161)]) S dX7_step_314 hl (by decide) rfl (fun ls hl => ?_)
                                      refine r_aload_n S dX7_step_316 rfl (lv_at hl 1 rfl) ?_
                                      refine r_iload S dX7_step_317 (lv_at hl 0 rfl) ?_
                                      refine r_if_ne (tgt := 349) S dX7_step_319 (by decide) (fun c5664 => ?_) (fun c5664 => ?_)
                                      ·
                                        exfalso; omega
                                      ·
                                        refine r_aload_n S dX7_step_322 rfl (lv_at hl 1 rfl) ?_
                                        refine r_geti (K := 1) S X5620 (Nat.le_of_ble_eq_true rfl) rfl lk7_43_7 (fun _ => ⟨_, rfl, rfl⟩) ((M5619.2 1 8 (Or.inr (by decide))).trans M5607.1) dX7_step_323 ?_
                                        refine r_bipush S dX7_step_326 (by decide) (fun v5665 z5666 => ?_)
                                        have r5667 := R_eq z5666
                                        refine r_icmp_eq (tgt := 349) S dX7_step_328 (by decide) (fun c5668 => ?_) (fun c5668 => ?_)
                                        ·
                                          have r5669 : R (59) (59) v5602 := ⟨by omega, by omega⟩
                                          refine r_iconst S dX7_step_349 (by decide) (fun v5670 z5671 => ?_)
                                          have r5672 := R_eq z5671
                                          refine r_goto (tgt := 354) S dX7_step_350 (by decide) ?_
                                          refine r_put (K := 1) (ty := .int) S X5620 (Nat.le_of_ble_eq_true rfl) rfl lk7_31_7 (fun _ => ⟨_, rfl, Nat.le_of_ble_eq_true rfl, rfl⟩) (fun _ _ _ h => by cases h; exact ⟨rfl, rfl⟩) rfl rfl dX7_step_354 (fun t5673 H lc M5674 X5675 => ?_)
                                          have I5676 := Inv_mu I5621 M5674 (show Rg (kd 1) 5 v5670 from (R_of (lo := 0) (hi := 4) r5672 rfl))
                                          have F5677 : Fr [(1, 3), (1, 4), (1, 5), (1, 7), (1, 8)] [201] τ t5673 := Fr_mu F5622 M5674 (by decide)
                                          refine r_goto (tgt := 392) S dX7_step_357 (by decide) ?_
                                          exact r_vret S hr hlk X5675 ⟨I5676, F5677, (RT_sign (A := f180.toInt.toNat) (RB_eq hB (F5677 1 1 (by simp [fz])) (F5677 1 2 (by simp [fz])) (fun j => F5677 2 j (by simp [fz]))) ⟨by omega, by omega, x184, fun _ => by omega⟩ (by omega) (by omega) (by rw [show f180.toInt.toNat = f5173.toInt.toNat by omega, hb5364]; omega) (by omega) (by have q := congrArg Int32.toInt ((M5674.2 1 3 (Or.inr (by decide))).trans ((M5619.2 1 3 (Or.inr (by decide))).trans ((M5607.2 1 3 (Or.inr (by decide))).trans ((M5557.2 1 3 (Or.inr (by decide))).trans z5169)))); omega) (by have q := congrArg Int32.toInt ((M5674.2 1 4 (Or.inr (by decide))).trans M5619.1); omega) (by have q := congrArg Int32.toInt M5674.1; omega) (by have q := congrArg Int32.toInt ((M5674.2 1 8 (Or.inr (by decide))).trans ((M5619.2 1 8 (Or.inr (by decide))).trans M5607.1)); omega))⟩ dX7_step_392
                                        ·
                                          refine r_aload_n S dX7_step_331 rfl (lv_at hl 1 rfl) ?_
                                          refine r_geti (K := 1) S X5620 (Nat.le_of_ble_eq_true rfl) rfl lk7_43_7 (fun _ => ⟨_, rfl, rfl⟩) ((M5619.2 1 8 (Or.inr (by decide))).trans M5607.1) dX7_step_332 ?_
                                          refine r_bipush S dX7_step_335 (by decide) (fun v5678 z5679 => ?_)
                                          have r5680 := R_eq z5679
                                          refine r_icmp_eq (tgt := 349) S dX7_step_337 (by decide) (fun c5681 => ?_) (fun c5681 => ?_)
                                          ·
                                            have r5682 : R (40) (40) v5602 := ⟨by omega, by omega⟩
                                            refine r_iconst S dX7_step_349 (by decide) (fun v5683 z5684 => ?_)
                                            have r5685 := R_eq z5684
                                            refine r_goto (tgt := 354) S dX7_step_350 (by decide) ?_
                                            refine r_put (K := 1) (ty := .int) S X5620 (Nat.le_of_ble_eq_true rfl) rfl lk7_31_7 (fun _ => ⟨_, rfl, Nat.le_of_ble_eq_true rfl, rfl⟩) (fun _ _ _ h => by cases h; exact ⟨rfl, rfl⟩) rfl rfl dX7_step_354 (fun t5686 H lc M5687 X5688 => ?_)
                                            have I5689 := Inv_mu I5621 M5687 (show Rg (kd 1) 5 v5683 from (R_of (lo := 0) (hi := 4) r5685 rfl))
                                            have F5690 : Fr [(1, 3), (1, 4), (1, 5), (1, 7), (1, 8)] [201] τ t5686 := Fr_mu F5622 M5687 (by decide)
                                            refine r_goto (tgt := 392) S dX7_step_357 (by decide) ?_
                                            exact r_vret S hr hlk X5688 ⟨I5689, F5690, (RT_sign (A := f180.toInt.toNat) (RB_eq hB (F5690 1 1 (by simp [fz])) (F5690 1 2 (by simp [fz])) (fun j => F5690 2 j (by simp [fz]))) ⟨by omega, by omega, x184, fun _ => by omega⟩ (by omega) (by omega) (by rw [show f180.toInt.toNat = f5173.toInt.toNat by omega, hb5364]; omega) (by omega) (by have q := congrArg Int32.toInt ((M5687.2 1 3 (Or.inr (by decide))).trans ((M5619.2 1 3 (Or.inr (by decide))).trans ((M5607.2 1 3 (Or.inr (by decide))).trans ((M5557.2 1 3 (Or.inr (by decide))).trans z5169)))); omega) (by have q := congrArg Int32.toInt ((M5687.2 1 4 (Or.inr (by decide))).trans M5619.1); omega) (by have q := congrArg Int32.toInt M5687.1; omega) (by have q := congrArg Int32.toInt ((M5687.2 1 8 (Or.inr (by decide))).trans ((M5619.2 1 8 (Or.inr (by decide))).trans M5607.1)); omega))⟩ dX7_step_392
                                          ·
                                            refine r_aload_n S dX7_step_340 rfl (lv_at hl 1 rfl) ?_
                                            refine r_geti (K := 1) S X5620 (Nat.le_of_ble_eq_true rfl) rfl lk7_43_7 (fun _ => ⟨_, rfl, rfl⟩) ((M5619.2 1 8 (Or.inr (by decide))).trans M5607.1) dX7_step_341 ?_
                                            refine r_bipush S dX7_step_344 (by decide) (fun v5691 z5692 => ?_)
                                            have r5693 := R_eq z5692
                                            refine r_icmp_ne (tgt := 353) S dX7_step_346 (by decide) (fun c5694 => ?_) (fun c5694 => ?_)
                                            ·
                                              refine r_iconst S dX7_step_353 (by decide) (fun v5695 z5696 => ?_)
                                              have r5697 := R_eq z5696
                                              refine r_put (K := 1) (ty := .int) S X5620 (Nat.le_of_ble_eq_true rfl) rfl lk7_31_7 (fun _ => ⟨_, rfl, Nat.le_of_ble_eq_true rfl, rfl⟩) (fun _ _ _ h => by cases h; exact ⟨rfl, rfl⟩) rfl rfl dX7_step_354 (fun t5698 H lc M5699 X5700 => ?_)
                                              have I5701 := Inv_mu I5621 M5699 (show Rg (kd 1) 5 v5695 from (R_of (lo := 0) (hi := 4) r5697 rfl))
                                              have F5702 : Fr [(1, 3), (1, 4), (1, 5), (1, 7), (1, 8)] [201] τ t5698 := Fr_mu F5622 M5699 (by decide)
                                              refine r_goto (tgt := 392) S dX7_step_357 (by decide) ?_
                                              exact r_vret S hr hlk X5700 ⟨I5701, F5702, (RT_none (A := f180.toInt.toNat) (RB_eq hB (F5702 1 1 (by simp [fz])) (F5702 1 2 (by simp [fz])) (fun j => F5702 2 j (by simp [fz]))) ⟨by omega, by omega, x184, fun _ => by omega⟩ (by omega) (by omega) (by rw [show f180.toInt.toNat = f5173.toInt.toNat by omega, hb5364]; omega) (by omega) (by have q := congrArg Int32.toInt ((M5699.2 1 3 (Or.inr (by decide))).trans ((M5619.2 1 3 (Or.inr (by decide))).trans ((M5607.2 1 3 (Or.inr (by decide))).trans ((M5557.2 1 3 (Or.inr (by decide))).trans z5169)))); omega) (by have q := congrArg Int32.toInt M5699.1; omega))⟩ dX7_step_392
                                            ·
                                              have r5703 : R (41) (41) v5602 := ⟨by omega, by omega⟩
                                              refine r_iconst S dX7_step_349 (by decide) (fun v5704 z5705 => ?_)
                                              have r5706 := R_eq z5705
                                              refine r_goto (tgt := 354) S dX7_step_350 (by decide) ?_
                                              refine r_put (K := 1) (ty := .int) S X5620 (Nat.le_of_ble_eq_true rfl) rfl lk7_31_7 (fun _ => ⟨_, rfl, Nat.le_of_ble_eq_true rfl, rfl⟩) (fun _ _ _ h => by cases h; exact ⟨rfl, rfl⟩) rfl rfl dX7_step_354 (fun t5707 H lc M5708 X5709 => ?_)
                                              have I5710 := Inv_mu I5621 M5708 (show Rg (kd 1) 5 v5704 from (R_of (lo := 0) (hi := 4) r5706 rfl))
                                              have F5711 : Fr [(1, 3), (1, 4), (1, 5), (1, 7), (1, 8)] [201] τ t5707 := Fr_mu F5622 M5708 (by decide)
                                              refine r_goto (tgt := 392) S dX7_step_357 (by decide) ?_
                                              exact r_vret S hr hlk X5709 ⟨I5710, F5711, (RT_sign (A := f180.toInt.toNat) (RB_eq hB (F5711 1 1 (by simp [fz])) (F5711 1 2 (by simp [fz])) (fun j => F5711 2 j (by simp [fz]))) ⟨by omega, by omega, x184, fun _ => by omega⟩ (by omega) (by omega) (by rw [show f180.toInt.toNat = f5173.toInt.toNat by omega, hb5364]; omega) (by omega) (by have q := congrArg Int32.toInt ((M5708.2 1 3 (Or.inr (by decide))).trans ((M5619.2 1 3 (Or.inr (by decide))).trans ((M5607.2 1 3 (Or.inr (by decide))).trans ((M5557.2 1 3 (Or.inr (by decide))).trans z5169)))); omega) (by have q := congrArg Int32.toInt ((M5708.2 1 4 (Or.inr (by decide))).trans M5619.1); omega) (by have q := congrArg Int32.toInt M5708.1; omega) (by have q := congrArg Int32.toInt ((M5708.2 1 8 (Or.inr (by decide))).trans ((M5619.2 1 8 (Or.inr (by decide))).trans M5607.1)); omega))⟩ dX7_step_392
                                    ·
                                      have r5712 : R (62) (62) v5602 := ⟨by omega, by omega⟩
                                      refine r_iconst S dX7_step_309 (by decide) (fun v5713 z5714 => ?_)
                                      have r5715 := R_eq z5714
                                      refine r_goto (tgt := 314) S dX7_step_310 (by decide) ?_
                                      refine r_istore (lv' := [(4, .int v5713), (0, .ref (G.2.2.2.1 1)), (2, .int i5159), (3, .int i5161)]) S dX7_step_314 hl (by decide) rfl (fun ls hl => ?_)
                                      refine r_aload_n S dX7_step_316 rfl (lv_at hl 1 rfl) ?_
                                      refine r_iload S dX7_step_317 (lv_at hl 0 rfl) ?_
                                      refine r_if_ne (tgt := 349) S dX7_step_319 (by decide) (fun c5716 => ?_) (fun c5716 => ?_)
                                      ·
                                        refine r_iconst S dX7_step_349 (by decide) (fun v5717 z5718 => ?_)
                                        have r5719 := R_eq z5718
                                        refine r_goto (tgt := 354) S dX7_step_350 (by decide) ?_
                                        refine r_put (K := 1) (ty := .int) S X5620 (Nat.le_of_ble_eq_true rfl) rfl lk7_31_7 (fun _ => ⟨_, rfl, Nat.le_of_ble_eq_true rfl, rfl⟩) (fun _ _ _ h => by cases h; exact ⟨rfl, rfl⟩) rfl rfl dX7_step_354 (fun t5720 H lc M5721 X5722 => ?_)
                                        have I5723 := Inv_mu I5621 M5721 (show Rg (kd 1) 5 v5717 from (R_of (lo := 0) (hi := 4) r5719 rfl))
                                        have F5724 : Fr [(1, 3), (1, 4), (1, 5), (1, 7), (1, 8)] [201] τ t5720 := Fr_mu F5622 M5721 (by decide)
                                        refine r_goto (tgt := 392) S dX7_step_357 (by decide) ?_
                                        exact r_vret S hr hlk X5722 ⟨I5723, F5724, (RT_sign (A := f180.toInt.toNat) (RB_eq hB (F5724 1 1 (by simp [fz])) (F5724 1 2 (by simp [fz])) (fun j => F5724 2 j (by simp [fz]))) ⟨by omega, by omega, x184, fun _ => by omega⟩ (by omega) (by omega) (by rw [show f180.toInt.toNat = f5173.toInt.toNat by omega, hb5364]; omega) (by omega) (by have q := congrArg Int32.toInt ((M5721.2 1 3 (Or.inr (by decide))).trans ((M5619.2 1 3 (Or.inr (by decide))).trans ((M5607.2 1 3 (Or.inr (by decide))).trans ((M5557.2 1 3 (Or.inr (by decide))).trans z5169)))); omega) (by have q := congrArg Int32.toInt ((M5721.2 1 4 (Or.inr (by decide))).trans M5619.1); omega) (by have q := congrArg Int32.toInt M5721.1; omega) (by have q := congrArg Int32.toInt ((M5721.2 1 8 (Or.inr (by decide))).trans ((M5619.2 1 8 (Or.inr (by decide))).trans M5607.1)); omega))⟩ dX7_step_392
                                      ·
                                        exfalso; omega
                          ·
                            have r5725 : R (48) (57) v5361 := ⟨by omega, by omega⟩
                            refine r_iinc (k := 3) S dX7_step_213 hl rfl (by decide) (by decide) (fun v5726 d5727 ls z5728 z5729 hl => ?_)
                            obtain ⟨e5730, r5731⟩ := i_add (lo := 1) (hi := 941) z5728 r5185 (R_eq z5729) rfl
                            have hl : lv_has ls 5 [(3, .int v5726), (4, .int v5361), (0, .ref (G.2.2.2.1 1)), (2, .int i5159)] := hl
                            refine r_aload_n S dX7_step_216 rfl (lv_at hl 2 rfl) ?_
                            refine r_aload_n S dX7_step_217 rfl (lv_at hl 2 rfl) ?_
                            refine r_geti (K := 1) S X5166 (Nat.le_of_ble_eq_true rfl) rfl lk7_38_7 (fun _ => ⟨_, rfl, rfl⟩) z5172 dX7_step_218 ?_
                            refine r_bipush S dX7_step_221 (by decide) (fun v5732 z5733 => ?_)
                            have r5734 := R_eq z5733
                            refine r_imul S dX7_step_223 (fun v5735 z5736 => ?_)
                            have r5737 := R_any v5735
                            refine r_iload S dX7_step_224 (lv_at hl 1 rfl) ?_
                            refine r_bipush S dX7_step_226 (by decide) (fun v5738 z5739 => ?_)
                            have r5740 := R_eq z5739
                            refine r_isub S dX7_step_228 (fun v5741 z5742 => ?_)
                            obtain ⟨e5743, r5744⟩ := i_sub (lo := 0) (hi := 9) z5742 r5725 r5740 rfl
                            refine r_iadd S dX7_step_229 (fun v5745 z5746 => ?_)
                            have r5747 := R_any v5745
                            refine r_put (K := 1) (ty := .int) S X5166 (Nat.le_of_ble_eq_true rfl) rfl lk7_38_7 (fun _ => ⟨_, rfl, Nat.le_of_ble_eq_true rfl, rfl⟩) (fun _ _ _ h => by cases h; exact ⟨rfl, rfl⟩) rfl rfl dX7_step_230 (fun t5748 H lc M5749 X5750 => ?_)
                            have I5751 := Inv_mu I5164 M5749 (R_any v5745)
                            have F5752 : Fr [(1, 3), (1, 4), (1, 5), (1, 7), (1, 8)] [201] τ t5748 := Fr_mu F5165 M5749 (by decide)
                            refine r_aload_n S dX7_step_233 rfl (lv_at hl 2 rfl) ?_
                            refine r_dup S dX7_step_234 rfl ?_
                            refine r_geti (K := 1) S X5750 (Nat.le_of_ble_eq_true rfl) rfl lk7_22_7 (fun _ => ⟨_, rfl, rfl⟩) ((M5749.2 1 4 (Or.inr (by decide))).trans z5175) dX7_step_235 ?_
                            refine r_iconst S dX7_step_238 (by decide) (fun v5753 z5754 => ?_)
                            have r5755 := R_eq z5754
                            refine r_iadd S dX7_step_239 (fun v5756 z5757 => ?_)
                            obtain ⟨e5758, r5759⟩ := i_add (lo := 1) (hi := 940) z5757 r5359 r5755 rfl
                            refine r_put (K := 1) (ty := .int) S X5750 (Nat.le_of_ble_eq_true rfl) rfl lk7_22_7 (fun _ => ⟨_, rfl, Nat.le_of_ble_eq_true rfl, rfl⟩) (fun _ _ _ h => by cases h; exact ⟨rfl, rfl⟩) rfl rfl dX7_step_240 (fun t5760 H lc M5761 X5762 => ?_)
                            have I5763 := Inv_mu I5751 M5761 (show Rg (kd 1) 4 v5756 from (R_of (lo := 0) (hi := 940) r5759 rfl))
                            have F5764 : Fr [(1, 3), (1, 4), (1, 5), (1, 7), (1, 8)] [201] τ t5760 := Fr_mu F5752 M5761 (by decide)
                            refine r_goto (tgt := 136) S dX7_step_243 (by decide) ?_
                            exact ih5179 t5760 _ _ _ i5159 v5726 v5745 v5756 X5762 I5763 F5764 (R_of r5184 rfl) (R_of r5731 rfl) ((M5761.2 1 1 (Or.inr (by decide))).trans ((M5749.2 1 1 (Or.inr (by decide))).trans z5167)) ((M5761.2 1 2 (Or.inr (by decide))).trans ((M5749.2 1 2 (Or.inr (by decide))).trans z5168)) ((M5761.2 1 3 (Or.inr (by decide))).trans ((M5749.2 1 3 (Or.inr (by decide))).trans z5169)) ((M5761.2 1 7 (Or.inr (by decide))).trans M5749.1) ⟨by omega, by omega⟩ M5761.1 ⟨by omega, by omega⟩ (LX_digq (c := v5732) x5177 hb5364 (by omega) (by omega) z5736 z5746 (by omega) (qof_of (k := 1) (fun j => ((M5761.2 201 j (Or.inl (by decide))).trans ((M5749.2 201 j (Or.inl (by decide))).trans rfl))) 6) (by omega) (by omega) (by omega)) (by omega) (lv_sub hl [2, 3, 0] rfl) (by omega)
                      ·
                        have r5765 : R (97) (255) v5361 := ⟨by omega, by omega⟩
                        refine r_iload S dX7_step_165 (lv_at hl 0 rfl) ?_
                        refine r_bipush S dX7_step_167 (by decide) (fun v5766 z5767 => ?_)
                        have r5768 := R_eq z5767
                        refine r_icmp_gt (tgt := 199) S dX7_step_169 (by decide) (fun c5769 => ?_) (fun c5769 => ?_)
                        ·
                          have r5770 : R (123) (255) v5361 := ⟨by omega, by omega⟩
                          refine r_iload S dX7_step_199 (lv_at hl 0 rfl) ?_
                          refine r_bipush S dX7_step_201 (by decide) (fun v5771 z5772 => ?_)
                          have r5773 := R_eq z5772
                          refine r_icmp_lt (tgt := 246) S dX7_step_203 (by decide) (fun c5774 => ?_) (fun c5774 => ?_)
                          ·
                            exfalso; omega
                          ·
                            refine r_iload S dX7_step_206 (lv_at hl 0 rfl) ?_
                            refine r_bipush S dX7_step_208 (by decide) (fun v5775 z5776 => ?_)
                            have r5777 := R_eq z5776
                            refine r_icmp_gt (tgt := 246) S dX7_step_210 (by decide) (fun c5778 => ?_) (fun c5778 => ?_)
                            ·
                              refine r_aload_n S dX7_step_246 rfl (lv_at hl 1 rfl) ?_
                              refine r_iconst S dX7_step_247 (by decide) (fun v5779 z5780 => ?_)
                              have r5781 := R_eq z5780
                              refine r_put (K := 1) (ty := .int) S X5166 (Nat.le_of_ble_eq_true rfl) rfl lk7_31_7 (fun _ => ⟨_, rfl, Nat.le_of_ble_eq_true rfl, rfl⟩) (fun _ _ _ h => by cases h; exact ⟨rfl, rfl⟩) rfl rfl dX7_step_248 (fun t5782 H lc M5783 X5784 => ?_)
                              have I5785 := Inv_mu I5164 M5783 (show Rg (kd 1) 5 v5779 from (R_of (lo := 0) (hi := 4) r5781 rfl))
                              have F5786 : Fr [(1, 3), (1, 4), (1, 5), (1, 7), (1, 8)] [201] τ t5782 := Fr_mu F5165 M5783 (by decide)
                              refine r_iload_n S dX7_step_251 rfl (lv_at hl 2 rfl) ?_
                              refine r_if_ne (tgt := 360) S dX7_step_252 (by decide) (fun c5787 => ?_) (fun c5787 => ?_)
                              ·
                                have r5788 : R (1) (940) i5159 := ⟨by omega, by omega⟩
                                refine r_iload_n S dX7_step_360 rfl (lv_at hl 3 rfl) ?_
                                refine r_if_ne (tgt := 378) S dX7_step_361 (by decide) (fun c5789 => ?_) (fun c5789 => ?_)
                                ·
                                  have r5790 : R (1) (940) i5161 := ⟨by omega, by omega⟩
                                  refine r_iload_n S dX7_step_378 rfl (lv_at hl 2 rfl) ?_
                                  refine r_if_ne (tgt := 392) S dX7_step_379 (by decide) (fun c5791 => ?_) (fun c5791 => ?_)
                                  ·
                                    exact r_vret S hr hlk X5784 ⟨I5785, F5786, (RT_odd (A := f180.toInt.toNat) (i := f5173.toInt.toNat) (le := i5159.toInt) (di := i5161.toInt) x5177 (RB_eq hB (F5786 1 1 (by simp [fz])) (F5786 1 2 (by simp [fz])) (fun j => F5786 2 j (by simp [fz]))) ⟨by omega, by omega, x184, fun _ => by omega⟩ (by omega) (by omega) (fun _ => by omega) (by omega) (by omega) (by omega) (by have q := congrArg Int32.toInt ((M5783.2 1 3 (Or.inr (by decide))).trans z5169); omega) (by have q := congrArg Int32.toInt M5783.1; omega))⟩ dX7_step_392
                                  ·
                                    exfalso; omega
                                ·
                                  have r5792 : R (0) (0) i5161 := ⟨by omega, by omega⟩
                                  refine r_iload_n S dX7_step_364 rfl (lv_at hl 2 rfl) ?_
                                  refine r_bipush S dX7_step_365 (by decide) (fun v5793 z5794 => ?_)
                                  have r5795 := R_eq z5794
                                  refine r_icmp_gt (tgt := 378) S dX7_step_367 (by decide) (fun c5796 => ?_) (fun c5796 => ?_)
                                  ·
                                    have r5797 : R (8) (940) i5159 := ⟨by omega, by omega⟩
                                    refine r_iload_n S dX7_step_378 rfl (lv_at hl 2 rfl) ?_
                                    refine r_if_ne (tgt := 392) S dX7_step_379 (by decide) (fun c5798 => ?_) (fun c5798 => ?_)
                                    ·
                                      exact r_vret S hr hlk X5784 ⟨I5785, F5786, (RT_odd (A := f180.toInt.toNat) (i := f5173.toInt.toNat) (le := i5159.toInt) (di := i5161.toInt) x5177 (RB_eq hB (F5786 1 1 (by simp [fz])) (F5786 1 2 (by simp [fz])) (fun j => F5786 2 j (by simp [fz]))) ⟨by omega, by omega, x184, fun _ => by omega⟩ (by omega) (by omega) (fun _ => by omega) (by omega) (by omega) (by omega) (by have q := congrArg Int32.toInt ((M5783.2 1 3 (Or.inr (by decide))).trans z5169); omega) (by have q := congrArg Int32.toInt M5783.1; omega))⟩ dX7_step_392
                                    ·
                                      exfalso; omega
                                  ·
                                    have r5799 : R (1) (7) i5159 := ⟨by omega, by omega⟩
                                    refine r_aload_n S dX7_step_370 rfl (lv_at hl 1 rfl) ?_
                                    refine r_iconst S dX7_step_371 (by decide) (fun v5800 z5801 => ?_)
                                    have r5802 := R_eq z5801
                                    refine r_put (K := 1) (ty := .int) S X5784 (Nat.le_of_ble_eq_true rfl) rfl lk7_31_7 (fun _ => ⟨_, rfl, Nat.le_of_ble_eq_true rfl, rfl⟩) (fun _ _ _ h => by cases h; exact ⟨rfl, rfl⟩) rfl rfl dX7_step_372 (fun t5803 H lc M5804 X5805 => ?_)
                                    have I5806 := Inv_mu I5785 M5804 (show Rg (kd 1) 5 v5800 from (R_of (lo := 0) (hi := 4) r5802 rfl))
                                    have F5807 : Fr [(1, 3), (1, 4), (1, 5), (1, 7), (1, 8)] [201] τ t5803 := Fr_mu F5786 M5804 (by decide)
                                    refine r_goto (tgt := 392) S dX7_step_375 (by decide) ?_
                                    exact r_vret S hr hlk X5805 ⟨I5806, F5807, (RT_word (A := f180.toInt.toNat) (i := f5173.toInt.toNat) (le := i5159.toInt) (di := i5161.toInt) (nu := f5170.toInt) (by rw [(qof_of (k := 1) (fun j => ((M5804.2 201 j (Or.inl (by decide))).trans ((M5783.2 201 j (Or.inl (by decide))).trans rfl))) 6)]; exact x5177) (RB_eq hB (F5807 1 1 (by simp [fz])) (F5807 1 2 (by simp [fz])) (fun j => F5807 2 j (by simp [fz]))) ⟨by omega, by omega, x184, fun _ => by omega⟩ (by omega) (by omega) (fun _ => by omega) (by omega) (by omega) (by have q := congrArg Int32.toInt ((M5804.2 1 3 (Or.inr (by decide))).trans ((M5783.2 1 3 (Or.inr (by decide))).trans z5169)); omega) (by have q := congrArg Int32.toInt ((M5804.2 1 4 (Or.inr (by decide))).trans ((M5783.2 1 4 (Or.inr (by decide))).trans z5175)); omega) (by have q := congrArg Int32.toInt M5804.1; omega))⟩ dX7_step_392
                              ·
                                have r5808 : R (0) (0) i5159 := ⟨by omega, by omega⟩
                                refine r_iload_n S dX7_step_255 rfl (lv_at hl 3 rfl) ?_
                                refine r_if_ne (tgt := 360) S dX7_step_256 (by decide) (fun c5809 => ?_) (fun c5809 => ?_)
                                ·
                                  have r5810 : R (1) (940) i5161 := ⟨by omega, by omega⟩
                                  refine r_iload_n S dX7_step_360 rfl (lv_at hl 3 rfl) ?_
                                  refine r_if_ne (tgt := 378) S dX7_step_361 (by decide) (fun c5811 => ?_) (fun c5811 => ?_)
                                  ·
                                    refine r_iload_n S dX7_step_378 rfl (lv_at hl 2 rfl) ?_
                                    refine r_if_ne (tgt := 392) S dX7_step_379 (by decide) (fun c5812 => ?_) (fun c5812 => ?_)
                                    ·
                                      exfalso; omega
                                    ·
                                      refine r_iload_n S dX7_step_382 rfl (lv_at hl 3 rfl) ?_
                                      refine r_iconst S dX7_step_383 (by decide) (fun v5813 z5814 => ?_)
                                      have r5815 := R_eq z5814
                                      refine r_icmp_gt (tgt := 392) S dX7_step_384 (by decide) (fun c5816 => ?_) (fun c5816 => ?_)
                                      ·
                                        have r5817 : R (3) (940) i5161 := ⟨by omega, by omega⟩
                                        exact r_vret S hr hlk X5784 ⟨I5785, F5786, (RT_odd (A := f180.toInt.toNat) (i := f5173.toInt.toNat) (le := i5159.toInt) (di := i5161.toInt) x5177 (RB_eq hB (F5786 1 1 (by simp [fz])) (F5786 1 2 (by simp [fz])) (fun j => F5786 2 j (by simp [fz]))) ⟨by omega, by omega, x184, fun _ => by omega⟩ (by omega) (by omega) (fun _ => by omega) (by omega) (by omega) (by omega) (by have q := congrArg Int32.toInt ((M5783.2 1 3 (Or.inr (by decide))).trans z5169); omega) (by have q := congrArg Int32.toInt M5783.1; omega))⟩ dX7_step_392
                                      ·
                                        have r5818 : R (1) (2) i5161 := ⟨by omega, by omega⟩
                                        refine r_aload_n S dX7_step_387 rfl (lv_at hl 1 rfl) ?_
                                        refine r_iconst S dX7_step_388 (by decide) (fun v5819 z5820 => ?_)
                                        have r5821 := R_eq z5820
                                        refine r_put (K := 1) (ty := .int) S X5784 (Nat.le_of_ble_eq_true rfl) rfl lk7_31_7 (fun _ => ⟨_, rfl, Nat.le_of_ble_eq_true rfl, rfl⟩) (fun _ _ _ h => by cases h; exact ⟨rfl, rfl⟩) rfl rfl dX7_step_389 (fun t5822 H lc M5823 X5824 => ?_)
                                        have I5825 := Inv_mu I5785 M5823 (show Rg (kd 1) 5 v5819 from (R_of (lo := 0) (hi := 4) r5821 rfl))
                                        have F5826 : Fr [(1, 3), (1, 4), (1, 5), (1, 7), (1, 8)] [201] τ t5822 := Fr_mu F5786 M5823 (by decide)
                                        exact r_vret S hr hlk X5824 ⟨I5825, F5826, (RT_nbr (A := f180.toInt.toNat) (i := f5173.toInt.toNat) (le := i5159.toInt) (di := i5161.toInt) (sp := (qof t5163 1 6).toInt) (by rw [((M5823.2 1 7 (Or.inr (by decide))).trans ((M5783.2 1 7 (Or.inr (by decide))).trans z5172))]; exact x5177) (RB_eq hB (F5826 1 1 (by simp [fz])) (F5826 1 2 (by simp [fz])) (fun j => F5826 2 j (by simp [fz]))) ⟨by omega, by omega, x184, fun _ => by omega⟩ (by omega) (by omega) (fun _ => by omega) (by omega) (by omega) (by have q := congrArg Int32.toInt ((M5823.2 1 3 (Or.inr (by decide))).trans ((M5783.2 1 3 (Or.inr (by decide))).trans z5169)); omega) (by have q := congrArg Int32.toInt ((M5823.2 1 4 (Or.inr (by decide))).trans ((M5783.2 1 4 (Or.inr (by decide))).trans z5175)); omega) (by have q := congrArg Int32.toInt M5823.1; omega))⟩ dX7_step_392
                                  ·
                                    exfalso; omega
                                ·
                                  have r5827 : R (0) (0) i5161 := ⟨by omega, by omega⟩
                                  refine r_aload_n S dX7_step_259 rfl (lv_at hl 1 rfl) ?_
                                  refine r_aload_n S dX7_step_260 rfl (lv_at hl 1 rfl) ?_
                                  refine r_get (K := 1) (v := .ref (G.2.2.2.1 2)) S X5784 (Nat.le_of_ble_eq_true rfl) rfl lk7_9_7 (fun _ => ⟨_, rfl, rfl⟩) dX7_step_261 ?_
                                  refine r_aload_n S dX7_step_264 rfl (lv_at hl 1 rfl) ?_
                                  refine r_geti (K := 1) S X5784 (Nat.le_of_ble_eq_true rfl) rfl lk7_28_7 (fun _ => ⟨_, rfl, rfl⟩) ((M5783.2 1 3 (Or.inr (by decide))).trans z5169) dX7_step_265 ?_
                                  refine r_aldn (n := 940) (K := 2) S X5784 (Nat.le_of_ble_eq_true rfl) rfl (fun _ => rfl) (ix_of r215 rfl) dX7_step_268 (fun v5828 z5829 => ?_)
                                  have r5830 : R (0) (255) v5828 := rd I5785 rfl z5829
                                  have hb5831 : bb f180.toInt.toNat = v5828.toInt := RB_at hB (fun j => F5786 2 j (by simp [fz])) z5829 ⟨by omega, by omega⟩
                                  refine r_put (K := 1) (ty := .int) S X5784 (Nat.le_of_ble_eq_true rfl) rfl lk7_43_7 (fun _ => ⟨_, rfl, Nat.le_of_ble_eq_true rfl, rfl⟩) (fun _ _ _ h => by cases h; exact ⟨rfl, rfl⟩) rfl rfl dX7_step_269 (fun t5832 H lc M5833 X5834 => ?_)
                                  have I5835 := Inv_mu I5785 M5833 (R_any v5828)
                                  have F5836 : Fr [(1, 3), (1, 4), (1, 5), (1, 7), (1, 8)] [201] τ t5832 := Fr_mu F5786 M5833 (by decide)
                                  refine r_aload_n S dX7_step_272 rfl (lv_at hl 1 rfl) ?_
                                  refine r_aload_n S dX7_step_273 rfl (lv_at hl 1 rfl) ?_
                                  refine r_geti (K := 1) S X5834 (Nat.le_of_ble_eq_true rfl) rfl lk7_28_7 (fun _ => ⟨_, rfl, rfl⟩) ((M5833.2 1 3 (Or.inr (by decide))).trans ((M5783.2 1 3 (Or.inr (by decide))).trans z5169)) dX7_step_274 ?_
                                  refine r_iconst S dX7_step_277 (by decide) (fun v5837 z5838 => ?_)
                                  have r5839 := R_eq z5838
                                  refine r_iadd S dX7_step_278 (fun v5840 z5841 => ?_)
                                  obtain ⟨e5842, r5843⟩ := i_add (lo := 1) (hi := 900) z5841 r215 r5839 rfl
                                  refine r_put (K := 1) (ty := .int) S X5834 (Nat.le_of_ble_eq_true rfl) rfl lk7_22_7 (fun _ => ⟨_, rfl, Nat.le_of_ble_eq_true rfl, rfl⟩) (fun _ _ _ h => by cases h; exact ⟨rfl, rfl⟩) rfl rfl dX7_step_279 (fun t5844 H lc M5845 X5846 => ?_)
                                  have I5847 := Inv_mu I5835 M5845 (show Rg (kd 1) 4 v5840 from (R_of (lo := 0) (hi := 940) r5843 rfl))
                                  have F5848 : Fr [(1, 3), (1, 4), (1, 5), (1, 7), (1, 8)] [201] τ t5844 := Fr_mu F5836 M5845 (by decide)
                                  refine r_aload_n S dX7_step_282 rfl (lv_at hl 1 rfl) ?_
                                  refine r_geti (K := 1) S X5846 (Nat.le_of_ble_eq_true rfl) rfl lk7_43_7 (fun _ => ⟨_, rfl, rfl⟩) ((M5845.2 1 8 (Or.inr (by decide))).trans M5833.1) dX7_step_283 ?_
                                  refine r_bipush S dX7_step_286 (by decide) (fun v5849 z5850 => ?_)
                                  have r5851 := R_eq z5850
                                  refine r_icmp_eq (tgt := 309) S dX7_step_288 (by decide) (fun c5852 => ?_) (fun c5852 => ?_)
                                  ·
                                    have r5853 : R (60) (60) v5828 := ⟨by omega, by omega⟩
                                    refine r_iconst S dX7_step_309 (by decide) (fun v5854 z5855 => ?_)
                                    have r5856 := R_eq z5855
                                    refine r_goto (tgt := 314) S dX7_step_310 (by decide) ?_
                                    refine r_istore (lv' := [(4, .int v5854), (0, .ref (G.2.2.2.1 1)), (2, .int i5159), (3, .int i5161)]) S dX7_step_314 hl (by decide) rfl (fun ls hl => ?_)
                                    refine r_aload_n S dX7_step_316 rfl (lv_at hl 1 rfl) ?_
                                    refine r_iload S dX7_step_317 (lv_at hl 0 rfl) ?_
                                    refine r_if_ne (tgt := 349) S dX7_step_319 (by decide) (fun c5857 => ?_) (fun c5857 => ?_)
                                    ·
                                      refine r_iconst S dX7_step_349 (by decide) (fun v5858 z5859 => ?_)
                                      have r5860 := R_eq z5859
                                      refine r_goto (tgt := 354) S dX7_step_350 (by decide) ?_
                                      refine r_put (K := 1) (ty := .int) S X5846 (Nat.le_of_ble_eq_true rfl) rfl lk7_31_7 (fun _ => ⟨_, rfl, Nat.le_of_ble_eq_true rfl, rfl⟩) (fun _ _ _ h => by cases h; exact ⟨rfl, rfl⟩) rfl rfl dX7_step_354 (fun t5861 H lc M5862 X5863 => ?_)
                                      have I5864 := Inv_mu I5847 M5862 (show Rg (kd 1) 5 v5858 from (R_of (lo := 0) (hi := 4) r5860 rfl))
                                      have F5865 : Fr [(1, 3), (1, 4), (1, 5), (1, 7), (1, 8)] [201] τ t5861 := Fr_mu F5848 M5862 (by decide)
                                      refine r_goto (tgt := 392) S dX7_step_357 (by decide) ?_
                                      exact r_vret S hr hlk X5863 ⟨I5864, F5865, (RT_sign (A := f180.toInt.toNat) (RB_eq hB (F5865 1 1 (by simp [fz])) (F5865 1 2 (by simp [fz])) (fun j => F5865 2 j (by simp [fz]))) ⟨by omega, by omega, x184, fun _ => by omega⟩ (by omega) (by omega) (by rw [show f180.toInt.toNat = f5173.toInt.toNat by omega, hb5364]; omega) (by omega) (by have q := congrArg Int32.toInt ((M5862.2 1 3 (Or.inr (by decide))).trans ((M5845.2 1 3 (Or.inr (by decide))).trans ((M5833.2 1 3 (Or.inr (by decide))).trans ((M5783.2 1 3 (Or.inr (by decide))).trans z5169)))); omega) (by have q := congrArg Int32.toInt ((M5862.2 1 4 (Or.inr (by decide))).trans M5845.1); omega) (by have q := congrArg Int32.toInt M5862.1; omega) (by have q := congrArg Int32.toInt ((M5862.2 1 8 (Or.inr (by decide))).trans ((M5845.2 1 8 (Or.inr (by decide))).trans M5833.1)); omega))⟩ dX7_step_392
                                    ·
                                      exfalso; omega
                                  ·
                                    refine r_aload_n S dX7_step_291 rfl (lv_at hl 1 rfl) ?_
                                    refine r_geti (K := 1) S X5846 (Nat.le_of_ble_eq_true rfl) rfl lk7_43_7 (fun _ => ⟨_, rfl, rfl⟩) ((M5845.2 1 8 (Or.inr (by decide))).trans M5833.1) dX7_step_292 ?_
                                    refine r_bipush S dX7_step_295 (by decide) (fun v5866 z5867 => ?_)
                                    have r5868 := R_eq z5867
                                    refine r_icmp_eq (tgt := 309) S dX7_step_297 (by decide) (fun c5869 => ?_) (fun c5869 => ?_)
                                    ·
                                      have r5870 : R (61) (61) v5828 := ⟨by omega, by omega⟩
                                      refine r_iconst S dX7_step_309 (by decide) (fun v5871 z5872 => ?_)
                                      have r5873 := R_eq z5872
                                      refine r_goto (tgt := 314) S dX7_step_310 (by decide) ?_
                                      refine r_istore (lv' := [(4, .int v5871), (0, .ref (G.2.2.2.1 1)), (2, .int i5159), (3, .int i5161)]) S dX7_step_314 hl (by decide) rfl (fun ls hl => ?_)
                                      refine r_aload_n S dX7_step_316 rfl (lv_at hl 1 rfl) ?_
                                      refine r_iload S dX7_step_317 (lv_at hl 0 rfl) ?_
                                      refine r_if_ne (tgt := 349) S dX7_step_319 (by decide) (fun c5874 => ?_) (fun c5874 => ?_)
                                      ·
                                        refine r_iconst S dX7_step_349 (by decide) (fun v5875 z5876 => ?_)
                                        have r5877 := R_eq z5876
                                        refine r_goto (tgt := 354) S dX7_step_350 (by decide) ?_
                                        refine r_put (K := 1) (ty := .int) S X5846 (Nat.le_of_ble_eq_true rfl) rfl lk7_31_7 (fun _ => ⟨_, rfl, Nat.le_of_ble_eq_true rfl, rfl⟩) (fun _ _ _ h => by cases h; exact ⟨rfl, rfl⟩) rfl rfl dX7_step_354 (fun t5878 H lc M5879 X5880 => ?_)
                                        have I5881 := Inv_mu I5847 M5879 (show Rg (kd 1) 5 v5875 from (R_of (lo := 0) (hi := 4) r5877 rfl))
                                        have F5882 : Fr [(1, 3), (1, 4), (1, 5), (1, 7), (1, 8)] [201] τ t5878 := Fr_mu F5848 M5879 (by decide)
                                        refine r_goto (tgt := 392) S dX7_step_357 (by decide) ?_
                                        exact r_vret S hr hlk X5880 ⟨I5881, F5882, (RT_sign (A := f180.toInt.toNat) (RB_eq hB (F5882 1 1 (by simp [fz])) (F5882 1 2 (by simp [fz])) (fun j => F5882 2 j (by simp [fz]))) ⟨by omega, by omega, x184, fun _ => by omega⟩ (by omega) (by omega) (by rw [show f180.toInt.toNat = f5173.toInt.toNat by omega, hb5364]; omega) (by omega) (by have q := congrArg Int32.toInt ((M5879.2 1 3 (Or.inr (by decide))).trans ((M5845.2 1 3 (Or.inr (by decide))).trans ((M5833.2 1 3 (Or.inr (by decide))).trans ((M5783.2 1 3 (Or.inr (by decide))).trans z5169)))); omega) (by have q := congrArg Int32.toInt ((M5879.2 1 4 (Or.inr (by decide))).trans M5845.1); omega) (by have q := congrArg Int32.toInt M5879.1; omega) (by have q := congrArg Int32.toInt ((M5879.2 1 8 (Or.inr (by decide))).trans ((M5845.2 1 8 (Or.inr (by decide))).trans M5833.1)); omega))⟩ dX7_step_392
                                      ·
                                        exfalso; omega
                                    ·
                                      refine r_aload_n S dX7_step_300 rfl (lv_at hl 1 rfl) ?_
                                      refine r_geti (K := 1) S X5846 (Nat.le_of_ble_eq_true rfl) rfl lk7_43_7 (fun _ => ⟨_, rfl, rfl⟩) ((M5845.2 1 8 (Or.inr (by decide))).trans M5833.1) dX7_step_301 ?_
                                      refine r_bipush S dX7_step_304 (by decide) (fun v5883 z5884 => ?_)
                                      have r5885 := R_eq z5884
                                      refine r_icmp_ne (tgt := 313) S dX7_step_306 (by decide) (fun c5886 => ?_) (fun c5886 => ?_)
                                      ·
                                        refine r_iconst S dX7_step_313 (by decide) (fun v5887 z5888 => ?_)
                                        have r5889 := R_eq z5888
                                        refine r_istore (lv' := [(4, .int v5887), (0, .ref (G.2.2.2.1 1)), (2, .int i5159), (3, .int i5161)]) S dX7_step_314 hl (by decide) rfl (fun ls hl => ?_)
                                        refine r_aload_n S dX7_step_316 rfl (lv_at hl 1 rfl) ?_
                                        refine r_iload S dX7_step_317 (lv_at hl 0 rfl) ?_
                                        refine r_if_ne (tgt := 349) S dX7_step_319 (by decide) (fun c5890 => ?_) (fun c5890 => ?_)
                                        ·
                                          exfalso; omega
                                        ·
                                          refine r_aload_n S dX7_step_322 rfl (lv_at hl 1 rfl) ?_
                                          refine r_geti (K := 1) S X5846 (Nat.le_of_ble_eq_true rfl) rfl lk7_43_7 (fun _ => ⟨_, rfl, rfl⟩) ((M5845.2 1 8 (Or.inr (by decide))).trans M5833.1) dX7_step_323 ?_
                                          refine r_bipush S dX7_step_326 (by decide) (fun v5891 z5892 => ?_)
                                          have r5893 := R_eq z5892
                                          refine r_icmp_eq (tgt := 349) S dX7_step_328 (by decide) (fun c5894 => ?_) (fun c5894 => ?_)
                                          ·
                                            have r5895 : R (59) (59) v5828 := ⟨by omega, by omega⟩
                                            refine r_iconst S dX7_step_349 (by decide) (fun v5896 z5897 => ?_)
                                            have r5898 := R_eq z5897
                                            refine r_goto (tgt := 354) S dX7_step_350 (by decide) ?_
                                            refine r_put (K := 1) (ty := .int) S X5846 (Nat.le_of_ble_eq_true rfl) rfl lk7_31_7 (fun _ => ⟨_, rfl, Nat.le_of_ble_eq_true rfl, rfl⟩) (fun _ _ _ h => by cases h; exact ⟨rfl, rfl⟩) rfl rfl dX7_step_354 (fun t5899 H lc M5900 X5901 => ?_)
                                            have I5902 := Inv_mu I5847 M5900 (show Rg (kd 1) 5 v5896 from (R_of (lo := 0) (hi := 4) r5898 rfl))
                                            have F5903 : Fr [(1, 3), (1, 4), (1, 5), (1, 7), (1, 8)] [201] τ t5899 := Fr_mu F5848 M5900 (by decide)
                                            refine r_goto (tgt := 392) S dX7_step_357 (by decide) ?_
                                            exact r_vret S hr hlk X5901 ⟨I5902, F5903, (RT_sign (A := f180.toInt.toNat) (RB_eq hB (F5903 1 1 (by simp [fz])) (F5903 1 2 (by simp [fz])) (fun j => F5903 2 j (by simp [fz]))) ⟨by omega, by omega, x184, fun _ => by omega⟩ (by omega) (by omega) (by rw [show f180.toInt.toNat = f5173.toInt.toNat by omega, hb5364]; omega) (by omega) (by have q := congrArg Int32.toInt ((M5900.2 1 3 (Or.inr (by decide))).trans ((M5845.2 1 3 (Or.inr (by decide))).trans ((M5833.2 1 3 (Or.inr (by decide))).trans ((M5783.2 1 3 (Or.inr (by decide))).trans z5169)))); omega) (by have q := congrArg Int32.toInt ((M5900.2 1 4 (Or.inr (by decide))).trans M5845.1); omega) (by have q := congrArg Int32.toInt M5900.1; omega) (by have q := congrArg Int32.toInt ((M5900.2 1 8 (Or.inr (by decide))).trans ((M5845.2 1 8 (Or.inr (by decide))).trans M5833.1)); omega))⟩ dX7_step_392
                                          ·
                                            refine r_aload_n S dX7_step_331 rfl (lv_at hl 1 rfl) ?_
                                            refine r_geti (K := 1) S X5846 (Nat.le_of_ble_eq_true rfl) rfl lk7_43_7 (fun _ => ⟨_, rfl, rfl⟩) ((M5845.2 1 8 (Or.inr (by decide))).trans M5833.1) dX7_step_332 ?_
                                            refine r_bipush S dX7_step_335 (by decide) (fun v5904 z5905 => ?_)
                                            have r5906 := R_eq z5905
                                            refine r_icmp_eq (tgt := 349) S dX7_step_337 (by decide) (fun c5907 => ?_) (fun c5907 => ?_)
                                            ·
                                              have r5908 : R (40) (40) v5828 := ⟨by omega, by omega⟩
                                              refine r_iconst S dX7_step_349 (by decide) (fun v5909 z5910 => ?_)
                                              have r5911 := R_eq z5910
                                              refine r_goto (tgt := 354) S dX7_step_350 (by decide) ?_
                                              refine r_put (K := 1) (ty := .int) S X5846 (Nat.le_of_ble_eq_true rfl) rfl lk7_31_7 (fun _ => ⟨_, rfl, Nat.le_of_ble_eq_true rfl, rfl⟩) (fun _ _ _ h => by cases h; exact ⟨rfl, rfl⟩) rfl rfl dX7_step_354 (fun t5912 H lc M5913 X5914 => ?_)
                                              have I5915 := Inv_mu I5847 M5913 (show Rg (kd 1) 5 v5909 from (R_of (lo := 0) (hi := 4) r5911 rfl))
                                              have F5916 : Fr [(1, 3), (1, 4), (1, 5), (1, 7), (1, 8)] [201] τ t5912 := Fr_mu F5848 M5913 (by decide)
                                              refine r_goto (tgt := 392) S dX7_step_357 (by decide) ?_
                                              exact r_vret S hr hlk X5914 ⟨I5915, F5916, (RT_sign (A := f180.toInt.toNat) (RB_eq hB (F5916 1 1 (by simp [fz])) (F5916 1 2 (by simp [fz])) (fun j => F5916 2 j (by simp [fz]))) ⟨by omega, by omega, x184, fun _ => by omega⟩ (by omega) (by omega) (by rw [show f180.toInt.toNat = f5173.toInt.toNat by omega, hb5364]; omega) (by omega) (by have q := congrArg Int32.toInt ((M5913.2 1 3 (Or.inr (by decide))).trans ((M5845.2 1 3 (Or.inr (by decide))).trans ((M5833.2 1 3 (Or.inr (by decide))).trans ((M5783.2 1 3 (Or.inr (by decide))).trans z5169)))); omega) (by have q := congrArg Int32.toInt ((M5913.2 1 4 (Or.inr (by decide))).trans M5845.1); omega) (by have q := congrArg Int32.toInt M5913.1; omega) (by have q := congrArg Int32.toInt ((M5913.2 1 8 (Or.inr (by decide))).trans ((M5845.2 1 8 (Or.inr (by decide))).trans M5833.1)); omega))⟩ dX7_step_392
                                            ·
                                              refine r_aload_n S dX7_step_340 rfl (lv_at hl 1 rfl) ?_
                                              refine r_geti (K := 1) S X5846 (Nat.le_of_ble_eq_true rfl) rfl lk7_43_7 (fun _ => ⟨_, rfl, rfl⟩) ((M5845.2 1 8 (Or.inr (by decide))).trans M5833.1) dX7_step_341 ?_
                                              refine r_bipush S dX7_step_344 (by decide) (fun v5917 z5918 => ?_)
                                              have r5919 := R_eq z5918
                                              refine r_icmp_ne (tgt := 353) S dX7_step_346 (by decide) (fun c5920 => ?_) (fun c5920 => ?_)
                                              ·
                                                refine r_iconst S dX7_step_353 (by decide) (fun v5921 z5922 => ?_)
                                                have r5923 := R_eq z5922
                                                refine r_put (K := 1) (ty := .int) S X5846 (Nat.le_of_ble_eq_true rfl) rfl lk7_31_7 (fun _ => ⟨_, rfl, Nat.le_of_ble_eq_true rfl, rfl⟩) (fun _ _ _ h => by cases h; exact ⟨rfl, rfl⟩) rfl rfl dX7_step_354 (fun t5924 H lc M5925 X5926 => ?_)
                                                have I5927 := Inv_mu I5847 M5925 (show Rg (kd 1) 5 v5921 from (R_of (lo := 0) (hi := 4) r5923 rfl))
                                                have F5928 : Fr [(1, 3), (1, 4), (1, 5), (1, 7), (1, 8)] [201] τ t5924 := Fr_mu F5848 M5925 (by decide)
                                                refine r_goto (tgt := 392) S dX7_step_357 (by decide) ?_
                                                exact r_vret S hr hlk X5926 ⟨I5927, F5928, (RT_none (A := f180.toInt.toNat) (RB_eq hB (F5928 1 1 (by simp [fz])) (F5928 1 2 (by simp [fz])) (fun j => F5928 2 j (by simp [fz]))) ⟨by omega, by omega, x184, fun _ => by omega⟩ (by omega) (by omega) (by rw [show f180.toInt.toNat = f5173.toInt.toNat by omega, hb5364]; omega) (by omega) (by have q := congrArg Int32.toInt ((M5925.2 1 3 (Or.inr (by decide))).trans ((M5845.2 1 3 (Or.inr (by decide))).trans ((M5833.2 1 3 (Or.inr (by decide))).trans ((M5783.2 1 3 (Or.inr (by decide))).trans z5169)))); omega) (by have q := congrArg Int32.toInt M5925.1; omega))⟩ dX7_step_392
                                              ·
                                                have r5929 : R (41) (41) v5828 := ⟨by omega, by omega⟩
                                                refine r_iconst S dX7_step_349 (by decide) (fun v5930 z5931 => ?_)
                                                have r5932 := R_eq z5931
                                                refine r_goto (tgt := 354) S dX7_step_350 (by decide) ?_
                                                refine r_put (K := 1) (ty := .int) S X5846 (Nat.le_of_ble_eq_true rfl) rfl lk7_31_7 (fun _ => ⟨_, rfl, Nat.le_of_ble_eq_true rfl, rfl⟩) (fun _ _ _ h => by cases h; exact ⟨rfl, rfl⟩) rfl rfl dX7_step_354 (fun t5933 H lc M5934 X5935 => ?_)
                                                have I5936 := Inv_mu I5847 M5934 (show Rg (kd 1) 5 v5930 from (R_of (lo := 0) (hi := 4) r5932 rfl))
                                                have F5937 : Fr [(1, 3), (1, 4), (1, 5), (1, 7), (1, 8)] [201] τ t5933 := Fr_mu F5848 M5934 (by decide)
                                                refine r_goto (tgt := 392) S dX7_step_357 (by decide) ?_
                                                exact r_vret S hr hlk X5935 ⟨I5936, F5937, (RT_sign (A := f180.toInt.toNat) (RB_eq hB (F5937 1 1 (by simp [fz])) (F5937 1 2 (by simp [fz])) (fun j => F5937 2 j (by simp [fz]))) ⟨by omega, by omega, x184, fun _ => by omega⟩ (by omega) (by omega) (by rw [show f180.toInt.toNat = f5173.toInt.toNat by omega, hb5364]; omega) (by omega) (by have q := congrArg Int32.toInt ((M5934.2 1 3 (Or.inr (by decide))).trans ((M5845.2 1 3 (Or.inr (by decide))).trans ((M5833.2 1 3 (Or.inr (by decide))).trans ((M5783.2 1 3 (Or.inr (by decide))).trans z5169)))); omega) (by have q := congrArg Int32.toInt ((M5934.2 1 4 (Or.inr (by decide))).trans M5845.1); omega) (by have q := congrArg Int32.toInt M5934.1; omega) (by have q := congrArg Int32.toInt ((M5934.2 1 8 (Or.inr (by decide))).trans ((M5845.2 1 8 (Or.inr (by decide))).trans M5833.1)); omega))⟩ dX7_step_392
                                      ·
                                        have r5938 : R (62) (62) v5828 := ⟨by omega, by omega⟩
                                        refine r_iconst S dX7_step_309 (by decide) (fun v5939 z5940 => ?_)
                                        have r5941 := R_eq z5940
                                        refine r_goto (tgt := 314) S dX7_step_310 (by decide) ?_
                                        refine r_istore (lv' := [(4, .int v5939), (0, .ref (G.2.2.2.1 1)), (2, .int i5159), (3, .int i5161)]) S dX7_step_314 hl (by decide) rfl (fun ls hl => ?_)
                                        refine r_aload_n S dX7_step_316 rfl (lv_at hl 1 rfl) ?_
                                        refine r_iload S dX7_step_317 (lv_at hl 0 rfl) ?_
                                        refine r_if_ne (tgt := 349) S dX7_step_319 (by decide) (fun c5942 => ?_) (fun c5942 => ?_)
                                        ·
                                          refine r_iconst S dX7_step_349 (by decide) (fun v5943 z5944 => ?_)
                                          have r5945 := R_eq z5944
                                          refine r_goto (tgt := 354) S dX7_step_350 (by decide) ?_
                                          refine r_put (K := 1) (ty := .int) S X5846 (Nat.le_of_ble_eq_true rfl) rfl lk7_31_7 (fun _ => ⟨_, rfl, Nat.le_of_ble_eq_true rfl, rfl⟩) (fun _ _ _ h => by cases h; exact ⟨rfl, rfl⟩) rfl rfl dX7_step_354 (fun t5946 H lc M5947 X5948 => ?_)
                                          have I5949 := Inv_mu I5847 M5947 (show Rg (kd 1) 5 v5943 from (R_of (lo := 0) (hi := 4) r5945 rfl))
                                          have F5950 : Fr [(1, 3), (1, 4), (1, 5), (1, 7), (1, 8)] [201] τ t5946 := Fr_mu F5848 M5947 (by decide)
                                          refine r_goto (tgt := 392) S dX7_step_357 (by decide) ?_
                                          exact r_vret S hr hlk X5948 ⟨I5949, F5950, (RT_sign (A := f180.toInt.toNat) (RB_eq hB (F5950 1 1 (by simp [fz])) (F5950 1 2 (by simp [fz])) (fun j => F5950 2 j (by simp [fz]))) ⟨by omega, by omega, x184, fun _ => by omega⟩ (by omega) (by omega) (by rw [show f180.toInt.toNat = f5173.toInt.toNat by omega, hb5364]; omega) (by omega) (by have q := congrArg Int32.toInt ((M5947.2 1 3 (Or.inr (by decide))).trans ((M5845.2 1 3 (Or.inr (by decide))).trans ((M5833.2 1 3 (Or.inr (by decide))).trans ((M5783.2 1 3 (Or.inr (by decide))).trans z5169)))); omega) (by have q := congrArg Int32.toInt ((M5947.2 1 4 (Or.inr (by decide))).trans M5845.1); omega) (by have q := congrArg Int32.toInt M5947.1; omega) (by have q := congrArg Int32.toInt ((M5947.2 1 8 (Or.inr (by decide))).trans ((M5845.2 1 8 (Or.inr (by decide))).trans M5833.1)); omega))⟩ dX7_step_392
                                        ·
                                          exfalso; omega
                            ·
                              exfalso; omega
                        ·
                          have r5951 : R (97) (122) v5361 := ⟨by omega, by omega⟩
                          refine r_iinc (k := 2) S dX7_step_172 hl rfl (by decide) (by decide) (fun v5952 d5953 ls z5954 z5955 hl => ?_)
                          obtain ⟨e5956, r5957⟩ := i_add (lo := 1) (hi := 941) z5954 r5184 (R_eq z5955) rfl
                          have hl : lv_has ls 5 [(2, .int v5952), (4, .int v5361), (0, .ref (G.2.2.2.1 1)), (3, .int i5161)] := hl
                          refine r_aload_n S dX7_step_175 rfl (lv_at hl 2 rfl) ?_
                          refine r_aload_n S dX7_step_176 rfl (lv_at hl 2 rfl) ?_
                          refine r_getJ (K := 1) S X5166 (Nat.le_of_ble_eq_true rfl) rfl lk7_34_7 (fun _ => ⟨_, rfl, rfl⟩) dX7_step_177 (fun j5958 z5959 => ?_)
                          refine lv_ldc2 S.1.1 S.1.2.1 S.1.2.2.2.1 (S.1.2.2.2.2 _ kw6) dX7_step_180 ?_
                          refine lv_topl (fun j5960 z5961 => ?_)
                          refine lv_lmul S.1.1 S.1.2.1 dX7_step_183 ?_
                          refine lv_topl (fun j5962 z5963 => ?_)
                          refine r_iload S dX7_step_184 (lv_at hl 1 rfl) ?_
                          refine r_bipush S dX7_step_186 (by decide) (fun v5964 z5965 => ?_)
                          have r5966 := R_eq z5965
                          refine r_isub S dX7_step_188 (fun v5967 z5968 => ?_)
                          obtain ⟨e5969, r5970⟩ := i_sub (lo := 0) (hi := 25) z5968 r5951 r5966 rfl
                          refine r_iconst S dX7_step_189 (by decide) (fun v5971 z5972 => ?_)
                          have r5973 := R_eq z5972
                          refine r_iadd S dX7_step_190 (fun v5974 z5975 => ?_)
                          obtain ⟨e5976, r5977⟩ := i_add (lo := 1) (hi := 26) z5975 r5970 r5973 rfl
                          refine lv_i2l S.1.1 S.1.2.1 dX7_step_191 rfl ?_
                          refine lv_topl (fun j5978 z5979 => ?_)
                          refine lv_ladd S.1.1 S.1.2.1 dX7_step_192 ?_
                          refine lv_topl (fun j5980 z5981 => ?_)
                          refine r_putJ (K := 1) S X5166 (Nat.le_of_ble_eq_true rfl) rfl lk7_34_7 (fun _ => ⟨_, rfl, Nat.le_of_ble_eq_true rfl, rfl⟩) (fun _ _ _ h => by cases h; exact ⟨rfl, rfl⟩) dX7_step_193 (fun t5983 H lc M5984 X5982 => ?_)
                          have I5985 := Inv_ml I5164 M5984
                          have F5986 : Fr [(1, 3), (1, 4), (1, 5), (1, 7), (1, 8)] [201] τ t5983 := Fr_ml F5165 M5984 (by decide)
                          refine r_goto (tgt := 233) S dX7_step_196 (by decide) ?_
                          refine r_aload_n S dX7_step_233 rfl (lv_at hl 2 rfl) ?_
                          refine r_dup S dX7_step_234 rfl ?_
                          refine r_geti (K := 1) S X5982 (Nat.le_of_ble_eq_true rfl) rfl lk7_22_7 (fun _ => ⟨_, rfl, rfl⟩) ((M5984.1 1 (by decide) 4).trans z5175) dX7_step_235 ?_
                          refine r_iconst S dX7_step_238 (by decide) (fun v5987 z5988 => ?_)
                          have r5989 := R_eq z5988
                          refine r_iadd S dX7_step_239 (fun v5990 z5991 => ?_)
                          obtain ⟨e5992, r5993⟩ := i_add (lo := 1) (hi := 940) z5991 r5359 r5989 rfl
                          refine r_put (K := 1) (ty := .int) S X5982 (Nat.le_of_ble_eq_true rfl) rfl lk7_22_7 (fun _ => ⟨_, rfl, Nat.le_of_ble_eq_true rfl, rfl⟩) (fun _ _ _ h => by cases h; exact ⟨rfl, rfl⟩) rfl rfl dX7_step_240 (fun t5994 H lc M5995 X5996 => ?_)
                          have I5997 := Inv_mu I5985 M5995 (show Rg (kd 1) 4 v5990 from (R_of (lo := 0) (hi := 940) r5993 rfl))
                          have F5998 : Fr [(1, 3), (1, 4), (1, 5), (1, 7), (1, 8)] [201] τ t5994 := Fr_mu F5986 M5995 (by decide)
                          refine r_goto (tgt := 136) S dX7_step_243 (by decide) ?_
                          exact ih5179 t5994 _ _ _ v5952 i5161 f5170 v5990 X5996 I5997 F5998 (R_of r5957 rfl) (R_of r5185 rfl) ((M5995.2 1 1 (Or.inr (by decide))).trans ((M5984.1 1 (by decide) 1).trans z5167)) ((M5995.2 1 2 (Or.inr (by decide))).trans ((M5984.1 1 (by decide) 2).trans z5168)) ((M5995.2 1 3 (Or.inr (by decide))).trans ((M5984.1 1 (by decide) 3).trans z5169)) ((M5995.2 1 7 (Or.inr (by decide))).trans ((M5984.1 1 (by decide) 7).trans z5172)) ⟨by omega, by omega⟩ M5995.1 ⟨by omega, by omega⟩ (LX_lowq (s := j5958) (r := j5980) (x := v5974) x5177 hb5364 (by omega) (by omega) z5959 (by rw [z5981, z5963, z5979, z5961]) ((qof_of (k := 1) (fun j => ((M5995.2 201 j (Or.inl (by decide))).trans rfl)) 6).trans (Ml_upd M5984)) (by omega) (by omega) (by omega)) (by omega) (lv_sub hl [2, 0, 3] rfl) (by omega)
                exact L5176 _ t268 _ _ _ v247 v250 v260 f180 X270 I271 F272 (R_of r249 rfl) (R_of r252 rfl) ((M269.2 1 1 (Or.inr (by decide))).trans ((M264.2 1 1 (Or.inr (by decide))).trans ((M257.1 1 (by decide) 1).trans z177))) ((M269.2 1 2 (Or.inr (by decide))).trans ((M264.2 1 2 (Or.inr (by decide))).trans ((M257.1 1 (by decide) 2).trans z178))) ((M269.2 1 3 (Or.inr (by decide))).trans ((M264.2 1 3 (Or.inr (by decide))).trans ((M257.1 1 (by decide) 3).trans z182))) ((M269.2 1 7 (Or.inr (by decide))).trans M264.1) ⟨by omega, by omega⟩ M269.1 ⟨by omega, by omega⟩ (LX_0q (by omega) (by omega) (by omega) ((qof_of (k := 1) (fun j => ((M269.2 201 j (Or.inl (by decide))).trans ((M264.2 201 j (Or.inl (by decide))).trans rfl))) 6).trans (Ml_upd M257)) z254) (by omega) (lv_sub hl [2, 1, 0] rfl) (Nat.lt_succ_self _)
              ·
                exfalso; omega
            ·
              have r6001 : R (10) (10) v238 := ⟨by omega, by omega⟩
              refine r_aload_n S dX7_step_67 rfl (lv_at hl 0 rfl) ?_
              refine r_dup S dX7_step_68 rfl ?_
              refine r_geti (K := 1) S X176 (Nat.le_of_ble_eq_true rfl) rfl lk7_28_7 (fun _ => ⟨_, rfl, rfl⟩) z182 dX7_step_69 ?_
              refine r_iconst S dX7_step_72 (by decide) (fun v6002 z6003 => ?_)
              have r6004 := R_eq z6003
              refine r_iadd S dX7_step_73 (fun v6005 z6006 => ?_)
              obtain ⟨e6007, r6008⟩ := i_add (lo := 1) (hi := 900) z6006 r215 r6004 rfl
              refine r_put (K := 1) (ty := .int) S X176 (Nat.le_of_ble_eq_true rfl) rfl lk7_28_7 (fun _ => ⟨_, rfl, Nat.le_of_ble_eq_true rfl, rfl⟩) (fun _ _ _ h => by cases h; exact ⟨rfl, rfl⟩) rfl rfl dX7_step_74 (fun t6009 H lc M6010 X6011 => ?_)
              have I6012 := Inv_mu I174 M6010 (show Rg (kd 1) 3 v6005 from (R_of (lo := 0) (hi := 940) r6008 rfl))
              have F6013 : Fr [(1, 3), (1, 4), (1, 5), (1, 7), (1, 8)] [201] τ t6009 := Fr_mu F175 M6010 (by decide)
              refine r_goto (tgt := 31) S dX7_step_77 (by decide) ?_
              exact ih186 t6009 _ _ _ v6005 X6011 I6012 F6013 ((M6010.2 1 1 (Or.inr (by decide))).trans z177) ((M6010.2 1 2 (Or.inr (by decide))).trans z178) ((M6010.2 1 4 (Or.inr (by decide))).trans z179) M6010.1 ⟨by omega, by omega⟩ (spc_up (i := f180) x184 hb241 (by omega) (by omega) (by omega)) ⟨by omega, by omega⟩ (lv_sub hl [0, 1] rfl) (by omega)
    exact L183 _ t14 _ _ _ v10 X16 I17 F18 ((M15.2 1 1 (Or.inr (by decide))).trans z2) ((M15.2 1 2 (Or.inr (by decide))).trans z5) ((M15.2 1 4 (Or.inr (by decide))).trans z11) M15.1 ⟨by omega, by omega⟩ (fun k h1 h2 => by exfalso; omega) ⟨by omega, by omega⟩ (lv_sub hl [1, 0] rfl) (Nat.lt_succ_self _)
  ·
    have r6014 : R (0) (899) v1 := ⟨by omega, by omega⟩
    have r6015 : R (1) (900) v4 := ⟨by omega, by omega⟩
    refine r_aload_n S dX7_step_11 rfl (lv_at hl 0 rfl) ?_
    refine r_geti (K := 1) S X (Nat.le_of_ble_eq_true rfl) rfl lk7_15_7 (fun _ => ⟨_, rfl, rfl⟩) z2 dX7_step_12 ?_
    refine r_goto (tgt := 22) S dX7_step_15 (by decide) ?_
    refine r_istore_n (lv' := [(1, .int v1), (0, .ref (G.2.2.2.1 1))]) S dX7_step_22 rfl hl (by decide) rfl (fun ls hl => ?_)
    have e6016 := congrArg Int32.toInt z2
    have e6017 := congrArg Int32.toInt z5
    refine r_aload_n S dX7_step_23 rfl (lv_at hl 1 rfl) ?_
    refine r_aload_n S dX7_step_24 rfl (lv_at hl 1 rfl) ?_
    refine r_getn (K := 1) S X (Nat.le_of_ble_eq_true rfl) rfl lk7_22_7 (fun _ => ⟨_, rfl, rfl⟩) dX7_step_25 (fun v6018 z6019 => ?_)
    have r6020 : R (0) (940) v6018 := rd hI rfl z6019
    have e6021 := congrArg Int32.toInt z6019
    refine r_put (K := 1) (ty := .int) S X (Nat.le_of_ble_eq_true rfl) rfl lk7_28_7 (fun _ => ⟨_, rfl, Nat.le_of_ble_eq_true rfl, rfl⟩) (fun _ _ _ h => by cases h; exact ⟨rfl, rfl⟩) rfl rfl dX7_step_28 (fun t6022 H lc M6023 X6024 => ?_)
    have I6025 := Inv_mu hI M6023 (show Rg (kd 1) 3 v6018 from (R_of (lo := 0) (hi := 940) r6020 rfl))
    have F6026 : Fr [(1, 3), (1, 4), (1, 5), (1, 7), (1, 8)] [201] τ t6022 := Fr_mu Fr_rfl M6023 (by decide)
    have L6191 : ∀ (n : Nat) (t6181 : Tau) (H : Heap) (lc : List Loc) (ls : Array Slot) (f6188 : Int32), Xd G s H lc t6181 → Inv t6181 → Fr [(1, 3), (1, 4), (1, 5), (1, 7), (1, 8)] [201] τ t6181 → t6181 1 1 = v1 → t6181 1 2 = v4 → t6181 1 4 = v6018 → t6181 1 3 = f6188 → R (0) (940) f6188 → (∀ k, pp ≤ k → k < (f6188).toInt.toNat → spc (bb k)) → (pp : Int) ≤ (f6188).toInt ∧ (f6188).toInt ≤ nb → lv_has ls 5 [(0, .ref (G.2.2.2.1 1)), (1, .int v1)] → (940 - f6188.toInt).toNat < n → W p l e (Rm 0 0) s m ([.ref (G.2.2.2.1 1)] : List Value).toArray below meth c H lc 0 0 (MQ below (va_Qv (po_X7_step_q τ    bb nb lm pp) (Bs G) G.2.2.2.2) ([.ref (G.2.2.2.1 1)] : List Value).toArray s 0 0 G.2.2.2.2) (F0 m 31 ls []) := by
      intro n
      induction n with
      | zero => intros; omega
      | succ n ih6194 =>
        intro t6181 H lc ls f6188 X6184 I6182 F6183 z6185 z6186 z6187 z6190 r6189 x6192 x6193 hl hm
        refine r_aload_n S dX7_step_31 rfl (lv_at hl 0 rfl) ?_
        refine r_geti (K := 1) S X6184 (Nat.le_of_ble_eq_true rfl) rfl lk7_28_7 (fun _ => ⟨_, rfl, rfl⟩) z6190 dX7_step_32 ?_
        refine r_iload_n S dX7_step_35 rfl (lv_at hl 1 rfl) ?_
        refine r_icmp_ge (tgt := 80) S dX7_step_36 (by decide) (fun c6195 => ?_) (fun c6195 => ?_)
        ·
          refine r_aload_n S dX7_step_80 rfl (lv_at hl 0 rfl) ?_
          refine r_geti (K := 1) S X6184 (Nat.le_of_ble_eq_true rfl) rfl lk7_28_7 (fun _ => ⟨_, rfl, rfl⟩) z6190 dX7_step_81 ?_
          refine r_iload_n S dX7_step_84 rfl (lv_at hl 1 rfl) ?_
          refine r_icmp_lt (tgt := 114) S dX7_step_85 (by decide) (fun c6196 => ?_) (fun c6196 => ?_)
          ·
            exfalso; omega
          ·
            refine r_aload_n S dX7_step_88 rfl (lv_at hl 0 rfl) ?_
            refine r_iload_n S dX7_step_89 rfl (lv_at hl 1 rfl) ?_
            refine r_put (K := 1) (ty := .int) S X6184 (Nat.le_of_ble_eq_true rfl) rfl lk7_28_7 (fun _ => ⟨_, rfl, Nat.le_of_ble_eq_true rfl, rfl⟩) (fun _ _ _ h => by cases h; exact ⟨rfl, rfl⟩) rfl rfl dX7_step_90 (fun t6199 H lc M6200 X6201 => ?_)
            have I6202 := Inv_mu I6182 M6200 (show Rg (kd 1) 3 v1 from (R_of (lo := 0) (hi := 940) r6014 rfl))
            have F6203 : Fr [(1, 3), (1, 4), (1, 5), (1, 7), (1, 8)] [201] τ t6199 := Fr_mu F6183 M6200 (by decide)
            refine r_aload_n S dX7_step_93 rfl (lv_at hl 0 rfl) ?_
            refine r_aload_n S dX7_step_94 rfl (lv_at hl 0 rfl) ?_
            refine r_geti (K := 1) S X6201 (Nat.le_of_ble_eq_true rfl) rfl lk7_15_7 (fun _ => ⟨_, rfl, rfl⟩) ((M6200.2 1 1 (Or.inr (by decide))).trans z6185) dX7_step_95 ?_
            refine r_aload_n S dX7_step_98 rfl (lv_at hl 0 rfl) ?_
            refine r_geti (K := 1) S X6201 (Nat.le_of_ble_eq_true rfl) rfl lk7_19_7 (fun _ => ⟨_, rfl, rfl⟩) ((M6200.2 1 2 (Or.inr (by decide))).trans z6186) dX7_step_99 ?_
            refine r_icmp_le (tgt := 109) S dX7_step_102 (by decide) (fun c6204 => ?_) (fun c6204 => ?_)
            ·
              refine r_iconst S dX7_step_109 (by decide) (fun v6205 z6206 => ?_)
              have r6207 := R_eq z6206
              refine r_put (K := 1) (ty := .int) S X6201 (Nat.le_of_ble_eq_true rfl) rfl lk7_31_7 (fun _ => ⟨_, rfl, Nat.le_of_ble_eq_true rfl, rfl⟩) (fun _ _ _ h => by cases h; exact ⟨rfl, rfl⟩) rfl rfl dX7_step_110 (fun t6208 H lc M6209 X6210 => ?_)
              have I6211 := Inv_mu I6202 M6209 (show Rg (kd 1) 5 v6205 from (R_of (lo := 0) (hi := 4) r6207 rfl))
              have F6212 : Fr [(1, 3), (1, 4), (1, 5), (1, 7), (1, 8)] [201] τ t6208 := Fr_mu F6203 M6209 (by decide)
              exact r_vret S hr hlk X6210 ⟨I6211, F6212, (RT_stop (RB_eq hB (F6212 1 1 (by simp [fz])) (F6212 1 2 (by simp [fz])) (fun j => F6212 2 j (by simp [fz]))) (by omega) (by omega) (fun k h1 h2 => x6192 k h1 (by omega)) (by have q := congrArg Int32.toInt ((M6209.2 1 3 (Or.inr (by decide))).trans M6200.1); omega) (by have q := congrArg Int32.toInt M6209.1; omega))⟩ dX7_step_113
            ·
              have r6213 : R (1) (898) v4 := ⟨by omega, by omega⟩
              have r6214 : R (2) (899) v1 := ⟨by omega, by omega⟩
              refine r_iconst S dX7_step_105 (by decide) (fun v6215 z6216 => ?_)
              have r6217 := R_eq z6216
              refine r_goto (tgt := 110) S dX7_step_106 (by decide) ?_
              refine r_put (K := 1) (ty := .int) S X6201 (Nat.le_of_ble_eq_true rfl) rfl lk7_31_7 (fun _ => ⟨_, rfl, Nat.le_of_ble_eq_true rfl, rfl⟩) (fun _ _ _ h => by cases h; exact ⟨rfl, rfl⟩) rfl rfl dX7_step_110 (fun t6218 H lc M6219 X6220 => ?_)
              have I6221 := Inv_mu I6202 M6219 (show Rg (kd 1) 5 v6215 from (R_of (lo := 0) (hi := 4) r6217 rfl))
              have F6222 : Fr [(1, 3), (1, 4), (1, 5), (1, 7), (1, 8)] [201] τ t6218 := Fr_mu F6203 M6219 (by decide)
              exact r_vret S hr hlk X6220 ⟨I6221, F6222, (RT_over (st := v1) (RB_eq hB (F6222 1 1 (by simp [fz])) (F6222 1 2 (by simp [fz])) (fun j => F6222 2 j (by simp [fz]))) (by omega) (by omega) (fun k h1 h2 => x6192 k h1 (by omega)) (by omega) (by have q := congrArg Int32.toInt ((M6219.2 1 3 (Or.inr (by decide))).trans M6200.1); omega) (by have q := congrArg Int32.toInt M6219.1; omega))⟩ dX7_step_113
        ·
          have r6223 : R (0) (898) f6188 := ⟨by omega, by omega⟩
          have r6224 : R (1) (899) v1 := ⟨by omega, by omega⟩
          refine r_aload_n S dX7_step_39 rfl (lv_at hl 0 rfl) ?_
          refine r_get (K := 1) (v := .ref (G.2.2.2.1 2)) S X6184 (Nat.le_of_ble_eq_true rfl) rfl lk7_9_7 (fun _ => ⟨_, rfl, rfl⟩) dX7_step_40 ?_
          refine r_aload_n S dX7_step_43 rfl (lv_at hl 0 rfl) ?_
          refine r_geti (K := 1) S X6184 (Nat.le_of_ble_eq_true rfl) rfl lk7_28_7 (fun _ => ⟨_, rfl, rfl⟩) z6190 dX7_step_44 ?_
          refine r_aldn (n := 940) (K := 2) S X6184 (Nat.le_of_ble_eq_true rfl) rfl (fun _ => rfl) (ix_of r6223 rfl) dX7_step_47 (fun v6225 z6226 => ?_)
          have r6227 : R (0) (255) v6225 := rd I6182 rfl z6226
          have hb6228 : bb f6188.toInt.toNat = v6225.toInt := RB_at hB (fun j => F6183 2 j (by simp [fz])) z6226 ⟨by omega, by omega⟩
          refine r_bipush S dX7_step_48 (by decide) (fun v6229 z6230 => ?_)
          have r6231 := R_eq z6230
          refine r_icmp_eq (tgt := 67) S dX7_step_50 (by decide) (fun c6232 => ?_) (fun c6232 => ?_)
          ·
            have r6233 : R (32) (32) v6225 := ⟨by omega, by omega⟩
            refine r_aload_n S dX7_step_67 rfl (lv_at hl 0 rfl) ?_
            refine r_dup S dX7_step_68 rfl ?_
            refine r_geti (K := 1) S X6184 (Nat.le_of_ble_eq_true rfl) rfl lk7_28_7 (fun _ => ⟨_, rfl, rfl⟩) z6190 dX7_step_69 ?_
            refine r_iconst S dX7_step_72 (by decide) (fun v6234 z6235 => ?_)
            have r6236 := R_eq z6235
            refine r_iadd S dX7_step_73 (fun v6237 z6238 => ?_)
            obtain ⟨e6239, r6240⟩ := i_add (lo := 1) (hi := 899) z6238 r6223 r6236 rfl
            refine r_put (K := 1) (ty := .int) S X6184 (Nat.le_of_ble_eq_true rfl) rfl lk7_28_7 (fun _ => ⟨_, rfl, Nat.le_of_ble_eq_true rfl, rfl⟩) (fun _ _ _ h => by cases h; exact ⟨rfl, rfl⟩) rfl rfl dX7_step_74 (fun t6241 H lc M6242 X6243 => ?_)
            have I6244 := Inv_mu I6182 M6242 (show Rg (kd 1) 3 v6237 from (R_of (lo := 0) (hi := 940) r6240 rfl))
            have F6245 : Fr [(1, 3), (1, 4), (1, 5), (1, 7), (1, 8)] [201] τ t6241 := Fr_mu F6183 M6242 (by decide)
            refine r_goto (tgt := 31) S dX7_step_77 (by decide) ?_
            exact ih6194 t6241 _ _ _ v6237 X6243 I6244 F6245 ((M6242.2 1 1 (Or.inr (by decide))).trans z6185) ((M6242.2 1 2 (Or.inr (by decide))).trans z6186) ((M6242.2 1 4 (Or.inr (by decide))).trans z6187) M6242.1 ⟨by omega, by omega⟩ (spc_up (i := f6188) x6192 hb6228 (by omega) (by omega) (by omega)) ⟨by omega, by omega⟩ (lv_sub hl [0, 1] rfl) (by omega)
          ·
            refine r_aload_n S dX7_step_53 rfl (lv_at hl 0 rfl) ?_
            refine r_get (K := 1) (v := .ref (G.2.2.2.1 2)) S X6184 (Nat.le_of_ble_eq_true rfl) rfl lk7_9_7 (fun _ => ⟨_, rfl, rfl⟩) dX7_step_54 ?_
            refine r_aload_n S dX7_step_57 rfl (lv_at hl 0 rfl) ?_
            refine r_geti (K := 1) S X6184 (Nat.le_of_ble_eq_true rfl) rfl lk7_28_7 (fun _ => ⟨_, rfl, rfl⟩) z6190 dX7_step_58 ?_
            refine r_aldn (n := 940) (K := 2) S X6184 (Nat.le_of_ble_eq_true rfl) rfl (fun _ => rfl) (ix_of r6223 rfl) dX7_step_61 (fun v6246 z6247 => ?_)
            have r6248 : R (0) (255) v6246 := rd I6182 rfl z6247
            have hb6249 : bb f6188.toInt.toNat = v6246.toInt := RB_at hB (fun j => F6183 2 j (by simp [fz])) z6247 ⟨by omega, by omega⟩
            refine r_bipush S dX7_step_62 (by decide) (fun v6250 z6251 => ?_)
            have r6252 := R_eq z6251
            refine r_icmp_ne (tgt := 80) S dX7_step_64 (by decide) (fun c6253 => ?_) (fun c6253 => ?_)
            ·
              refine r_aload_n S dX7_step_80 rfl (lv_at hl 0 rfl) ?_
              refine r_geti (K := 1) S X6184 (Nat.le_of_ble_eq_true rfl) rfl lk7_28_7 (fun _ => ⟨_, rfl, rfl⟩) z6190 dX7_step_81 ?_
              refine r_iload_n S dX7_step_84 rfl (lv_at hl 1 rfl) ?_
              refine r_icmp_lt (tgt := 114) S dX7_step_85 (by decide) (fun c6254 => ?_) (fun c6254 => ?_)
              ·
                refine r_iconst S dX7_step_114 (by decide) (fun v6255 z6256 => ?_)
                have r6257 := R_eq z6256
                refine r_istore_n (lv' := [(2, .int v6255), (0, .ref (G.2.2.2.1 1)), (1, .int v1)]) S dX7_step_115 rfl hl (by decide) rfl (fun ls hl => ?_)
                refine r_iconst S dX7_step_116 (by decide) (fun v6258 z6259 => ?_)
                have r6260 := R_eq z6259
                refine r_istore_n (lv' := [(3, .int v6258), (2, .int v6255), (0, .ref (G.2.2.2.1 1)), (1, .int v1)]) S dX7_step_117 rfl hl (by decide) rfl (fun ls hl => ?_)
                refine r_aload_n S dX7_step_118 rfl (lv_at hl 2 rfl) ?_
                refine lv_lconst S.1.1 S.1.2.1 dX7_step_119 rfl ?_
                refine lv_topl (fun j6261 z6262 => ?_)
                refine r_putJ (K := 1) S X6184 (Nat.le_of_ble_eq_true rfl) rfl lk7_34_7 (fun _ => ⟨_, rfl, Nat.le_of_ble_eq_true rfl, rfl⟩) (fun _ _ _ h => by cases h; exact ⟨rfl, rfl⟩) dX7_step_120 (fun t6264 H lc M6265 X6263 => ?_)
                have I6266 := Inv_ml I6182 M6265
                have F6267 : Fr [(1, 3), (1, 4), (1, 5), (1, 7), (1, 8)] [201] τ t6264 := Fr_ml F6183 M6265 (by decide)
                refine r_aload_n S dX7_step_123 rfl (lv_at hl 2 rfl) ?_
                refine r_iconst S dX7_step_124 (by decide) (fun v6268 z6269 => ?_)
                have r6270 := R_eq z6269
                refine r_put (K := 1) (ty := .int) S X6263 (Nat.le_of_ble_eq_true rfl) rfl lk7_38_7 (fun _ => ⟨_, rfl, Nat.le_of_ble_eq_true rfl, rfl⟩) (fun _ _ _ h => by cases h; exact ⟨rfl, rfl⟩) rfl rfl dX7_step_125 (fun t6271 H lc M6272 X6273 => ?_)
                have I6274 := Inv_mu I6266 M6272 (R_any v6268)
                have F6275 : Fr [(1, 3), (1, 4), (1, 5), (1, 7), (1, 8)] [201] τ t6271 := Fr_mu F6267 M6272 (by decide)
                refine r_aload_n S dX7_step_128 rfl (lv_at hl 2 rfl) ?_
                refine r_aload_n S dX7_step_129 rfl (lv_at hl 2 rfl) ?_
                refine r_geti (K := 1) S X6273 (Nat.le_of_ble_eq_true rfl) rfl lk7_28_7 (fun _ => ⟨_, rfl, rfl⟩) ((M6272.2 1 3 (Or.inr (by decide))).trans ((M6265.1 1 (by decide) 3).trans z6190)) dX7_step_130 ?_
                refine r_put (K := 1) (ty := .int) S X6273 (Nat.le_of_ble_eq_true rfl) rfl lk7_22_7 (fun _ => ⟨_, rfl, Nat.le_of_ble_eq_true rfl, rfl⟩) (fun _ _ _ h => by cases h; exact ⟨rfl, rfl⟩) rfl rfl dX7_step_133 (fun t6276 H lc M6277 X6278 => ?_)
                have I6279 := Inv_mu I6274 M6277 (show Rg (kd 1) 4 f6188 from (R_of (lo := 0) (hi := 940) r6223 rfl))
                have F6280 : Fr [(1, 3), (1, 4), (1, 5), (1, 7), (1, 8)] [201] τ t6276 := Fr_mu F6275 M6277 (by decide)
                have L11184 : ∀ (n : Nat) (t11171 : Tau) (H : Heap) (lc : List Loc) (ls : Array Slot) (i11167 : Int32) (i11169 : Int32) (f11178 : Int32) (f11181 : Int32), Xd G s H lc t11171 → Inv t11171 → Fr [(1, 3), (1, 4), (1, 5), (1, 7), (1, 8)] [201] τ t11171 → R (0) (1022) i11167 → R (0) (1022) i11169 → t11171 1 1 = v1 → t11171 1 2 = v4 → t11171 1 3 = f6188 → t11171 1 7 = f11178 → R (-2147483648) (2147483647) f11178 → t11171 1 4 = f11181 → R (0) (899) f11181 → LX bb (f6188).toInt.toNat (f11181).toInt.toNat (i11167).toInt (i11169).toInt (qof t11171 1 6).toInt (f11178).toInt → (f11181).toInt ≤ nb → lv_has ls 5 [(0, .ref (G.2.2.2.1 1)), (2, .int i11167), (3, .int i11169)] → (940 - f11181.toInt).toNat < n → W p l e (Rm 0 0) s m ([.ref (G.2.2.2.1 1)] : List Value).toArray below meth c H lc 0 0 (MQ below (va_Qv (po_X7_step_q τ    bb nb lm pp) (Bs G) G.2.2.2.2) ([.ref (G.2.2.2.1 1)] : List Value).toArray s 0 0 G.2.2.2.2) (F0 m 136 ls []) := by
                  intro n
                  induction n with
                  | zero => intros; omega
                  | succ n ih11187 =>
                    intro t11171 H lc ls i11167 i11169 f11178 f11181 X11174 I11172 F11173 r11168 r11170 z11175 z11176 z11177 z11180 r11179 z11183 r11182 x11185 x11186 hl hm
                    obtain ⟨e11188, e11189, e11190, e11191⟩ := LX_b x11185
                    have r11192 : R (0) (940) i11167 := ⟨by omega, by omega⟩
                    have r11193 : R (0) (940) i11169 := ⟨by omega, by omega⟩
                    refine r_aload_n S dX7_step_136 rfl (lv_at hl 0 rfl) ?_
                    refine r_geti (K := 1) S X11174 (Nat.le_of_ble_eq_true rfl) rfl lk7_22_7 (fun _ => ⟨_, rfl, rfl⟩) z11183 dX7_step_137 ?_
                    refine r_aload_n S dX7_step_140 rfl (lv_at hl 0 rfl) ?_
                    refine r_geti (K := 1) S X11174 (Nat.le_of_ble_eq_true rfl) rfl lk7_15_7 (fun _ => ⟨_, rfl, rfl⟩) z11175 dX7_step_141 ?_
                    refine r_icmp_ge (tgt := 246) S dX7_step_144 (by decide) (fun c11194 => ?_) (fun c11194 => ?_)
                    ·
                      have r11195 : R (1) (899) f11181 := ⟨by omega, by omega⟩
                      refine r_aload_n S dX7_step_246 rfl (lv_at hl 0 rfl) ?_
                      refine r_iconst S dX7_step_247 (by decide) (fun v11196 z11197 => ?_)
                      have r11198 := R_eq z11197
                      refine r_put (K := 1) (ty := .int) S X11174 (Nat.le_of_ble_eq_true rfl) rfl lk7_31_7 (fun _ => ⟨_, rfl, Nat.le_of_ble_eq_true rfl, rfl⟩) (fun _ _ _ h => by cases h; exact ⟨rfl, rfl⟩) rfl rfl dX7_step_248 (fun t11199 H lc M11200 X11201 => ?_)
                      have I11202 := Inv_mu I11172 M11200 (show Rg (kd 1) 5 v11196 from (R_of (lo := 0) (hi := 4) r11198 rfl))
                      have F11203 : Fr [(1, 3), (1, 4), (1, 5), (1, 7), (1, 8)] [201] τ t11199 := Fr_mu F11173 M11200 (by decide)
                      refine r_iload_n S dX7_step_251 rfl (lv_at hl 1 rfl) ?_
                      refine r_if_ne (tgt := 360) S dX7_step_252 (by decide) (fun c11204 => ?_) (fun c11204 => ?_)
                      ·
                        have r11205 : R (1) (940) i11167 := ⟨by omega, by omega⟩
                        refine r_iload_n S dX7_step_360 rfl (lv_at hl 2 rfl) ?_
                        refine r_if_ne (tgt := 378) S dX7_step_361 (by decide) (fun c11206 => ?_) (fun c11206 => ?_)
                        ·
                          have r11207 : R (1) (940) i11169 := ⟨by omega, by omega⟩
                          refine r_iload_n S dX7_step_378 rfl (lv_at hl 1 rfl) ?_
                          refine r_if_ne (tgt := 392) S dX7_step_379 (by decide) (fun c11208 => ?_) (fun c11208 => ?_)
                          ·
                            exact r_vret S hr hlk X11201 ⟨I11202, F11203, (RT_odd (A := f6188.toInt.toNat) (i := f11181.toInt.toNat) (le := i11167.toInt) (di := i11169.toInt) x11185 (RB_eq hB (F11203 1 1 (by simp [fz])) (F11203 1 2 (by simp [fz])) (fun j => F11203 2 j (by simp [fz]))) ⟨by omega, by omega, x6192, fun _ => by omega⟩ (by omega) (by omega) (fun h => by omega) (by omega) (by omega) (by omega) (by have q := congrArg Int32.toInt ((M11200.2 1 3 (Or.inr (by decide))).trans z11177); omega) (by have q := congrArg Int32.toInt M11200.1; omega))⟩ dX7_step_392
                          ·
                            exfalso; omega
                        ·
                          have r11209 : R (0) (0) i11169 := ⟨by omega, by omega⟩
                          refine r_iload_n S dX7_step_364 rfl (lv_at hl 1 rfl) ?_
                          refine r_bipush S dX7_step_365 (by decide) (fun v11210 z11211 => ?_)
                          have r11212 := R_eq z11211
                          refine r_icmp_gt (tgt := 378) S dX7_step_367 (by decide) (fun c11213 => ?_) (fun c11213 => ?_)
                          ·
                            have r11214 : R (8) (940) i11167 := ⟨by omega, by omega⟩
                            refine r_iload_n S dX7_step_378 rfl (lv_at hl 1 rfl) ?_
                            refine r_if_ne (tgt := 392) S dX7_step_379 (by decide) (fun c11215 => ?_) (fun c11215 => ?_)
                            ·
                              exact r_vret S hr hlk X11201 ⟨I11202, F11203, (RT_odd (A := f6188.toInt.toNat) (i := f11181.toInt.toNat) (le := i11167.toInt) (di := i11169.toInt) x11185 (RB_eq hB (F11203 1 1 (by simp [fz])) (F11203 1 2 (by simp [fz])) (fun j => F11203 2 j (by simp [fz]))) ⟨by omega, by omega, x6192, fun _ => by omega⟩ (by omega) (by omega) (fun h => by omega) (by omega) (by omega) (by omega) (by have q := congrArg Int32.toInt ((M11200.2 1 3 (Or.inr (by decide))).trans z11177); omega) (by have q := congrArg Int32.toInt M11200.1; omega))⟩ dX7_step_392
                            ·
                              exfalso; omega
                          ·
                            have r11216 : R (1) (7) i11167 := ⟨by omega, by omega⟩
                            refine r_aload_n S dX7_step_370 rfl (lv_at hl 0 rfl) ?_
                            refine r_iconst S dX7_step_371 (by decide) (fun v11217 z11218 => ?_)
                            have r11219 := R_eq z11218
                            refine r_put (K := 1) (ty := .int) S X11201 (Nat.le_of_ble_eq_true rfl) rfl lk7_31_7 (fun _ => ⟨_, rfl, Nat.le_of_ble_eq_true rfl, rfl⟩) (fun _ _ _ h => by cases h; exact ⟨rfl, rfl⟩) rfl rfl dX7_step_372 (fun t11220 H lc M11221 X11222 => ?_)
                            have I11223 := Inv_mu I11202 M11221 (show Rg (kd 1) 5 v11217 from (R_of (lo := 0) (hi := 4) r11219 rfl))
                            have F11224 : Fr [(1, 3), (1, 4), (1, 5), (1, 7), (1, 8)] [201] τ t11220 := Fr_mu F11203 M11221 (by decide)
                            refine r_goto (tgt := 392) S dX7_step_375 (by decide) ?_
                            exact r_vret S hr hlk X11222 ⟨I11223, F11224, (RT_word (A := f6188.toInt.toNat) (i := f11181.toInt.toNat) (le := i11167.toInt) (di := i11169.toInt) (nu := f11178.toInt) (by rw [(qof_of (k := 1) (fun j => ((M11221.2 201 j (Or.inl (by decide))).trans ((M11200.2 201 j (Or.inl (by decide))).trans rfl))) 6)]; exact x11185) (RB_eq hB (F11224 1 1 (by simp [fz])) (F11224 1 2 (by simp [fz])) (fun j => F11224 2 j (by simp [fz]))) ⟨by omega, by omega, x6192, fun _ => by omega⟩ (by omega) (by omega) (fun h => by omega) (by omega) (by omega) (by have q := congrArg Int32.toInt ((M11221.2 1 3 (Or.inr (by decide))).trans ((M11200.2 1 3 (Or.inr (by decide))).trans z11177)); omega) (by have q := congrArg Int32.toInt ((M11221.2 1 4 (Or.inr (by decide))).trans ((M11200.2 1 4 (Or.inr (by decide))).trans z11183)); omega) (by have q := congrArg Int32.toInt M11221.1; omega))⟩ dX7_step_392
                      ·
                        have r11225 : R (0) (0) i11167 := ⟨by omega, by omega⟩
                        refine r_iload_n S dX7_step_255 rfl (lv_at hl 2 rfl) ?_
                        refine r_if_ne (tgt := 360) S dX7_step_256 (by decide) (fun c11226 => ?_) (fun c11226 => ?_)
                        ·
                          have r11227 : R (1) (940) i11169 := ⟨by omega, by omega⟩
                          refine r_iload_n S dX7_step_360 rfl (lv_at hl 2 rfl) ?_
                          refine r_if_ne (tgt := 378) S dX7_step_361 (by decide) (fun c11228 => ?_) (fun c11228 => ?_)
                          ·
                            refine r_iload_n S dX7_step_378 rfl (lv_at hl 1 rfl) ?_
                            refine r_if_ne (tgt := 392) S dX7_step_379 (by decide) (fun c11229 => ?_) (fun c11229 => ?_)
                            ·
                              exfalso; omega
                            ·
                              refine r_iload_n S dX7_step_382 rfl (lv_at hl 2 rfl) ?_
                              refine r_iconst S dX7_step_383 (by decide) (fun v11230 z11231 => ?_)
                              have r11232 := R_eq z11231
                              refine r_icmp_gt (tgt := 392) S dX7_step_384 (by decide) (fun c11233 => ?_) (fun c11233 => ?_)
                              ·
                                have r11234 : R (3) (940) i11169 := ⟨by omega, by omega⟩
                                exact r_vret S hr hlk X11201 ⟨I11202, F11203, (RT_odd (A := f6188.toInt.toNat) (i := f11181.toInt.toNat) (le := i11167.toInt) (di := i11169.toInt) x11185 (RB_eq hB (F11203 1 1 (by simp [fz])) (F11203 1 2 (by simp [fz])) (fun j => F11203 2 j (by simp [fz]))) ⟨by omega, by omega, x6192, fun _ => by omega⟩ (by omega) (by omega) (fun h => by omega) (by omega) (by omega) (by omega) (by have q := congrArg Int32.toInt ((M11200.2 1 3 (Or.inr (by decide))).trans z11177); omega) (by have q := congrArg Int32.toInt M11200.1; omega))⟩ dX7_step_392
                              ·
                                have r11235 : R (1) (2) i11169 := ⟨by omega, by omega⟩
                                refine r_aload_n S dX7_step_387 rfl (lv_at hl 0 rfl) ?_
                                refine r_iconst S dX7_step_388 (by decide) (fun v11236 z11237 => ?_)
                                have r11238 := R_eq z11237
                                refine r_put (K := 1) (ty := .int) S X11201 (Nat.le_of_ble_eq_true rfl) rfl lk7_31_7 (fun _ => ⟨_, rfl, Nat.le_of_ble_eq_true rfl, rfl⟩) (fun _ _ _ h => by cases h; exact ⟨rfl, rfl⟩) rfl rfl dX7_step_389 (fun t11239 H lc M11240 X11241 => ?_)
                                have I11242 := Inv_mu I11202 M11240 (show Rg (kd 1) 5 v11236 from (R_of (lo := 0) (hi := 4) r11238 rfl))
                                have F11243 : Fr [(1, 3), (1, 4), (1, 5), (1, 7), (1, 8)] [201] τ t11239 := Fr_mu F11203 M11240 (by decide)
                                exact r_vret S hr hlk X11241 ⟨I11242, F11243, (RT_nbr (A := f6188.toInt.toNat) (i := f11181.toInt.toNat) (le := i11167.toInt) (di := i11169.toInt) (sp := (qof t11171 1 6).toInt) (by rw [((M11240.2 1 7 (Or.inr (by decide))).trans ((M11200.2 1 7 (Or.inr (by decide))).trans z11180))]; exact x11185) (RB_eq hB (F11243 1 1 (by simp [fz])) (F11243 1 2 (by simp [fz])) (fun j => F11243 2 j (by simp [fz]))) ⟨by omega, by omega, x6192, fun _ => by omega⟩ (by omega) (by omega) (fun h => by omega) (by omega) (by omega) (by have q := congrArg Int32.toInt ((M11240.2 1 3 (Or.inr (by decide))).trans ((M11200.2 1 3 (Or.inr (by decide))).trans z11177)); omega) (by have q := congrArg Int32.toInt ((M11240.2 1 4 (Or.inr (by decide))).trans ((M11200.2 1 4 (Or.inr (by decide))).trans z11183)); omega) (by have q := congrArg Int32.toInt M11240.1; omega))⟩ dX7_step_392
                          ·
                            exfalso; omega
                        ·
                          have r11244 : R (0) (0) i11169 := ⟨by omega, by omega⟩
                          refine r_aload_n S dX7_step_259 rfl (lv_at hl 0 rfl) ?_
                          refine r_aload_n S dX7_step_260 rfl (lv_at hl 0 rfl) ?_
                          refine r_get (K := 1) (v := .ref (G.2.2.2.1 2)) S X11201 (Nat.le_of_ble_eq_true rfl) rfl lk7_9_7 (fun _ => ⟨_, rfl, rfl⟩) dX7_step_261 ?_
                          refine r_aload_n S dX7_step_264 rfl (lv_at hl 0 rfl) ?_
                          refine r_geti (K := 1) S X11201 (Nat.le_of_ble_eq_true rfl) rfl lk7_28_7 (fun _ => ⟨_, rfl, rfl⟩) ((M11200.2 1 3 (Or.inr (by decide))).trans z11177) dX7_step_265 ?_
                          refine r_aldn (n := 940) (K := 2) S X11201 (Nat.le_of_ble_eq_true rfl) rfl (fun _ => rfl) (ix_of r6223 rfl) dX7_step_268 (fun v11245 z11246 => ?_)
                          have r11247 : R (0) (255) v11245 := rd I11202 rfl z11246
                          have hb11248 : bb f6188.toInt.toNat = v11245.toInt := RB_at hB (fun j => F11203 2 j (by simp [fz])) z11246 ⟨by omega, by omega⟩
                          refine r_put (K := 1) (ty := .int) S X11201 (Nat.le_of_ble_eq_true rfl) rfl lk7_43_7 (fun _ => ⟨_, rfl, Nat.le_of_ble_eq_true rfl, rfl⟩) (fun _ _ _ h => by cases h; exact ⟨rfl, rfl⟩) rfl rfl dX7_step_269 (fun t11249 H lc M11250 X11251 => ?_)
                          have I11252 := Inv_mu I11202 M11250 (R_any v11245)
                          have F11253 : Fr [(1, 3), (1, 4), (1, 5), (1, 7), (1, 8)] [201] τ t11249 := Fr_mu F11203 M11250 (by decide)
                          refine r_aload_n S dX7_step_272 rfl (lv_at hl 0 rfl) ?_
                          refine r_aload_n S dX7_step_273 rfl (lv_at hl 0 rfl) ?_
                          refine r_geti (K := 1) S X11251 (Nat.le_of_ble_eq_true rfl) rfl lk7_28_7 (fun _ => ⟨_, rfl, rfl⟩) ((M11250.2 1 3 (Or.inr (by decide))).trans ((M11200.2 1 3 (Or.inr (by decide))).trans z11177)) dX7_step_274 ?_
                          refine r_iconst S dX7_step_277 (by decide) (fun v11254 z11255 => ?_)
                          have r11256 := R_eq z11255
                          refine r_iadd S dX7_step_278 (fun v11257 z11258 => ?_)
                          obtain ⟨e11259, r11260⟩ := i_add (lo := 1) (hi := 899) z11258 r6223 r11256 rfl
                          refine r_put (K := 1) (ty := .int) S X11251 (Nat.le_of_ble_eq_true rfl) rfl lk7_22_7 (fun _ => ⟨_, rfl, Nat.le_of_ble_eq_true rfl, rfl⟩) (fun _ _ _ h => by cases h; exact ⟨rfl, rfl⟩) rfl rfl dX7_step_279 (fun t11261 H lc M11262 X11263 => ?_)
                          have I11264 := Inv_mu I11252 M11262 (show Rg (kd 1) 4 v11257 from (R_of (lo := 0) (hi := 940) r11260 rfl))
                          have F11265 : Fr [(1, 3), (1, 4), (1, 5), (1, 7), (1, 8)] [201] τ t11261 := Fr_mu F11253 M11262 (by decide)
                          refine r_aload_n S dX7_step_282 rfl (lv_at hl 0 rfl) ?_
                          refine r_geti (K := 1) S X11263 (Nat.le_of_ble_eq_true rfl) rfl lk7_43_7 (fun _ => ⟨_, rfl, rfl⟩) ((M11262.2 1 8 (Or.inr (by decide))).trans M11250.1) dX7_step_283 ?_
                          refine r_bipush S dX7_step_286 (by decide) (fun v11266 z11267 => ?_)
                          have r11268 := R_eq z11267
                          refine r_icmp_eq (tgt := 309) S dX7_step_288 (by decide) (fun c11269 => ?_) (fun c11269 => ?_)
                          ·
                            have r11270 : R (60) (60) v11245 := ⟨by omega, by omega⟩
                            refine r_iconst S dX7_step_309 (by decide) (fun v11271 z11272 => ?_)
                            have r11273 := R_eq z11272
                            refine r_goto (tgt := 314) S dX7_step_310 (by decide) ?_
                            refine r_istore (lv' := [(4, .int v11271), (0, .ref (G.2.2.2.1 1)), (2, .int i11167), (3, .int i11169)]) S dX7_step_314 hl (by decide) rfl (fun ls hl => ?_)
                            refine r_aload_n S dX7_step_316 rfl (lv_at hl 1 rfl) ?_
                            refine r_iload S dX7_step_317 (lv_at hl 0 rfl) ?_
                            refine r_if_ne (tgt := 349) S dX7_step_319 (by decide) (fun c11274 => ?_) (fun c11274 => ?_)
                            ·
                              refine r_iconst S dX7_step_349 (by decide) (fun v11275 z11276 => ?_)
                              have r11277 := R_eq z11276
                              refine r_goto (tgt := 354) S dX7_step_350 (by decide) ?_
                              refine r_put (K := 1) (ty := .int) S X11263 (Nat.le_of_ble_eq_true rfl) rfl lk7_31_7 (fun _ => ⟨_, rfl, Nat.le_of_ble_eq_true rfl, rfl⟩) (fun _ _ _ h => by cases h; exact ⟨rfl, rfl⟩) rfl rfl dX7_step_354 (fun t11278 H lc M11279 X11280 => ?_)
                              have I11281 := Inv_mu I11264 M11279 (show Rg (kd 1) 5 v11275 from (R_of (lo := 0) (hi := 4) r11277 rfl))
                              have F11282 : Fr [(1, 3), (1, 4), (1, 5), (1, 7), (1, 8)] [201] τ t11278 := Fr_mu F11265 M11279 (by decide)
                              refine r_goto (tgt := 392) S dX7_step_357 (by decide) ?_
                              exact r_vret S hr hlk X11280 ⟨I11281, F11282, (RT_sign (A := f6188.toInt.toNat) (RB_eq hB (F11282 1 1 (by simp [fz])) (F11282 1 2 (by simp [fz])) (fun j => F11282 2 j (by simp [fz]))) ⟨by omega, by omega, x6192, fun _ => by omega⟩ (by omega) (by omega) (by exfalso; omega) (by omega) (by have q := congrArg Int32.toInt ((M11279.2 1 3 (Or.inr (by decide))).trans ((M11262.2 1 3 (Or.inr (by decide))).trans ((M11250.2 1 3 (Or.inr (by decide))).trans ((M11200.2 1 3 (Or.inr (by decide))).trans z11177)))); omega) (by have q := congrArg Int32.toInt ((M11279.2 1 4 (Or.inr (by decide))).trans M11262.1); omega) (by have q := congrArg Int32.toInt M11279.1; omega) (by have q := congrArg Int32.toInt ((M11279.2 1 8 (Or.inr (by decide))).trans ((M11262.2 1 8 (Or.inr (by decide))).trans M11250.1)); omega))⟩ dX7_step_392
                            ·
                              exfalso; omega
                          ·
                            refine r_aload_n S dX7_step_291 rfl (lv_at hl 0 rfl) ?_
                            refine r_geti (K := 1) S X11263 (Nat.le_of_ble_eq_true rfl) rfl lk7_43_7 (fun _ => ⟨_, rfl, rfl⟩) ((M11262.2 1 8 (Or.inr (by decide))).trans M11250.1) dX7_step_292 ?_
                            refine r_bipush S dX7_step_295 (by decide) (fun v11283 z11284 => ?_)
                            have r11285 := R_eq z11284
                            refine r_icmp_eq (tgt := 309) S dX7_step_297 (by decide) (fun c11286 => ?_) (fun c11286 => ?_)
                            ·
                              have r11287 : R (61) (61) v11245 := ⟨by omega, by omega⟩
                              refine r_iconst S dX7_step_309 (by decide) (fun v11288 z11289 => ?_)
                              have r11290 := R_eq z11289
                              refine r_goto (tgt := 314) S dX7_step_310 (by decide) ?_
                              refine r_istore (lv' := [(4, .int v11288), (0, .ref (G.2.2.2.1 1)), (2, .int i11167), (3, .int i11169)]) S dX7_step_314 hl (by decide) rfl (fun ls hl => ?_)
                              refine r_aload_n S dX7_step_316 rfl (lv_at hl 1 rfl) ?_
                              refine r_iload S dX7_step_317 (lv_at hl 0 rfl) ?_
                              refine r_if_ne (tgt := 349) S dX7_step_319 (by decide) (fun c11291 => ?_) (fun c11291 => ?_)
                              ·
                                refine r_iconst S dX7_step_349 (by decide) (fun v11292 z11293 => ?_)
                                have r11294 := R_eq z11293
                                refine r_goto (tgt := 354) S dX7_step_350 (by decide) ?_
                                refine r_put (K := 1) (ty := .int) S X11263 (Nat.le_of_ble_eq_true rfl) rfl lk7_31_7 (fun _ => ⟨_, rfl, Nat.le_of_ble_eq_true rfl, rfl⟩) (fun _ _ _ h => by cases h; exact ⟨rfl, rfl⟩) rfl rfl dX7_step_354 (fun t11295 H lc M11296 X11297 => ?_)
                                have I11298 := Inv_mu I11264 M11296 (show Rg (kd 1) 5 v11292 from (R_of (lo := 0) (hi := 4) r11294 rfl))
                                have F11299 : Fr [(1, 3), (1, 4), (1, 5), (1, 7), (1, 8)] [201] τ t11295 := Fr_mu F11265 M11296 (by decide)
                                refine r_goto (tgt := 392) S dX7_step_357 (by decide) ?_
                                exact r_vret S hr hlk X11297 ⟨I11298, F11299, (RT_sign (A := f6188.toInt.toNat) (RB_eq hB (F11299 1 1 (by simp [fz])) (F11299 1 2 (by simp [fz])) (fun j => F11299 2 j (by simp [fz]))) ⟨by omega, by omega, x6192, fun _ => by omega⟩ (by omega) (by omega) (by exfalso; omega) (by omega) (by have q := congrArg Int32.toInt ((M11296.2 1 3 (Or.inr (by decide))).trans ((M11262.2 1 3 (Or.inr (by decide))).trans ((M11250.2 1 3 (Or.inr (by decide))).trans ((M11200.2 1 3 (Or.inr (by decide))).trans z11177)))); omega) (by have q := congrArg Int32.toInt ((M11296.2 1 4 (Or.inr (by decide))).trans M11262.1); omega) (by have q := congrArg Int32.toInt M11296.1; omega) (by have q := congrArg Int32.toInt ((M11296.2 1 8 (Or.inr (by decide))).trans ((M11262.2 1 8 (Or.inr (by decide))).trans M11250.1)); omega))⟩ dX7_step_392
                              ·
                                exfalso; omega
                            ·
                              refine r_aload_n S dX7_step_300 rfl (lv_at hl 0 rfl) ?_
                              refine r_geti (K := 1) S X11263 (Nat.le_of_ble_eq_true rfl) rfl lk7_43_7 (fun _ => ⟨_, rfl, rfl⟩) ((M11262.2 1 8 (Or.inr (by decide))).trans M11250.1) dX7_step_301 ?_
                              refine r_bipush S dX7_step_304 (by decide) (fun v11300 z11301 => ?_)
                              have r11302 := R_eq z11301
                              refine r_icmp_ne (tgt := 313) S dX7_step_306 (by decide) (fun c11303 => ?_) (fun c11303 => ?_)
                              ·
                                refine r_iconst S dX7_step_313 (by decide) (fun v11304 z11305 => ?_)
                                have r11306 := R_eq z11305
                                refine r_istore (lv' := [(4, .int v11304), (0, .ref (G.2.2.2.1 1)), (2, .int i11167), (3, .int i11169)]) S dX7_step_314 hl (by decide) rfl (fun ls hl => ?_)
                                refine r_aload_n S dX7_step_316 rfl (lv_at hl 1 rfl) ?_
                                refine r_iload S dX7_step_317 (lv_at hl 0 rfl) ?_
                                refine r_if_ne (tgt := 349) S dX7_step_319 (by decide) (fun c11307 => ?_) (fun c11307 => ?_)
                                ·
                                  exfalso; omega
                                ·
                                  refine r_aload_n S dX7_step_322 rfl (lv_at hl 1 rfl) ?_
                                  refine r_geti (K := 1) S X11263 (Nat.le_of_ble_eq_true rfl) rfl lk7_43_7 (fun _ => ⟨_, rfl, rfl⟩) ((M11262.2 1 8 (Or.inr (by decide))).trans M11250.1) dX7_step_323 ?_
                                  refine r_bipush S dX7_step_326 (by decide) (fun v11308 z11309 => ?_)
                                  have r11310 := R_eq z11309
                                  refine r_icmp_eq (tgt := 349) S dX7_step_328 (by decide) (fun c11311 => ?_) (fun c11311 => ?_)
                                  ·
                                    have r11312 : R (59) (59) v11245 := ⟨by omega, by omega⟩
                                    refine r_iconst S dX7_step_349 (by decide) (fun v11313 z11314 => ?_)
                                    have r11315 := R_eq z11314
                                    refine r_goto (tgt := 354) S dX7_step_350 (by decide) ?_
                                    refine r_put (K := 1) (ty := .int) S X11263 (Nat.le_of_ble_eq_true rfl) rfl lk7_31_7 (fun _ => ⟨_, rfl, Nat.le_of_ble_eq_true rfl, rfl⟩) (fun _ _ _ h => by cases h; exact ⟨rfl, rfl⟩) rfl rfl dX7_step_354 (fun t11316 H lc M11317 X11318 => ?_)
                                    have I11319 := Inv_mu I11264 M11317 (show Rg (kd 1) 5 v11313 from (R_of (lo := 0) (hi := 4) r11315 rfl))
                                    have F11320 : Fr [(1, 3), (1, 4), (1, 5), (1, 7), (1, 8)] [201] τ t11316 := Fr_mu F11265 M11317 (by decide)
                                    refine r_goto (tgt := 392) S dX7_step_357 (by decide) ?_
                                    exact r_vret S hr hlk X11318 ⟨I11319, F11320, (RT_sign (A := f6188.toInt.toNat) (RB_eq hB (F11320 1 1 (by simp [fz])) (F11320 1 2 (by simp [fz])) (fun j => F11320 2 j (by simp [fz]))) ⟨by omega, by omega, x6192, fun _ => by omega⟩ (by omega) (by omega) (by exfalso; omega) (by omega) (by have q := congrArg Int32.toInt ((M11317.2 1 3 (Or.inr (by decide))).trans ((M11262.2 1 3 (Or.inr (by decide))).trans ((M11250.2 1 3 (Or.inr (by decide))).trans ((M11200.2 1 3 (Or.inr (by decide))).trans z11177)))); omega) (by have q := congrArg Int32.toInt ((M11317.2 1 4 (Or.inr (by decide))).trans M11262.1); omega) (by have q := congrArg Int32.toInt M11317.1; omega) (by have q := congrArg Int32.toInt ((M11317.2 1 8 (Or.inr (by decide))).trans ((M11262.2 1 8 (Or.inr (by decide))).trans M11250.1)); omega))⟩ dX7_step_392
                                  ·
                                    refine r_aload_n S dX7_step_331 rfl (lv_at hl 1 rfl) ?_
                                    refine r_geti (K := 1) S X11263 (Nat.le_of_ble_eq_true rfl) rfl lk7_43_7 (fun _ => ⟨_, rfl, rfl⟩) ((M11262.2 1 8 (Or.inr (by decide))).trans M11250.1) dX7_step_332 ?_
                                    refine r_bipush S dX7_step_335 (by decide) (fun v11321 z11322 => ?_)
                                    have r11323 := R_eq z11322
                                    refine r_icmp_eq (tgt := 349) S dX7_step_337 (by decide) (fun c11324 => ?_) (fun c11324 => ?_)
                                    ·
                                      have r11325 : R (40) (40) v11245 := ⟨by omega, by omega⟩
                                      refine r_iconst S dX7_step_349 (by decide) (fun v11326 z11327 => ?_)
                                      have r11328 := R_eq z11327
                                      refine r_goto (tgt := 354) S dX7_step_350 (by decide) ?_
                                      refine r_put (K := 1) (ty := .int) S X11263 (Nat.le_of_ble_eq_true rfl) rfl lk7_31_7 (fun _ => ⟨_, rfl, Nat.le_of_ble_eq_true rfl, rfl⟩) (fun _ _ _ h => by cases h; exact ⟨rfl, rfl⟩) rfl rfl dX7_step_354 (fun t11329 H lc M11330 X11331 => ?_)
                                      have I11332 := Inv_mu I11264 M11330 (show Rg (kd 1) 5 v11326 from (R_of (lo := 0) (hi := 4) r11328 rfl))
                                      have F11333 : Fr [(1, 3), (1, 4), (1, 5), (1, 7), (1, 8)] [201] τ t11329 := Fr_mu F11265 M11330 (by decide)
                                      refine r_goto (tgt := 392) S dX7_step_357 (by decide) ?_
                                      exact r_vret S hr hlk X11331 ⟨I11332, F11333, (RT_sign (A := f6188.toInt.toNat) (RB_eq hB (F11333 1 1 (by simp [fz])) (F11333 1 2 (by simp [fz])) (fun j => F11333 2 j (by simp [fz]))) ⟨by omega, by omega, x6192, fun _ => by omega⟩ (by omega) (by omega) (by exfalso; omega) (by omega) (by have q := congrArg Int32.toInt ((M11330.2 1 3 (Or.inr (by decide))).trans ((M11262.2 1 3 (Or.inr (by decide))).trans ((M11250.2 1 3 (Or.inr (by decide))).trans ((M11200.2 1 3 (Or.inr (by decide))).trans z11177)))); omega) (by have q := congrArg Int32.toInt ((M11330.2 1 4 (Or.inr (by decide))).trans M11262.1); omega) (by have q := congrArg Int32.toInt M11330.1; omega) (by have q := congrArg Int32.toInt ((M11330.2 1 8 (Or.inr (by decide))).trans ((M11262.2 1 8 (Or.inr (by decide))).trans M11250.1)); omega))⟩ dX7_step_392
                                    ·
                                      refine r_aload_n S dX7_step_340 rfl (lv_at hl 1 rfl) ?_
                                      refine r_geti (K := 1) S X11263 (Nat.le_of_ble_eq_true rfl) rfl lk7_43_7 (fun _ => ⟨_, rfl, rfl⟩) ((M11262.2 1 8 (Or.inr (by decide))).trans M11250.1) dX7_step_341 ?_
                                      refine r_bipush S dX7_step_344 (by decide) (fun v11334 z11335 => ?_)
                                      have r11336 := R_eq z11335
                                      refine r_icmp_ne (tgt := 353) S dX7_step_346 (by decide) (fun c11337 => ?_) (fun c11337 => ?_)
                                      ·
                                        refine r_iconst S dX7_step_353 (by decide) (fun v11338 z11339 => ?_)
                                        have r11340 := R_eq z11339
                                        refine r_put (K := 1) (ty := .int) S X11263 (Nat.le_of_ble_eq_true rfl) rfl lk7_31_7 (fun _ => ⟨_, rfl, Nat.le_of_ble_eq_true rfl, rfl⟩) (fun _ _ _ h => by cases h; exact ⟨rfl, rfl⟩) rfl rfl dX7_step_354 (fun t11341 H lc M11342 X11343 => ?_)
                                        have I11344 := Inv_mu I11264 M11342 (show Rg (kd 1) 5 v11338 from (R_of (lo := 0) (hi := 4) r11340 rfl))
                                        have F11345 : Fr [(1, 3), (1, 4), (1, 5), (1, 7), (1, 8)] [201] τ t11341 := Fr_mu F11265 M11342 (by decide)
                                        refine r_goto (tgt := 392) S dX7_step_357 (by decide) ?_
                                        exact r_vret S hr hlk X11343 ⟨I11344, F11345, (RT_none (A := f6188.toInt.toNat) (RB_eq hB (F11345 1 1 (by simp [fz])) (F11345 1 2 (by simp [fz])) (fun j => F11345 2 j (by simp [fz]))) ⟨by omega, by omega, x6192, fun _ => by omega⟩ (by omega) (by omega) (by exfalso; omega) (by omega) (by have q := congrArg Int32.toInt ((M11342.2 1 3 (Or.inr (by decide))).trans ((M11262.2 1 3 (Or.inr (by decide))).trans ((M11250.2 1 3 (Or.inr (by decide))).trans ((M11200.2 1 3 (Or.inr (by decide))).trans z11177)))); omega) (by have q := congrArg Int32.toInt M11342.1; omega))⟩ dX7_step_392
                                      ·
                                        have r11346 : R (41) (41) v11245 := ⟨by omega, by omega⟩
                                        refine r_iconst S dX7_step_349 (by decide) (fun v11347 z11348 => ?_)
                                        have r11349 := R_eq z11348
                                        refine r_goto (tgt := 354) S dX7_step_350 (by decide) ?_
                                        refine r_put (K := 1) (ty := .int) S X11263 (Nat.le_of_ble_eq_true rfl) rfl lk7_31_7 (fun _ => ⟨_, rfl, Nat.le_of_ble_eq_true rfl, rfl⟩) (fun _ _ _ h => by cases h; exact ⟨rfl, rfl⟩) rfl rfl dX7_step_354 (fun t11350 H lc M11351 X11352 => ?_)
                                        have I11353 := Inv_mu I11264 M11351 (show Rg (kd 1) 5 v11347 from (R_of (lo := 0) (hi := 4) r11349 rfl))
                                        have F11354 : Fr [(1, 3), (1, 4), (1, 5), (1, 7), (1, 8)] [201] τ t11350 := Fr_mu F11265 M11351 (by decide)
                                        refine r_goto (tgt := 392) S dX7_step_357 (by decide) ?_
                                        exact r_vret S hr hlk X11352 ⟨I11353, F11354, (RT_sign (A := f6188.toInt.toNat) (RB_eq hB (F11354 1 1 (by simp [fz])) (F11354 1 2 (by simp [fz])) (fun j => F11354 2 j (by simp [fz]))) ⟨by omega, by omega, x6192, fun _ => by omega⟩ (by omega) (by omega) (by exfalso; omega) (by omega) (by have q := congrArg Int32.toInt ((M11351.2 1 3 (Or.inr (by decide))).trans ((M11262.2 1 3 (Or.inr (by decide))).trans ((M11250.2 1 3 (Or.inr (by decide))).trans ((M11200.2 1 3 (Or.inr (by decide))).trans z11177)))); omega) (by have q := congrArg Int32.toInt ((M11351.2 1 4 (Or.inr (by decide))).trans M11262.1); omega) (by have q := congrArg Int32.toInt M11351.1; omega) (by have q := congrArg Int32.toInt ((M11351.2 1 8 (Or.inr (by decide))).trans ((M11262.2 1 8 (Or.inr (by decide))).trans M11250.1)); omega))⟩ dX7_step_392
                              ·
                                have r11355 : R (62) (62) v11245 := ⟨by omega, by omega⟩
                                refine r_iconst S dX7_step_309 (by decide) (fun v11356 z11357 => ?_)
                                have r11358 := R_eq z11357
                                refine r_goto (tgt := 314) S dX7_step_310 (by decide) ?_
                                refine r_istore (lv' := [(4, .int v11356), (0, .ref (G.2.2.2.1 1)), (2, .int i11167), (3, .int i11169)]) S dX7_step_314 hl (by decide) rfl (fun ls hl => ?_)
                                refine r_aload_n S dX7_step_316 rfl (lv_at hl 1 rfl) ?_
                                refine r_iload S dX7_step_317 (lv_at hl 0 rfl) ?_
                                refine r_if_ne (tgt := 349) S dX7_step_319 (by decide) (fun c11359 => ?_) (fun c11359 => ?_)
                                ·
                                  refine r_iconst S dX7_step_349 (by decide) (fun v11360 z11361 => ?_)
                                  have r11362 := R_eq z11361
                                  refine r_goto (tgt := 354) S dX7_step_350 (by decide) ?_
                                  refine r_put (K := 1) (ty := .int) S X11263 (Nat.le_of_ble_eq_true rfl) rfl lk7_31_7 (fun _ => ⟨_, rfl, Nat.le_of_ble_eq_true rfl, rfl⟩) (fun _ _ _ h => by cases h; exact ⟨rfl, rfl⟩) rfl rfl dX7_step_354 (fun t11363 H lc M11364 X11365 => ?_)
                                  have I11366 := Inv_mu I11264 M11364 (show Rg (kd 1) 5 v11360 from (R_of (lo := 0) (hi := 4) r11362 rfl))
                                  have F11367 : Fr [(1, 3), (1, 4), (1, 5), (1, 7), (1, 8)] [201] τ t11363 := Fr_mu F11265 M11364 (by decide)
                                  refine r_goto (tgt := 392) S dX7_step_357 (by decide) ?_
                                  exact r_vret S hr hlk X11365 ⟨I11366, F11367, (RT_sign (A := f6188.toInt.toNat) (RB_eq hB (F11367 1 1 (by simp [fz])) (F11367 1 2 (by simp [fz])) (fun j => F11367 2 j (by simp [fz]))) ⟨by omega, by omega, x6192, fun _ => by omega⟩ (by omega) (by omega) (by exfalso; omega) (by omega) (by have q := congrArg Int32.toInt ((M11364.2 1 3 (Or.inr (by decide))).trans ((M11262.2 1 3 (Or.inr (by decide))).trans ((M11250.2 1 3 (Or.inr (by decide))).trans ((M11200.2 1 3 (Or.inr (by decide))).trans z11177)))); omega) (by have q := congrArg Int32.toInt ((M11364.2 1 4 (Or.inr (by decide))).trans M11262.1); omega) (by have q := congrArg Int32.toInt M11364.1; omega) (by have q := congrArg Int32.toInt ((M11364.2 1 8 (Or.inr (by decide))).trans ((M11262.2 1 8 (Or.inr (by decide))).trans M11250.1)); omega))⟩ dX7_step_392
                                ·
                                  exfalso; omega
                    ·
                      have r11368 : R (0) (898) f11181 := ⟨by omega, by omega⟩
                      refine r_aload_n S dX7_step_147 rfl (lv_at hl 0 rfl) ?_
                      refine r_get (K := 1) (v := .ref (G.2.2.2.1 2)) S X11174 (Nat.le_of_ble_eq_true rfl) rfl lk7_9_7 (fun _ => ⟨_, rfl, rfl⟩) dX7_step_148 ?_
                      refine r_aload_n S dX7_step_151 rfl (lv_at hl 0 rfl) ?_
                      refine r_geti (K := 1) S X11174 (Nat.le_of_ble_eq_true rfl) rfl lk7_22_7 (fun _ => ⟨_, rfl, rfl⟩) z11183 dX7_step_152 ?_
                      refine r_aldn (n := 940) (K := 2) S X11174 (Nat.le_of_ble_eq_true rfl) rfl (fun _ => rfl) (ix_of r11368 rfl) dX7_step_155 (fun v11369 z11370 => ?_)
                      have r11371 : R (0) (255) v11369 := rd I11172 rfl z11370
                      have hb11372 : bb f11181.toInt.toNat = v11369.toInt := RB_at hB (fun j => F11173 2 j (by simp [fz])) z11370 ⟨by omega, by omega⟩
                      refine r_istore (lv' := [(4, .int v11369), (0, .ref (G.2.2.2.1 1)), (2, .int i11167), (3, .int i11169)]) S dX7_step_156 hl (by decide) rfl (fun ls hl => ?_)
                      refine r_iload S dX7_step_158 (lv_at hl 0 rfl) ?_
                      refine r_bipush S dX7_step_160 (by decide) (fun v11373 z11374 => ?_)
                      have r11375 := R_eq z11374
                      refine r_icmp_lt (tgt := 199) S dX7_step_162 (by decide) (fun c11376 => ?_) (fun c11376 => ?_)
                      ·
                        have r11377 : R (0) (96) v11369 := ⟨by omega, by omega⟩
                        refine r_iload S dX7_step_199 (lv_at hl 0 rfl) ?_
                        refine r_bipush S dX7_step_201 (by decide) (fun v11378 z11379 => ?_)
                        have r11380 := R_eq z11379
                        refine r_icmp_lt (tgt := 246) S dX7_step_203 (by decide) (fun c11381 => ?_) (fun c11381 => ?_)
                        ·
                          have r11382 : R (0) (47) v11369 := ⟨by omega, by omega⟩
                          refine r_aload_n S dX7_step_246 rfl (lv_at hl 1 rfl) ?_
                          refine r_iconst S dX7_step_247 (by decide) (fun v11383 z11384 => ?_)
                          have r11385 := R_eq z11384
                          refine r_put (K := 1) (ty := .int) S X11174 (Nat.le_of_ble_eq_true rfl) rfl lk7_31_7 (fun _ => ⟨_, rfl, Nat.le_of_ble_eq_true rfl, rfl⟩) (fun _ _ _ h => by cases h; exact ⟨rfl, rfl⟩) rfl rfl dX7_step_248 (fun t11386 H lc M11387 X11388 => ?_)
                          have I11389 := Inv_mu I11172 M11387 (show Rg (kd 1) 5 v11383 from (R_of (lo := 0) (hi := 4) r11385 rfl))
                          have F11390 : Fr [(1, 3), (1, 4), (1, 5), (1, 7), (1, 8)] [201] τ t11386 := Fr_mu F11173 M11387 (by decide)
                          refine r_iload_n S dX7_step_251 rfl (lv_at hl 2 rfl) ?_
                          refine r_if_ne (tgt := 360) S dX7_step_252 (by decide) (fun c11391 => ?_) (fun c11391 => ?_)
                          ·
                            have r11392 : R (1) (940) i11167 := ⟨by omega, by omega⟩
                            refine r_iload_n S dX7_step_360 rfl (lv_at hl 3 rfl) ?_
                            refine r_if_ne (tgt := 378) S dX7_step_361 (by decide) (fun c11393 => ?_) (fun c11393 => ?_)
                            ·
                              have r11394 : R (1) (940) i11169 := ⟨by omega, by omega⟩
                              refine r_iload_n S dX7_step_378 rfl (lv_at hl 2 rfl) ?_
                              refine r_if_ne (tgt := 392) S dX7_step_379 (by decide) (fun c11395 => ?_) (fun c11395 => ?_)
                              ·
                                exact r_vret S hr hlk X11388 ⟨I11389, F11390, (RT_odd (A := f6188.toInt.toNat) (i := f11181.toInt.toNat) (le := i11167.toInt) (di := i11169.toInt) x11185 (RB_eq hB (F11390 1 1 (by simp [fz])) (F11390 1 2 (by simp [fz])) (fun j => F11390 2 j (by simp [fz]))) ⟨by omega, by omega, x6192, fun _ => by omega⟩ (by omega) (by omega) (fun _ => by omega) (by omega) (by omega) (by omega) (by have q := congrArg Int32.toInt ((M11387.2 1 3 (Or.inr (by decide))).trans z11177); omega) (by have q := congrArg Int32.toInt M11387.1; omega))⟩ dX7_step_392
                              ·
                                exfalso; omega
                            ·
                              have r11396 : R (0) (0) i11169 := ⟨by omega, by omega⟩
                              refine r_iload_n S dX7_step_364 rfl (lv_at hl 2 rfl) ?_
                              refine r_bipush S dX7_step_365 (by decide) (fun v11397 z11398 => ?_)
                              have r11399 := R_eq z11398
                              refine r_icmp_gt (tgt := 378) S dX7_step_367 (by decide) (fun c11400 => ?_) (fun c11400 => ?_)
                              ·
                                have r11401 : R (8) (940) i11167 := ⟨by omega, by omega⟩
                                refine r_iload_n S dX7_step_378 rfl (lv_at hl 2 rfl) ?_
                                refine r_if_ne (tgt := 392) S dX7_step_379 (by decide) (fun c11402 => ?_) (fun c11402 => ?_)
                                ·
                                  exact r_vret S hr hlk X11388 ⟨I11389, F11390, (RT_odd (A := f6188.toInt.toNat) (i := f11181.toInt.toNat) (le := i11167.toInt) (di := i11169.toInt) x11185 (RB_eq hB (F11390 1 1 (by simp [fz])) (F11390 1 2 (by simp [fz])) (fun j => F11390 2 j (by simp [fz]))) ⟨by omega, by omega, x6192, fun _ => by omega⟩ (by omega) (by omega) (fun _ => by omega) (by omega) (by omega) (by omega) (by have q := congrArg Int32.toInt ((M11387.2 1 3 (Or.inr (by decide))).trans z11177); omega) (by have q := congrArg Int32.toInt M11387.1; omega))⟩ dX7_step_392
                                ·
                                  exfalso; omega
                              ·
                                have r11403 : R (1) (7) i11167 := ⟨by omega, by omega⟩
                                refine r_aload_n S dX7_step_370 rfl (lv_at hl 1 rfl) ?_
                                refine r_iconst S dX7_step_371 (by decide) (fun v11404 z11405 => ?_)
                                have r11406 := R_eq z11405
                                refine r_put (K := 1) (ty := .int) S X11388 (Nat.le_of_ble_eq_true rfl) rfl lk7_31_7 (fun _ => ⟨_, rfl, Nat.le_of_ble_eq_true rfl, rfl⟩) (fun _ _ _ h => by cases h; exact ⟨rfl, rfl⟩) rfl rfl dX7_step_372 (fun t11407 H lc M11408 X11409 => ?_)
                                have I11410 := Inv_mu I11389 M11408 (show Rg (kd 1) 5 v11404 from (R_of (lo := 0) (hi := 4) r11406 rfl))
                                have F11411 : Fr [(1, 3), (1, 4), (1, 5), (1, 7), (1, 8)] [201] τ t11407 := Fr_mu F11390 M11408 (by decide)
                                refine r_goto (tgt := 392) S dX7_step_375 (by decide) ?_
                                exact r_vret S hr hlk X11409 ⟨I11410, F11411, (RT_word (A := f6188.toInt.toNat) (i := f11181.toInt.toNat) (le := i11167.toInt) (di := i11169.toInt) (nu := f11178.toInt) (by rw [(qof_of (k := 1) (fun j => ((M11408.2 201 j (Or.inl (by decide))).trans ((M11387.2 201 j (Or.inl (by decide))).trans rfl))) 6)]; exact x11185) (RB_eq hB (F11411 1 1 (by simp [fz])) (F11411 1 2 (by simp [fz])) (fun j => F11411 2 j (by simp [fz]))) ⟨by omega, by omega, x6192, fun _ => by omega⟩ (by omega) (by omega) (fun _ => by omega) (by omega) (by omega) (by have q := congrArg Int32.toInt ((M11408.2 1 3 (Or.inr (by decide))).trans ((M11387.2 1 3 (Or.inr (by decide))).trans z11177)); omega) (by have q := congrArg Int32.toInt ((M11408.2 1 4 (Or.inr (by decide))).trans ((M11387.2 1 4 (Or.inr (by decide))).trans z11183)); omega) (by have q := congrArg Int32.toInt M11408.1; omega))⟩ dX7_step_392
                          ·
                            have r11412 : R (0) (0) i11167 := ⟨by omega, by omega⟩
                            refine r_iload_n S dX7_step_255 rfl (lv_at hl 3 rfl) ?_
                            refine r_if_ne (tgt := 360) S dX7_step_256 (by decide) (fun c11413 => ?_) (fun c11413 => ?_)
                            ·
                              have r11414 : R (1) (940) i11169 := ⟨by omega, by omega⟩
                              refine r_iload_n S dX7_step_360 rfl (lv_at hl 3 rfl) ?_
                              refine r_if_ne (tgt := 378) S dX7_step_361 (by decide) (fun c11415 => ?_) (fun c11415 => ?_)
                              ·
                                refine r_iload_n S dX7_step_378 rfl (lv_at hl 2 rfl) ?_
                                refine r_if_ne (tgt := 392) S dX7_step_379 (by decide) (fun c11416 => ?_) (fun c11416 => ?_)
                                ·
                                  exfalso; omega
                                ·
                                  refine r_iload_n S dX7_step_382 rfl (lv_at hl 3 rfl) ?_
                                  refine r_iconst S dX7_step_383 (by decide) (fun v11417 z11418 => ?_)
                                  have r11419 := R_eq z11418
                                  refine r_icmp_gt (tgt := 392) S dX7_step_384 (by decide) (fun c11420 => ?_) (fun c11420 => ?_)
                                  ·
                                    have r11421 : R (3) (940) i11169 := ⟨by omega, by omega⟩
                                    exact r_vret S hr hlk X11388 ⟨I11389, F11390, (RT_odd (A := f6188.toInt.toNat) (i := f11181.toInt.toNat) (le := i11167.toInt) (di := i11169.toInt) x11185 (RB_eq hB (F11390 1 1 (by simp [fz])) (F11390 1 2 (by simp [fz])) (fun j => F11390 2 j (by simp [fz]))) ⟨by omega, by omega, x6192, fun _ => by omega⟩ (by omega) (by omega) (fun _ => by omega) (by omega) (by omega) (by omega) (by have q := congrArg Int32.toInt ((M11387.2 1 3 (Or.inr (by decide))).trans z11177); omega) (by have q := congrArg Int32.toInt M11387.1; omega))⟩ dX7_step_392
                                  ·
                                    have r11422 : R (1) (2) i11169 := ⟨by omega, by omega⟩
                                    refine r_aload_n S dX7_step_387 rfl (lv_at hl 1 rfl) ?_
                                    refine r_iconst S dX7_step_388 (by decide) (fun v11423 z11424 => ?_)
                                    have r11425 := R_eq z11424
                                    refine r_put (K := 1) (ty := .int) S X11388 (Nat.le_of_ble_eq_true rfl) rfl lk7_31_7 (fun _ => ⟨_, rfl, Nat.le_of_ble_eq_true rfl, rfl⟩) (fun _ _ _ h => by cases h; exact ⟨rfl, rfl⟩) rfl rfl dX7_step_389 (fun t11426 H lc M11427 X11428 => ?_)
                                    have I11429 := Inv_mu I11389 M11427 (show Rg (kd 1) 5 v11423 from (R_of (lo := 0) (hi := 4) r11425 rfl))
                                    have F11430 : Fr [(1, 3), (1, 4), (1, 5), (1, 7), (1, 8)] [201] τ t11426 := Fr_mu F11390 M11427 (by decide)
                                    exact r_vret S hr hlk X11428 ⟨I11429, F11430, (RT_nbr (A := f6188.toInt.toNat) (i := f11181.toInt.toNat) (le := i11167.toInt) (di := i11169.toInt) (sp := (qof t11171 1 6).toInt) (by rw [((M11427.2 1 7 (Or.inr (by decide))).trans ((M11387.2 1 7 (Or.inr (by decide))).trans z11180))]; exact x11185) (RB_eq hB (F11430 1 1 (by simp [fz])) (F11430 1 2 (by simp [fz])) (fun j => F11430 2 j (by simp [fz]))) ⟨by omega, by omega, x6192, fun _ => by omega⟩ (by omega) (by omega) (fun _ => by omega) (by omega) (by omega) (by have q := congrArg Int32.toInt ((M11427.2 1 3 (Or.inr (by decide))).trans ((M11387.2 1 3 (Or.inr (by decide))).trans z11177)); omega) (by have q := congrArg Int32.toInt ((M11427.2 1 4 (Or.inr (by decide))).trans ((M11387.2 1 4 (Or.inr (by decide))).trans z11183)); omega) (by have q := congrArg Int32.toInt M11427.1; omega))⟩ dX7_step_392
                              ·
                                exfalso; omega
                            ·
                              have r11431 : R (0) (0) i11169 := ⟨by omega, by omega⟩
                              refine r_aload_n S dX7_step_259 rfl (lv_at hl 1 rfl) ?_
                              refine r_aload_n S dX7_step_260 rfl (lv_at hl 1 rfl) ?_
                              refine r_get (K := 1) (v := .ref (G.2.2.2.1 2)) S X11388 (Nat.le_of_ble_eq_true rfl) rfl lk7_9_7 (fun _ => ⟨_, rfl, rfl⟩) dX7_step_261 ?_
                              refine r_aload_n S dX7_step_264 rfl (lv_at hl 1 rfl) ?_
                              refine r_geti (K := 1) S X11388 (Nat.le_of_ble_eq_true rfl) rfl lk7_28_7 (fun _ => ⟨_, rfl, rfl⟩) ((M11387.2 1 3 (Or.inr (by decide))).trans z11177) dX7_step_265 ?_
                              refine r_aldn (n := 940) (K := 2) S X11388 (Nat.le_of_ble_eq_true rfl) rfl (fun _ => rfl) (ix_of r6223 rfl) dX7_step_268 (fun v11432 z11433 => ?_)
                              have r11434 : R (0) (255) v11432 := rd I11389 rfl z11433
                              have hb11435 : bb f6188.toInt.toNat = v11432.toInt := RB_at hB (fun j => F11390 2 j (by simp [fz])) z11433 ⟨by omega, by omega⟩
                              refine r_put (K := 1) (ty := .int) S X11388 (Nat.le_of_ble_eq_true rfl) rfl lk7_43_7 (fun _ => ⟨_, rfl, Nat.le_of_ble_eq_true rfl, rfl⟩) (fun _ _ _ h => by cases h; exact ⟨rfl, rfl⟩) rfl rfl dX7_step_269 (fun t11436 H lc M11437 X11438 => ?_)
                              have I11439 := Inv_mu I11389 M11437 (R_any v11432)
                              have F11440 : Fr [(1, 3), (1, 4), (1, 5), (1, 7), (1, 8)] [201] τ t11436 := Fr_mu F11390 M11437 (by decide)
                              refine r_aload_n S dX7_step_272 rfl (lv_at hl 1 rfl) ?_
                              refine r_aload_n S dX7_step_273 rfl (lv_at hl 1 rfl) ?_
                              refine r_geti (K := 1) S X11438 (Nat.le_of_ble_eq_true rfl) rfl lk7_28_7 (fun _ => ⟨_, rfl, rfl⟩) ((M11437.2 1 3 (Or.inr (by decide))).trans ((M11387.2 1 3 (Or.inr (by decide))).trans z11177)) dX7_step_274 ?_
                              refine r_iconst S dX7_step_277 (by decide) (fun v11441 z11442 => ?_)
                              have r11443 := R_eq z11442
                              refine r_iadd S dX7_step_278 (fun v11444 z11445 => ?_)
                              obtain ⟨e11446, r11447⟩ := i_add (lo := 1) (hi := 899) z11445 r6223 r11443 rfl
                              refine r_put (K := 1) (ty := .int) S X11438 (Nat.le_of_ble_eq_true rfl) rfl lk7_22_7 (fun _ => ⟨_, rfl, Nat.le_of_ble_eq_true rfl, rfl⟩) (fun _ _ _ h => by cases h; exact ⟨rfl, rfl⟩) rfl rfl dX7_step_279 (fun t11448 H lc M11449 X11450 => ?_)
                              have I11451 := Inv_mu I11439 M11449 (show Rg (kd 1) 4 v11444 from (R_of (lo := 0) (hi := 940) r11447 rfl))
                              have F11452 : Fr [(1, 3), (1, 4), (1, 5), (1, 7), (1, 8)] [201] τ t11448 := Fr_mu F11440 M11449 (by decide)
                              refine r_aload_n S dX7_step_282 rfl (lv_at hl 1 rfl) ?_
                              refine r_geti (K := 1) S X11450 (Nat.le_of_ble_eq_true rfl) rfl lk7_43_7 (fun _ => ⟨_, rfl, rfl⟩) ((M11449.2 1 8 (Or.inr (by decide))).trans M11437.1) dX7_step_283 ?_
                              refine r_bipush S dX7_step_286 (by decide) (fun v11453 z11454 => ?_)
                              have r11455 := R_eq z11454
                              refine r_icmp_eq (tgt := 309) S dX7_step_288 (by decide) (fun c11456 => ?_) (fun c11456 => ?_)
                              ·
                                have r11457 : R (60) (60) v11432 := ⟨by omega, by omega⟩
                                refine r_iconst S dX7_step_309 (by decide) (fun v11458 z11459 => ?_)
                                have r11460 := R_eq z11459
                                refine r_goto (tgt := 314) S dX7_step_310 (by decide) ?_
                                refine r_istore (lv' := [(4, .int v11458), (0, .ref (G.2.2.2.1 1)), (2, .int i11167), (3, .int i11169)]) S dX7_step_314 hl (by decide) rfl (fun ls hl => ?_)
                                refine r_aload_n S dX7_step_316 rfl (lv_at hl 1 rfl) ?_
                                refine r_iload S dX7_step_317 (lv_at hl 0 rfl) ?_
                                refine r_if_ne (tgt := 349) S dX7_step_319 (by decide) (fun c11461 => ?_) (fun c11461 => ?_)
                                ·
                                  refine r_iconst S dX7_step_349 (by decide) (fun v11462 z11463 => ?_)
                                  have r11464 := R_eq z11463
                                  refine r_goto (tgt := 354) S dX7_step_350 (by decide) ?_
                                  refine r_put (K := 1) (ty := .int) S X11450 (Nat.le_of_ble_eq_true rfl) rfl lk7_31_7 (fun _ => ⟨_, rfl, Nat.le_of_ble_eq_true rfl, rfl⟩) (fun _ _ _ h => by cases h; exact ⟨rfl, rfl⟩) rfl rfl dX7_step_354 (fun t11465 H lc M11466 X11467 => ?_)
                                  have I11468 := Inv_mu I11451 M11466 (show Rg (kd 1) 5 v11462 from (R_of (lo := 0) (hi := 4) r11464 rfl))
                                  have F11469 : Fr [(1, 3), (1, 4), (1, 5), (1, 7), (1, 8)] [201] τ t11465 := Fr_mu F11452 M11466 (by decide)
                                  refine r_goto (tgt := 392) S dX7_step_357 (by decide) ?_
                                  exact r_vret S hr hlk X11467 ⟨I11468, F11469, (RT_sign (A := f6188.toInt.toNat) (RB_eq hB (F11469 1 1 (by simp [fz])) (F11469 1 2 (by simp [fz])) (fun j => F11469 2 j (by simp [fz]))) ⟨by omega, by omega, x6192, fun _ => by omega⟩ (by omega) (by omega) (by rw [show f6188.toInt.toNat = f11181.toInt.toNat by omega, hb11372]; omega) (by omega) (by have q := congrArg Int32.toInt ((M11466.2 1 3 (Or.inr (by decide))).trans ((M11449.2 1 3 (Or.inr (by decide))).trans ((M11437.2 1 3 (Or.inr (by decide))).trans ((M11387.2 1 3 (Or.inr (by decide))).trans z11177)))); omega) (by have q := congrArg Int32.toInt ((M11466.2 1 4 (Or.inr (by decide))).trans M11449.1); omega) (by have q := congrArg Int32.toInt M11466.1; omega) (by have q := congrArg Int32.toInt ((M11466.2 1 8 (Or.inr (by decide))).trans ((M11449.2 1 8 (Or.inr (by decide))).trans M11437.1)); omega))⟩ dX7_step_392
                                ·
                                  exfalso; omega
                              ·
                                refine r_aload_n S dX7_step_291 rfl (lv_at hl 1 rfl) ?_
                                refine r_geti (K := 1) S X11450 (Nat.le_of_ble_eq_true rfl) rfl lk7_43_7 (fun _ => ⟨_, rfl, rfl⟩) ((M11449.2 1 8 (Or.inr (by decide))).trans M11437.1) dX7_step_292 ?_
                                refine r_bipush S dX7_step_295 (by decide) (fun v11470 z11471 => ?_)
                                have r11472 := R_eq z11471
                                refine r_icmp_eq (tgt := 309) S dX7_step_297 (by decide) (fun c11473 => ?_) (fun c11473 => ?_)
                                ·
                                  have r11474 : R (61) (61) v11432 := ⟨by omega, by omega⟩
                                  refine r_iconst S dX7_step_309 (by decide) (fun v11475 z11476 => ?_)
                                  have r11477 := R_eq z11476
                                  refine r_goto (tgt := 314) S dX7_step_310 (by decide) ?_
                                  refine r_istore (lv' := [(4, .int v11475), (0, .ref (G.2.2.2.1 1)), (2, .int i11167), (3, .int i11169)]) S dX7_step_314 hl (by decide) rfl (fun ls hl => ?_)
                                  refine r_aload_n S dX7_step_316 rfl (lv_at hl 1 rfl) ?_
                                  refine r_iload S dX7_step_317 (lv_at hl 0 rfl) ?_
                                  refine r_if_ne (tgt := 349) S dX7_step_319 (by decide) (fun c11478 => ?_) (fun c11478 => ?_)
                                  ·
                                    refine r_iconst S dX7_step_349 (by decide) (fun v11479 z11480 => ?_)
                                    have r11481 := R_eq z11480
                                    refine r_goto (tgt := 354) S dX7_step_350 (by decide) ?_
                                    refine r_put (K := 1) (ty := .int) S X11450 (Nat.le_of_ble_eq_true rfl) rfl lk7_31_7 (fun _ => ⟨_, rfl, Nat.le_of_ble_eq_true rfl, rfl⟩) (fun _ _ _ h => by cases h; exact ⟨rfl, rfl⟩) rfl rfl dX7_step_354 (fun t11482 H lc M11483 X11484 => ?_)
                                    have I11485 := Inv_mu I11451 M11483 (show Rg (kd 1) 5 v11479 from (R_of (lo := 0) (hi := 4) r11481 rfl))
                                    have F11486 : Fr [(1, 3), (1, 4), (1, 5), (1, 7), (1, 8)] [201] τ t11482 := Fr_mu F11452 M11483 (by decide)
                                    refine r_goto (tgt := 392) S dX7_step_357 (by decide) ?_
                                    exact r_vret S hr hlk X11484 ⟨I11485, F11486, (RT_sign (A := f6188.toInt.toNat) (RB_eq hB (F11486 1 1 (by simp [fz])) (F11486 1 2 (by simp [fz])) (fun j => F11486 2 j (by simp [fz]))) ⟨by omega, by omega, x6192, fun _ => by omega⟩ (by omega) (by omega) (by rw [show f6188.toInt.toNat = f11181.toInt.toNat by omega, hb11372]; omega) (by omega) (by have q := congrArg Int32.toInt ((M11483.2 1 3 (Or.inr (by decide))).trans ((M11449.2 1 3 (Or.inr (by decide))).trans ((M11437.2 1 3 (Or.inr (by decide))).trans ((M11387.2 1 3 (Or.inr (by decide))).trans z11177)))); omega) (by have q := congrArg Int32.toInt ((M11483.2 1 4 (Or.inr (by decide))).trans M11449.1); omega) (by have q := congrArg Int32.toInt M11483.1; omega) (by have q := congrArg Int32.toInt ((M11483.2 1 8 (Or.inr (by decide))).trans ((M11449.2 1 8 (Or.inr (by decide))).trans M11437.1)); omega))⟩ dX7_step_392
                                  ·
                                    exfalso; omega
                                ·
                                  refine r_aload_n S dX7_step_300 rfl (lv_at hl 1 rfl) ?_
                                  refine r_geti (K := 1) S X11450 (Nat.le_of_ble_eq_true rfl) rfl lk7_43_7 (fun _ => ⟨_, rfl, rfl⟩) ((M11449.2 1 8 (Or.inr (by decide))).trans M11437.1) dX7_step_301 ?_
                                  refine r_bipush S dX7_step_304 (by decide) (fun v11487 z11488 => ?_)
                                  have r11489 := R_eq z11488
                                  refine r_icmp_ne (tgt := 313) S dX7_step_306 (by decide) (fun c11490 => ?_) (fun c11490 => ?_)
                                  ·
                                    refine r_iconst S dX7_step_313 (by decide) (fun v11491 z11492 => ?_)
                                    have r11493 := R_eq z11492
                                    refine r_istore (lv' := [(4, .int v11491), (0, .ref (G.2.2.2.1 1)), (2, .int i11167), (3, .int i11169)]) S dX7_step_314 hl (by decide) rfl (fun ls hl => ?_)
                                    refine r_aload_n S dX7_step_316 rfl (lv_at hl 1 rfl) ?_
                                    refine r_iload S dX7_step_317 (lv_at hl 0 rfl) ?_
                                    refine r_if_ne (tgt := 349) S dX7_step_319 (by decide) (fun c11494 => ?_) (fun c11494 => ?_)
                                    ·
                                      exfalso; omega
                                    ·
                                      refine r_aload_n S dX7_step_322 rfl (lv_at hl 1 rfl) ?_
                                      refine r_geti (K := 1) S X11450 (Nat.le_of_ble_eq_true rfl) rfl lk7_43_7 (fun _ => ⟨_, rfl, rfl⟩) ((M11449.2 1 8 (Or.inr (by decide))).trans M11437.1) dX7_step_323 ?_
                                      refine r_bipush S dX7_step_326 (by decide) (fun v11495 z11496 => ?_)
                                      have r11497 := R_eq z11496
                                      refine r_icmp_eq (tgt := 349) S dX7_step_328 (by decide) (fun c11498 => ?_) (fun c11498 => ?_)
                                      ·
                                        have r11499 : R (59) (59) v11432 := ⟨by omega, by omega⟩
                                        refine r_iconst S dX7_step_349 (by decide) (fun v11500 z11501 => ?_)
                                        have r11502 := R_eq z11501
                                        refine r_goto (tgt := 354) S dX7_step_350 (by decide) ?_
                                        refine r_put (K := 1) (ty := .int) S X11450 (Nat.le_of_ble_eq_true rfl) rfl lk7_31_7 (fun _ => ⟨_, rfl, Nat.le_of_ble_eq_true rfl, rfl⟩) (fun _ _ _ h => by cases h; exact ⟨rfl, rfl⟩) rfl rfl dX7_step_354 (fun t11503 H lc M11504 X11505 => ?_)
                                        have I11506 := Inv_mu I11451 M11504 (show Rg (kd 1) 5 v11500 from (R_of (lo := 0) (hi := 4) r11502 rfl))
                                        have F11507 : Fr [(1, 3), (1, 4), (1, 5), (1, 7), (1, 8)] [201] τ t11503 := Fr_mu F11452 M11504 (by decide)
                                        refine r_goto (tgt := 392) S dX7_step_357 (by decide) ?_
                                        exact r_vret S hr hlk X11505 ⟨I11506, F11507, (RT_sign (A := f6188.toInt.toNat) (RB_eq hB (F11507 1 1 (by simp [fz])) (F11507 1 2 (by simp [fz])) (fun j => F11507 2 j (by simp [fz]))) ⟨by omega, by omega, x6192, fun _ => by omega⟩ (by omega) (by omega) (by rw [show f6188.toInt.toNat = f11181.toInt.toNat by omega, hb11372]; omega) (by omega) (by have q := congrArg Int32.toInt ((M11504.2 1 3 (Or.inr (by decide))).trans ((M11449.2 1 3 (Or.inr (by decide))).trans ((M11437.2 1 3 (Or.inr (by decide))).trans ((M11387.2 1 3 (Or.inr (by decide))).trans z11177)))); omega) (by have q := congrArg Int32.toInt ((M11504.2 1 4 (Or.inr (by decide))).trans M11449.1); omega) (by have q := congrArg Int32.toInt M11504.1; omega) (by have q := congrArg Int32.toInt ((M11504.2 1 8 (Or.inr (by decide))).trans ((M11449.2 1 8 (Or.inr (by decide))).trans M11437.1)); omega))⟩ dX7_step_392
                                      ·
                                        refine r_aload_n S dX7_step_331 rfl (lv_at hl 1 rfl) ?_
                                        refine r_geti (K := 1) S X11450 (Nat.le_of_ble_eq_true rfl) rfl lk7_43_7 (fun _ => ⟨_, rfl, rfl⟩) ((M11449.2 1 8 (Or.inr (by decide))).trans M11437.1) dX7_step_332 ?_
                                        refine r_bipush S dX7_step_335 (by decide) (fun v11508 z11509 => ?_)
                                        have r11510 := R_eq z11509
                                        refine r_icmp_eq (tgt := 349) S dX7_step_337 (by decide) (fun c11511 => ?_) (fun c11511 => ?_)
                                        ·
                                          have r11512 : R (40) (40) v11432 := ⟨by omega, by omega⟩
                                          refine r_iconst S dX7_step_349 (by decide) (fun v11513 z11514 => ?_)
                                          have r11515 := R_eq z11514
                                          refine r_goto (tgt := 354) S dX7_step_350 (by decide) ?_
                                          refine r_put (K := 1) (ty := .int) S X11450 (Nat.le_of_ble_eq_true rfl) rfl lk7_31_7 (fun _ => ⟨_, rfl, Nat.le_of_ble_eq_true rfl, rfl⟩) (fun _ _ _ h => by cases h; exact ⟨rfl, rfl⟩) rfl rfl dX7_step_354 (fun t11516 H lc M11517 X11518 => ?_)
                                          have I11519 := Inv_mu I11451 M11517 (show Rg (kd 1) 5 v11513 from (R_of (lo := 0) (hi := 4) r11515 rfl))
                                          have F11520 : Fr [(1, 3), (1, 4), (1, 5), (1, 7), (1, 8)] [201] τ t11516 := Fr_mu F11452 M11517 (by decide)
                                          refine r_goto (tgt := 392) S dX7_step_357 (by decide) ?_
                                          exact r_vret S hr hlk X11518 ⟨I11519, F11520, (RT_sign (A := f6188.toInt.toNat) (RB_eq hB (F11520 1 1 (by simp [fz])) (F11520 1 2 (by simp [fz])) (fun j => F11520 2 j (by simp [fz]))) ⟨by omega, by omega, x6192, fun _ => by omega⟩ (by omega) (by omega) (by rw [show f6188.toInt.toNat = f11181.toInt.toNat by omega, hb11372]; omega) (by omega) (by have q := congrArg Int32.toInt ((M11517.2 1 3 (Or.inr (by decide))).trans ((M11449.2 1 3 (Or.inr (by decide))).trans ((M11437.2 1 3 (Or.inr (by decide))).trans ((M11387.2 1 3 (Or.inr (by decide))).trans z11177)))); omega) (by have q := congrArg Int32.toInt ((M11517.2 1 4 (Or.inr (by decide))).trans M11449.1); omega) (by have q := congrArg Int32.toInt M11517.1; omega) (by have q := congrArg Int32.toInt ((M11517.2 1 8 (Or.inr (by decide))).trans ((M11449.2 1 8 (Or.inr (by decide))).trans M11437.1)); omega))⟩ dX7_step_392
                                        ·
                                          refine r_aload_n S dX7_step_340 rfl (lv_at hl 1 rfl) ?_
                                          refine r_geti (K := 1) S X11450 (Nat.le_of_ble_eq_true rfl) rfl lk7_43_7 (fun _ => ⟨_, rfl, rfl⟩) ((M11449.2 1 8 (Or.inr (by decide))).trans M11437.1) dX7_step_341 ?_
                                          refine r_bipush S dX7_step_344 (by decide) (fun v11521 z11522 => ?_)
                                          have r11523 := R_eq z11522
                                          refine r_icmp_ne (tgt := 353) S dX7_step_346 (by decide) (fun c11524 => ?_) (fun c11524 => ?_)
                                          ·
                                            refine r_iconst S dX7_step_353 (by decide) (fun v11525 z11526 => ?_)
                                            have r11527 := R_eq z11526
                                            refine r_put (K := 1) (ty := .int) S X11450 (Nat.le_of_ble_eq_true rfl) rfl lk7_31_7 (fun _ => ⟨_, rfl, Nat.le_of_ble_eq_true rfl, rfl⟩) (fun _ _ _ h => by cases h; exact ⟨rfl, rfl⟩) rfl rfl dX7_step_354 (fun t11528 H lc M11529 X11530 => ?_)
                                            have I11531 := Inv_mu I11451 M11529 (show Rg (kd 1) 5 v11525 from (R_of (lo := 0) (hi := 4) r11527 rfl))
                                            have F11532 : Fr [(1, 3), (1, 4), (1, 5), (1, 7), (1, 8)] [201] τ t11528 := Fr_mu F11452 M11529 (by decide)
                                            refine r_goto (tgt := 392) S dX7_step_357 (by decide) ?_
                                            exact r_vret S hr hlk X11530 ⟨I11531, F11532, (RT_none (A := f6188.toInt.toNat) (RB_eq hB (F11532 1 1 (by simp [fz])) (F11532 1 2 (by simp [fz])) (fun j => F11532 2 j (by simp [fz]))) ⟨by omega, by omega, x6192, fun _ => by omega⟩ (by omega) (by omega) (by rw [show f6188.toInt.toNat = f11181.toInt.toNat by omega, hb11372]; omega) (by omega) (by have q := congrArg Int32.toInt ((M11529.2 1 3 (Or.inr (by decide))).trans ((M11449.2 1 3 (Or.inr (by decide))).trans ((M11437.2 1 3 (Or.inr (by decide))).trans ((M11387.2 1 3 (Or.inr (by decide))).trans z11177)))); omega) (by have q := congrArg Int32.toInt M11529.1; omega))⟩ dX7_step_392
                                          ·
                                            have r11533 : R (41) (41) v11432 := ⟨by omega, by omega⟩
                                            refine r_iconst S dX7_step_349 (by decide) (fun v11534 z11535 => ?_)
                                            have r11536 := R_eq z11535
                                            refine r_goto (tgt := 354) S dX7_step_350 (by decide) ?_
                                            refine r_put (K := 1) (ty := .int) S X11450 (Nat.le_of_ble_eq_true rfl) rfl lk7_31_7 (fun _ => ⟨_, rfl, Nat.le_of_ble_eq_true rfl, rfl⟩) (fun _ _ _ h => by cases h; exact ⟨rfl, rfl⟩) rfl rfl dX7_step_354 (fun t11537 H lc M11538 X11539 => ?_)
                                            have I11540 := Inv_mu I11451 M11538 (show Rg (kd 1) 5 v11534 from (R_of (lo := 0) (hi := 4) r11536 rfl))
                                            have F11541 : Fr [(1, 3), (1, 4), (1, 5), (1, 7), (1, 8)] [201] τ t11537 := Fr_mu F11452 M11538 (by decide)
                                            refine r_goto (tgt := 392) S dX7_step_357 (by decide) ?_
                                            exact r_vret S hr hlk X11539 ⟨I11540, F11541, (RT_sign (A := f6188.toInt.toNat) (RB_eq hB (F11541 1 1 (by simp [fz])) (F11541 1 2 (by simp [fz])) (fun j => F11541 2 j (by simp [fz]))) ⟨by omega, by omega, x6192, fun _ => by omega⟩ (by omega) (by omega) (by rw [show f6188.toInt.toNat = f11181.toInt.toNat by omega, hb11372]; omega) (by omega) (by have q := congrArg Int32.toInt ((M11538.2 1 3 (Or.inr (by decide))).trans ((M11449.2 1 3 (Or.inr (by decide))).trans ((M11437.2 1 3 (Or.inr (by decide))).trans ((M11387.2 1 3 (Or.inr (by decide))).trans z11177)))); omega) (by have q := congrArg Int32.toInt ((M11538.2 1 4 (Or.inr (by decide))).trans M11449.1); omega) (by have q := congrArg Int32.toInt M11538.1; omega) (by have q := congrArg Int32.toInt ((M11538.2 1 8 (Or.inr (by decide))).trans ((M11449.2 1 8 (Or.inr (by decide))).trans M11437.1)); omega))⟩ dX7_step_392
                                  ·
                                    have r11542 : R (62) (62) v11432 := ⟨by omega, by omega⟩
                                    refine r_iconst S dX7_step_309 (by decide) (fun v11543 z11544 => ?_)
                                    have r11545 := R_eq z11544
                                    refine r_goto (tgt := 314) S dX7_step_310 (by decide) ?_
                                    refine r_istore (lv' := [(4, .int v11543), (0, .ref (G.2.2.2.1 1)), (2, .int i11167), (3, .int i11169)]) S dX7_step_314 hl (by decide) rfl (fun ls hl => ?_)
                                    refine r_aload_n S dX7_step_316 rfl (lv_at hl 1 rfl) ?_
                                    refine r_iload S dX7_step_317 (lv_at hl 0 rfl) ?_
                                    refine r_if_ne (tgt := 349) S dX7_step_319 (by decide) (fun c11546 => ?_) (fun c11546 => ?_)
                                    ·
                                      refine r_iconst S dX7_step_349 (by decide) (fun v11547 z11548 => ?_)
                                      have r11549 := R_eq z11548
                                      refine r_goto (tgt := 354) S dX7_step_350 (by decide) ?_
                                      refine r_put (K := 1) (ty := .int) S X11450 (Nat.le_of_ble_eq_true rfl) rfl lk7_31_7 (fun _ => ⟨_, rfl, Nat.le_of_ble_eq_true rfl, rfl⟩) (fun _ _ _ h => by cases h; exact ⟨rfl, rfl⟩) rfl rfl dX7_step_354 (fun t11550 H lc M11551 X11552 => ?_)
                                      have I11553 := Inv_mu I11451 M11551 (show Rg (kd 1) 5 v11547 from (R_of (lo := 0) (hi := 4) r11549 rfl))
                                      have F11554 : Fr [(1, 3), (1, 4), (1, 5), (1, 7), (1, 8)] [201] τ t11550 := Fr_mu F11452 M11551 (by decide)
                                      refine r_goto (tgt := 392) S dX7_step_357 (by decide) ?_
                                      exact r_vret S hr hlk X11552 ⟨I11553, F11554, (RT_sign (A := f6188.toInt.toNat) (RB_eq hB (F11554 1 1 (by simp [fz])) (F11554 1 2 (by simp [fz])) (fun j => F11554 2 j (by simp [fz]))) ⟨by omega, by omega, x6192, fun _ => by omega⟩ (by omega) (by omega) (by rw [show f6188.toInt.toNat = f11181.toInt.toNat by omega, hb11372]; omega) (by omega) (by have q := congrArg Int32.toInt ((M11551.2 1 3 (Or.inr (by decide))).trans ((M11449.2 1 3 (Or.inr (by decide))).trans ((M11437.2 1 3 (Or.inr (by decide))).trans ((M11387.2 1 3 (Or.inr (by decide))).trans z11177)))); omega) (by have q := congrArg Int32.toInt ((M11551.2 1 4 (Or.inr (by decide))).trans M11449.1); omega) (by have q := congrArg Int32.toInt M11551.1; omega) (by have q := congrArg Int32.toInt ((M11551.2 1 8 (Or.inr (by decide))).trans ((M11449.2 1 8 (Or.inr (by decide))).trans M11437.1)); omega))⟩ dX7_step_392
                                    ·
                                      exfalso; omega
                        ·
                          have r11555 : R (48) (96) v11369 := ⟨by omega, by omega⟩
                          refine r_iload S dX7_step_206 (lv_at hl 0 rfl) ?_
                          refine r_bipush S dX7_step_208 (by decide) (fun v11556 z11557 => ?_)
                          have r11558 := R_eq z11557
                          refine r_icmp_gt (tgt := 246) S dX7_step_210 (by decide) (fun c11559 => ?_) (fun c11559 => ?_)
                          ·
                            have r11560 : R (58) (96) v11369 := ⟨by omega, by omega⟩
                            refine r_aload_n S dX7_step_246 rfl (lv_at hl 1 rfl) ?_
                            refine r_iconst S dX7_step_247 (by decide) (fun v11561 z11562 => ?_)
                            have r11563 := R_eq z11562
                            refine r_put (K := 1) (ty := .int) S X11174 (Nat.le_of_ble_eq_true rfl) rfl lk7_31_7 (fun _ => ⟨_, rfl, Nat.le_of_ble_eq_true rfl, rfl⟩) (fun _ _ _ h => by cases h; exact ⟨rfl, rfl⟩) rfl rfl dX7_step_248 (fun t11564 H lc M11565 X11566 => ?_)
                            have I11567 := Inv_mu I11172 M11565 (show Rg (kd 1) 5 v11561 from (R_of (lo := 0) (hi := 4) r11563 rfl))
                            have F11568 : Fr [(1, 3), (1, 4), (1, 5), (1, 7), (1, 8)] [201] τ t11564 := Fr_mu F11173 M11565 (by decide)
                            refine r_iload_n S dX7_step_251 rfl (lv_at hl 2 rfl) ?_
                            refine r_if_ne (tgt := 360) S dX7_step_252 (by decide) (fun c11569 => ?_) (fun c11569 => ?_)
                            ·
                              have r11570 : R (1) (940) i11167 := ⟨by omega, by omega⟩
                              refine r_iload_n S dX7_step_360 rfl (lv_at hl 3 rfl) ?_
                              refine r_if_ne (tgt := 378) S dX7_step_361 (by decide) (fun c11571 => ?_) (fun c11571 => ?_)
                              ·
                                have r11572 : R (1) (940) i11169 := ⟨by omega, by omega⟩
                                refine r_iload_n S dX7_step_378 rfl (lv_at hl 2 rfl) ?_
                                refine r_if_ne (tgt := 392) S dX7_step_379 (by decide) (fun c11573 => ?_) (fun c11573 => ?_)
                                ·
                                  exact r_vret S hr hlk X11566 ⟨I11567, F11568, (RT_odd (A := f6188.toInt.toNat) (i := f11181.toInt.toNat) (le := i11167.toInt) (di := i11169.toInt) x11185 (RB_eq hB (F11568 1 1 (by simp [fz])) (F11568 1 2 (by simp [fz])) (fun j => F11568 2 j (by simp [fz]))) ⟨by omega, by omega, x6192, fun _ => by omega⟩ (by omega) (by omega) (fun _ => by omega) (by omega) (by omega) (by omega) (by have q := congrArg Int32.toInt ((M11565.2 1 3 (Or.inr (by decide))).trans z11177); omega) (by have q := congrArg Int32.toInt M11565.1; omega))⟩ dX7_step_392
                                ·
                                  exfalso; omega
                              ·
                                have r11574 : R (0) (0) i11169 := ⟨by omega, by omega⟩
                                refine r_iload_n S dX7_step_364 rfl (lv_at hl 2 rfl) ?_
                                refine r_bipush S dX7_step_365 (by decide) (fun v11575 z11576 => ?_)
                                have r11577 := R_eq z11576
                                refine r_icmp_gt (tgt := 378) S dX7_step_367 (by decide) (fun c11578 => ?_) (fun c11578 => ?_)
                                ·
                                  have r11579 : R (8) (940) i11167 := ⟨by omega, by omega⟩
                                  refine r_iload_n S dX7_step_378 rfl (lv_at hl 2 rfl) ?_
                                  refine r_if_ne (tgt := 392) S dX7_step_379 (by decide) (fun c11580 => ?_) (fun c11580 => ?_)
                                  ·
                                    exact r_vret S hr hlk X11566 ⟨I11567, F11568, (RT_odd (A := f6188.toInt.toNat) (i := f11181.toInt.toNat) (le := i11167.toInt) (di := i11169.toInt) x11185 (RB_eq hB (F11568 1 1 (by simp [fz])) (F11568 1 2 (by simp [fz])) (fun j => F11568 2 j (by simp [fz]))) ⟨by omega, by omega, x6192, fun _ => by omega⟩ (by omega) (by omega) (fun _ => by omega) (by omega) (by omega) (by omega) (by have q := congrArg Int32.toInt ((M11565.2 1 3 (Or.inr (by decide))).trans z11177); omega) (by have q := congrArg Int32.toInt M11565.1; omega))⟩ dX7_step_392
                                  ·
                                    exfalso; omega
                                ·
                                  have r11581 : R (1) (7) i11167 := ⟨by omega, by omega⟩
                                  refine r_aload_n S dX7_step_370 rfl (lv_at hl 1 rfl) ?_
                                  refine r_iconst S dX7_step_371 (by decide) (fun v11582 z11583 => ?_)
                                  have r11584 := R_eq z11583
                                  refine r_put (K := 1) (ty := .int) S X11566 (Nat.le_of_ble_eq_true rfl) rfl lk7_31_7 (fun _ => ⟨_, rfl, Nat.le_of_ble_eq_true rfl, rfl⟩) (fun _ _ _ h => by cases h; exact ⟨rfl, rfl⟩) rfl rfl dX7_step_372 (fun t11585 H lc M11586 X11587 => ?_)
                                  have I11588 := Inv_mu I11567 M11586 (show Rg (kd 1) 5 v11582 from (R_of (lo := 0) (hi := 4) r11584 rfl))
                                  have F11589 : Fr [(1, 3), (1, 4), (1, 5), (1, 7), (1, 8)] [201] τ t11585 := Fr_mu F11568 M11586 (by decide)
                                  refine r_goto (tgt := 392) S dX7_step_375 (by decide) ?_
                                  exact r_vret S hr hlk X11587 ⟨I11588, F11589, (RT_word (A := f6188.toInt.toNat) (i := f11181.toInt.toNat) (le := i11167.toInt) (di := i11169.toInt) (nu := f11178.toInt) (by rw [(qof_of (k := 1) (fun j => ((M11586.2 201 j (Or.inl (by decide))).trans ((M11565.2 201 j (Or.inl (by decide))).trans rfl))) 6)]; exact x11185) (RB_eq hB (F11589 1 1 (by simp [fz])) (F11589 1 2 (by simp [fz])) (fun j => F11589 2 j (by simp [fz]))) ⟨by omega, by omega, x6192, fun _ => by omega⟩ (by omega) (by omega) (fun _ => by omega) (by omega) (by omega) (by have q := congrArg Int32.toInt ((M11586.2 1 3 (Or.inr (by decide))).trans ((M11565.2 1 3 (Or.inr (by decide))).trans z11177)); omega) (by have q := congrArg Int32.toInt ((M11586.2 1 4 (Or.inr (by decide))).trans ((M11565.2 1 4 (Or.inr (by decide))).trans z11183)); omega) (by have q := congrArg Int32.toInt M11586.1; omega))⟩ dX7_step_392
                            ·
                              have r11590 : R (0) (0) i11167 := ⟨by omega, by omega⟩
                              refine r_iload_n S dX7_step_255 rfl (lv_at hl 3 rfl) ?_
                              refine r_if_ne (tgt := 360) S dX7_step_256 (by decide) (fun c11591 => ?_) (fun c11591 => ?_)
                              ·
                                have r11592 : R (1) (940) i11169 := ⟨by omega, by omega⟩
                                refine r_iload_n S dX7_step_360 rfl (lv_at hl 3 rfl) ?_
                                refine r_if_ne (tgt := 378) S dX7_step_361 (by decide) (fun c11593 => ?_) (fun c11593 => ?_)
                                ·
                                  refine r_iload_n S dX7_step_378 rfl (lv_at hl 2 rfl) ?_
                                  refine r_if_ne (tgt := 392) S dX7_step_379 (by decide) (fun c11594 => ?_) (fun c11594 => ?_)
                                  ·
                                    exfalso; omega
                                  ·
                                    refine r_iload_n S dX7_step_382 rfl (lv_at hl 3 rfl) ?_
                                    refine r_iconst S dX7_step_383 (by decide) (fun v11595 z11596 => ?_)
                                    have r11597 := R_eq z11596
                                    refine r_icmp_gt (tgt := 392) S dX7_step_384 (by decide) (fun c11598 => ?_) (fun c11598 => ?_)
                                    ·
                                      have r11599 : R (3) (940) i11169 := ⟨by omega, by omega⟩
                                      exact r_vret S hr hlk X11566 ⟨I11567, F11568, (RT_odd (A := f6188.toInt.toNat) (i := f11181.toInt.toNat) (le := i11167.toInt) (di := i11169.toInt) x11185 (RB_eq hB (F11568 1 1 (by simp [fz])) (F11568 1 2 (by simp [fz])) (fun j => F11568 2 j (by simp [fz]))) ⟨by omega, by omega, x6192, fun _ => by omega⟩ (by omega) (by omega) (fun _ => by omega) (by omega) (by omega) (by omega) (by have q := congrArg Int32.toInt ((M11565.2 1 3 (Or.inr (by decide))).trans z11177); omega) (by have q := congrArg Int32.toInt M11565.1; omega))⟩ dX7_step_392
                                    ·
                                      have r11600 : R (1) (2) i11169 := ⟨by omega, by omega⟩
                                      refine r_aload_n S dX7_step_387 rfl (lv_at hl 1 rfl) ?_
                                      refine r_iconst S dX7_step_388 (by decide) (fun v11601 z11602 => ?_)
                                      have r11603 := R_eq z11602
                                      refine r_put (K := 1) (ty := .int) S X11566 (Nat.le_of_ble_eq_true rfl) rfl lk7_31_7 (fun _ => ⟨_, rfl, Nat.le_of_ble_eq_true rfl, rfl⟩) (fun _ _ _ h => by cases h; exact ⟨rfl, rfl⟩) rfl rfl dX7_step_389 (fun t11604 H lc M11605 X11606 => ?_)
                                      have I11607 := Inv_mu I11567 M11605 (show Rg (kd 1) 5 v11601 from (R_of (lo := 0) (hi := 4) r11603 rfl))
                                      have F11608 : Fr [(1, 3), (1, 4), (1, 5), (1, 7), (1, 8)] [201] τ t11604 := Fr_mu F11568 M11605 (by decide)
                                      exact r_vret S hr hlk X11606 ⟨I11607, F11608, (RT_nbr (A := f6188.toInt.toNat) (i := f11181.toInt.toNat) (le := i11167.toInt) (di := i11169.toInt) (sp := (qof t11171 1 6).toInt) (by rw [((M11605.2 1 7 (Or.inr (by decide))).trans ((M11565.2 1 7 (Or.inr (by decide))).trans z11180))]; exact x11185) (RB_eq hB (F11608 1 1 (by simp [fz])) (F11608 1 2 (by simp [fz])) (fun j => F11608 2 j (by simp [fz]))) ⟨by omega, by omega, x6192, fun _ => by omega⟩ (by omega) (by omega) (fun _ => by omega) (by omega) (by omega) (by have q := congrArg Int32.toInt ((M11605.2 1 3 (Or.inr (by decide))).trans ((M11565.2 1 3 (Or.inr (by decide))).trans z11177)); omega) (by have q := congrArg Int32.toInt ((M11605.2 1 4 (Or.inr (by decide))).trans ((M11565.2 1 4 (Or.inr (by decide))).trans z11183)); omega) (by have q := congrArg Int32.toInt M11605.1; omega))⟩ dX7_step_392
                                ·
                                  exfalso; omega
                              ·
                                have r11609 : R (0) (0) i11169 := ⟨by omega, by omega⟩
                                refine r_aload_n S dX7_step_259 rfl (lv_at hl 1 rfl) ?_
                                refine r_aload_n S dX7_step_260 rfl (lv_at hl 1 rfl) ?_
                                refine r_get (K := 1) (v := .ref (G.2.2.2.1 2)) S X11566 (Nat.le_of_ble_eq_true rfl) rfl lk7_9_7 (fun _ => ⟨_, rfl, rfl⟩) dX7_step_261 ?_
                                refine r_aload_n S dX7_step_264 rfl (lv_at hl 1 rfl) ?_
                                refine r_geti (K := 1) S X11566 (Nat.le_of_ble_eq_true rfl) rfl lk7_28_7 (fun _ => ⟨_, rfl, rfl⟩) ((M11565.2 1 3 (Or.inr (by decide))).trans z11177) dX7_step_265 ?_
                                refine r_aldn (n := 940) (K := 2) S X11566 (Nat.le_of_ble_eq_true rfl) rfl (fun _ => rfl) (ix_of r6223 rfl) dX7_step_268 (fun v11610 z11611 => ?_)
                                have r11612 : R (0) (255) v11610 := rd I11567 rfl z11611
                                have hb11613 : bb f6188.toInt.toNat = v11610.toInt := RB_at hB (fun j => F11568 2 j (by simp [fz])) z11611 ⟨by omega, by omega⟩
                                refine r_put (K := 1) (ty := .int) S X11566 (Nat.le_of_ble_eq_true rfl) rfl lk7_43_7 (fun _ => ⟨_, rfl, Nat.le_of_ble_eq_true rfl, rfl⟩) (fun _ _ _ h => by cases h; exact ⟨rfl, rfl⟩) rfl rfl dX7_step_269 (fun t11614 H lc M11615 X11616 => ?_)
                                have I11617 := Inv_mu I11567 M11615 (R_any v11610)
                                have F11618 : Fr [(1, 3), (1, 4), (1, 5), (1, 7), (1, 8)] [201] τ t11614 := Fr_mu F11568 M11615 (by decide)
                                refine r_aload_n S dX7_step_272 rfl (lv_at hl 1 rfl) ?_
                                refine r_aload_n S dX7_step_273 rfl (lv_at hl 1 rfl) ?_
                                refine r_geti (K := 1) S X11616 (Nat.le_of_ble_eq_true rfl) rfl lk7_28_7 (fun _ => ⟨_, rfl, rfl⟩) ((M11615.2 1 3 (Or.inr (by decide))).trans ((M11565.2 1 3 (Or.inr (by decide))).trans z11177)) dX7_step_274 ?_
                                refine r_iconst S dX7_step_277 (by decide) (fun v11619 z11620 => ?_)
                                have r11621 := R_eq z11620
                                refine r_iadd S dX7_step_278 (fun v11622 z11623 => ?_)
                                obtain ⟨e11624, r11625⟩ := i_add (lo := 1) (hi := 899) z11623 r6223 r11621 rfl
                                refine r_put (K := 1) (ty := .int) S X11616 (Nat.le_of_ble_eq_true rfl) rfl lk7_22_7 (fun _ => ⟨_, rfl, Nat.le_of_ble_eq_true rfl, rfl⟩) (fun _ _ _ h => by cases h; exact ⟨rfl, rfl⟩) rfl rfl dX7_step_279 (fun t11626 H lc M11627 X11628 => ?_)
                                have I11629 := Inv_mu I11617 M11627 (show Rg (kd 1) 4 v11622 from (R_of (lo := 0) (hi := 940) r11625 rfl))
                                have F11630 : Fr [(1, 3), (1, 4), (1, 5), (1, 7), (1, 8)] [201] τ t11626 := Fr_mu F11618 M11627 (by decide)
                                refine r_aload_n S dX7_step_282 rfl (lv_at hl 1 rfl) ?_
                                refine r_geti (K := 1) S X11628 (Nat.le_of_ble_eq_true rfl) rfl lk7_43_7 (fun _ => ⟨_, rfl, rfl⟩) ((M11627.2 1 8 (Or.inr (by decide))).trans M11615.1) dX7_step_283 ?_
                                refine r_bipush S dX7_step_286 (by decide) (fun v11631 z11632 => ?_)
                                have r11633 := R_eq z11632
                                refine r_icmp_eq (tgt := 309) S dX7_step_288 (by decide) (fun c11634 => ?_) (fun c11634 => ?_)
                                ·
                                  have r11635 : R (60) (60) v11610 := ⟨by omega, by omega⟩
                                  refine r_iconst S dX7_step_309 (by decide) (fun v11636 z11637 => ?_)
                                  have r11638 := R_eq z11637
                                  refine r_goto (tgt := 314) S dX7_step_310 (by decide) ?_
                                  refine r_istore (lv' := [(4, .int v11636), (0, .ref (G.2.2.2.1 1)), (2, .int i11167), (3, .int i11169)]) S dX7_step_314 hl (by decide) rfl (fun ls hl => ?_)
                                  refine r_aload_n S dX7_step_316 rfl (lv_at hl 1 rfl) ?_
                                  refine r_iload S dX7_step_317 (lv_at hl 0 rfl) ?_
                                  refine r_if_ne (tgt := 349) S dX7_step_319 (by decide) (fun c11639 => ?_) (fun c11639 => ?_)
                                  ·
                                    refine r_iconst S dX7_step_349 (by decide) (fun v11640 z11641 => ?_)
                                    have r11642 := R_eq z11641
                                    refine r_goto (tgt := 354) S dX7_step_350 (by decide) ?_
                                    refine r_put (K := 1) (ty := .int) S X11628 (Nat.le_of_ble_eq_true rfl) rfl lk7_31_7 (fun _ => ⟨_, rfl, Nat.le_of_ble_eq_true rfl, rfl⟩) (fun _ _ _ h => by cases h; exact ⟨rfl, rfl⟩) rfl rfl dX7_step_354 (fun t11643 H lc M11644 X11645 => ?_)
                                    have I11646 := Inv_mu I11629 M11644 (show Rg (kd 1) 5 v11640 from (R_of (lo := 0) (hi := 4) r11642 rfl))
                                    have F11647 : Fr [(1, 3), (1, 4), (1, 5), (1, 7), (1, 8)] [201] τ t11643 := Fr_mu F11630 M11644 (by decide)
                                    refine r_goto (tgt := 392) S dX7_step_357 (by decide) ?_
                                    exact r_vret S hr hlk X11645 ⟨I11646, F11647, (RT_sign (A := f6188.toInt.toNat) (RB_eq hB (F11647 1 1 (by simp [fz])) (F11647 1 2 (by simp [fz])) (fun j => F11647 2 j (by simp [fz]))) ⟨by omega, by omega, x6192, fun _ => by omega⟩ (by omega) (by omega) (by rw [show f6188.toInt.toNat = f11181.toInt.toNat by omega, hb11372]; omega) (by omega) (by have q := congrArg Int32.toInt ((M11644.2 1 3 (Or.inr (by decide))).trans ((M11627.2 1 3 (Or.inr (by decide))).trans ((M11615.2 1 3 (Or.inr (by decide))).trans ((M11565.2 1 3 (Or.inr (by decide))).trans z11177)))); omega) (by have q := congrArg Int32.toInt ((M11644.2 1 4 (Or.inr (by decide))).trans M11627.1); omega) (by have q := congrArg Int32.toInt M11644.1; omega) (by have q := congrArg Int32.toInt ((M11644.2 1 8 (Or.inr (by decide))).trans ((M11627.2 1 8 (Or.inr (by decide))).trans M11615.1)); omega))⟩ dX7_step_392
                                  ·
                                    exfalso; omega
                                ·
                                  refine r_aload_n S dX7_step_291 rfl (lv_at hl 1 rfl) ?_
                                  refine r_geti (K := 1) S X11628 (Nat.le_of_ble_eq_true rfl) rfl lk7_43_7 (fun _ => ⟨_, rfl, rfl⟩) ((M11627.2 1 8 (Or.inr (by decide))).trans M11615.1) dX7_step_292 ?_
                                  refine r_bipush S dX7_step_295 (by decide) (fun v11648 z11649 => ?_)
                                  have r11650 := R_eq z11649
                                  refine r_icmp_eq (tgt := 309) S dX7_step_297 (by decide) (fun c11651 => ?_) (fun c11651 => ?_)
                                  ·
                                    have r11652 : R (61) (61) v11610 := ⟨by omega, by omega⟩
                                    refine r_iconst S dX7_step_309 (by decide) (fun v11653 z11654 => ?_)
                                    have r11655 := R_eq z11654
                                    refine r_goto (tgt := 314) S dX7_step_310 (by decide) ?_
                                    refine r_istore (lv' := [(4, .int v11653), (0, .ref (G.2.2.2.1 1)), (2, .int i11167), (3, .int i11169)]) S dX7_step_314 hl (by decide) rfl (fun ls hl => ?_)
                                    refine r_aload_n S dX7_step_316 rfl (lv_at hl 1 rfl) ?_
                                    refine r_iload S dX7_step_317 (lv_at hl 0 rfl) ?_
                                    refine r_if_ne (tgt := 349) S dX7_step_319 (by decide) (fun c11656 => ?_) (fun c11656 => ?_)
                                    ·
                                      refine r_iconst S dX7_step_349 (by decide) (fun v11657 z11658 => ?_)
                                      have r11659 := R_eq z11658
                                      refine r_goto (tgt := 354) S dX7_step_350 (by decide) ?_
                                      refine r_put (K := 1) (ty := .int) S X11628 (Nat.le_of_ble_eq_true rfl) rfl lk7_31_7 (fun _ => ⟨_, rfl, Nat.le_of_ble_eq_true rfl, rfl⟩) (fun _ _ _ h => by cases h; exact ⟨rfl, rfl⟩) rfl rfl dX7_step_354 (fun t11660 H lc M11661 X11662 => ?_)
                                      have I11663 := Inv_mu I11629 M11661 (show Rg (kd 1) 5 v11657 from (R_of (lo := 0) (hi := 4) r11659 rfl))
                                      have F11664 : Fr [(1, 3), (1, 4), (1, 5), (1, 7), (1, 8)] [201] τ t11660 := Fr_mu F11630 M11661 (by decide)
                                      refine r_goto (tgt := 392) S dX7_step_357 (by decide) ?_
                                      exact r_vret S hr hlk X11662 ⟨I11663, F11664, (RT_sign (A := f6188.toInt.toNat) (RB_eq hB (F11664 1 1 (by simp [fz])) (F11664 1 2 (by simp [fz])) (fun j => F11664 2 j (by simp [fz]))) ⟨by omega, by omega, x6192, fun _ => by omega⟩ (by omega) (by omega) (by rw [show f6188.toInt.toNat = f11181.toInt.toNat by omega, hb11372]; omega) (by omega) (by have q := congrArg Int32.toInt ((M11661.2 1 3 (Or.inr (by decide))).trans ((M11627.2 1 3 (Or.inr (by decide))).trans ((M11615.2 1 3 (Or.inr (by decide))).trans ((M11565.2 1 3 (Or.inr (by decide))).trans z11177)))); omega) (by have q := congrArg Int32.toInt ((M11661.2 1 4 (Or.inr (by decide))).trans M11627.1); omega) (by have q := congrArg Int32.toInt M11661.1; omega) (by have q := congrArg Int32.toInt ((M11661.2 1 8 (Or.inr (by decide))).trans ((M11627.2 1 8 (Or.inr (by decide))).trans M11615.1)); omega))⟩ dX7_step_392
                                    ·
                                      exfalso; omega
                                  ·
                                    refine r_aload_n S dX7_step_300 rfl (lv_at hl 1 rfl) ?_
                                    refine r_geti (K := 1) S X11628 (Nat.le_of_ble_eq_true rfl) rfl lk7_43_7 (fun _ => ⟨_, rfl, rfl⟩) ((M11627.2 1 8 (Or.inr (by decide))).trans M11615.1) dX7_step_301 ?_
                                    refine r_bipush S dX7_step_304 (by decide) (fun v11665 z11666 => ?_)
                                    have r11667 := R_eq z11666
                                    refine r_icmp_ne (tgt := 313) S dX7_step_306 (by decide) (fun c11668 => ?_) (fun c11668 => ?_)
                                    ·
                                      refine r_iconst S dX7_step_313 (by decide) (fun v11669 z11670 => ?_)
                                      have r11671 := R_eq z11670
                                      refine r_istore (lv' := [(4, .int v11669), (0, .ref (G.2.2.2.1 1)), (2, .int i11167), (3, .int i11169)]) S dX7_step_314 hl (by decide) rfl (fun ls hl => ?_)
                                      refine r_aload_n S dX7_step_316 rfl (lv_at hl 1 rfl) ?_
                                      refine r_iload S dX7_step_317 (lv_at hl 0 rfl) ?_
                                      refine r_if_ne (tgt := 349) S dX7_step_319 (by decide) (fun c11672 => ?_) (fun c11672 => ?_)
                                      ·
                                        exfalso; omega
                                      ·
                                        refine r_aload_n S dX7_step_322 rfl (lv_at hl 1 rfl) ?_
                                        refine r_geti (K := 1) S X11628 (Nat.le_of_ble_eq_true rfl) rfl lk7_43_7 (fun _ => ⟨_, rfl, rfl⟩) ((M11627.2 1 8 (Or.inr (by decide))).trans M11615.1) dX7_step_323 ?_
                                        refine r_bipush S dX7_step_326 (by decide) (fun v11673 z11674 => ?_)
                                        have r11675 := R_eq z11674
                                        refine r_icmp_eq (tgt := 349) S dX7_step_328 (by decide) (fun c11676 => ?_) (fun c11676 => ?_)
                                        ·
                                          have r11677 : R (59) (59) v11610 := ⟨by omega, by omega⟩
                                          refine r_iconst S dX7_step_349 (by decide) (fun v11678 z11679 => ?_)
                                          have r11680 := R_eq z11679
                                          refine r_goto (tgt := 354) S dX7_step_350 (by decide) ?_
                                          refine r_put (K := 1) (ty := .int) S X11628 (Nat.le_of_ble_eq_true rfl) rfl lk7_31_7 (fun _ => ⟨_, rfl, Nat.le_of_ble_eq_true rfl, rfl⟩) (fun _ _ _ h => by cases h; exact ⟨rfl, rfl⟩) rfl rfl dX7_step_354 (fun t11681 H lc M11682 X11683 => ?_)
                                          have I11684 := Inv_mu I11629 M11682 (show Rg (kd 1) 5 v11678 from (R_of (lo := 0) (hi := 4) r11680 rfl))
                                          have F11685 : Fr [(1, 3), (1, 4), (1, 5), (1, 7), (1, 8)] [201] τ t11681 := Fr_mu F11630 M11682 (by decide)
                                          refine r_goto (tgt := 392) S dX7_step_357 (by decide) ?_
                                          exact r_vret S hr hlk X11683 ⟨I11684, F11685, (RT_sign (A := f6188.toInt.toNat) (RB_eq hB (F11685 1 1 (by simp [fz])) (F11685 1 2 (by simp [fz])) (fun j => F11685 2 j (by simp [fz]))) ⟨by omega, by omega, x6192, fun _ => by omega⟩ (by omega) (by omega) (by rw [show f6188.toInt.toNat = f11181.toInt.toNat by omega, hb11372]; omega) (by omega) (by have q := congrArg Int32.toInt ((M11682.2 1 3 (Or.inr (by decide))).trans ((M11627.2 1 3 (Or.inr (by decide))).trans ((M11615.2 1 3 (Or.inr (by decide))).trans ((M11565.2 1 3 (Or.inr (by decide))).trans z11177)))); omega) (by have q := congrArg Int32.toInt ((M11682.2 1 4 (Or.inr (by decide))).trans M11627.1); omega) (by have q := congrArg Int32.toInt M11682.1; omega) (by have q := congrArg Int32.toInt ((M11682.2 1 8 (Or.inr (by decide))).trans ((M11627.2 1 8 (Or.inr (by decide))).trans M11615.1)); omega))⟩ dX7_step_392
                                        ·
                                          refine r_aload_n S dX7_step_331 rfl (lv_at hl 1 rfl) ?_
                                          refine r_geti (K := 1) S X11628 (Nat.le_of_ble_eq_true rfl) rfl lk7_43_7 (fun _ => ⟨_, rfl, rfl⟩) ((M11627.2 1 8 (Or.inr (by decide))).trans M11615.1) dX7_step_332 ?_
                                          refine r_bipush S dX7_step_335 (by decide) (fun v11686 z11687 => ?_)
                                          have r11688 := R_eq z11687
                                          refine r_icmp_eq (tgt := 349) S dX7_step_337 (by decide) (fun c11689 => ?_) (fun c11689 => ?_)
                                          ·
                                            have r11690 : R (40) (40) v11610 := ⟨by omega, by omega⟩
                                            refine r_iconst S dX7_step_349 (by decide) (fun v11691 z11692 => ?_)
                                            have r11693 := R_eq z11692
                                            refine r_goto (tgt := 354) S dX7_step_350 (by decide) ?_
                                            refine r_put (K := 1) (ty := .int) S X11628 (Nat.le_of_ble_eq_true rfl) rfl lk7_31_7 (fun _ => ⟨_, rfl, Nat.le_of_ble_eq_true rfl, rfl⟩) (fun _ _ _ h => by cases h; exact ⟨rfl, rfl⟩) rfl rfl dX7_step_354 (fun t11694 H lc M11695 X11696 => ?_)
                                            have I11697 := Inv_mu I11629 M11695 (show Rg (kd 1) 5 v11691 from (R_of (lo := 0) (hi := 4) r11693 rfl))
                                            have F11698 : Fr [(1, 3), (1, 4), (1, 5), (1, 7), (1, 8)] [201] τ t11694 := Fr_mu F11630 M11695 (by decide)
                                            refine r_goto (tgt := 392) S dX7_step_357 (by decide) ?_
                                            exact r_vret S hr hlk X11696 ⟨I11697, F11698, (RT_sign (A := f6188.toInt.toNat) (RB_eq hB (F11698 1 1 (by simp [fz])) (F11698 1 2 (by simp [fz])) (fun j => F11698 2 j (by simp [fz]))) ⟨by omega, by omega, x6192, fun _ => by omega⟩ (by omega) (by omega) (by rw [show f6188.toInt.toNat = f11181.toInt.toNat by omega, hb11372]; omega) (by omega) (by have q := congrArg Int32.toInt ((M11695.2 1 3 (Or.inr (by decide))).trans ((M11627.2 1 3 (Or.inr (by decide))).trans ((M11615.2 1 3 (Or.inr (by decide))).trans ((M11565.2 1 3 (Or.inr (by decide))).trans z11177)))); omega) (by have q := congrArg Int32.toInt ((M11695.2 1 4 (Or.inr (by decide))).trans M11627.1); omega) (by have q := congrArg Int32.toInt M11695.1; omega) (by have q := congrArg Int32.toInt ((M11695.2 1 8 (Or.inr (by decide))).trans ((M11627.2 1 8 (Or.inr (by decide))).trans M11615.1)); omega))⟩ dX7_step_392
                                          ·
                                            refine r_aload_n S dX7_step_340 rfl (lv_at hl 1 rfl) ?_
                                            refine r_geti (K := 1) S X11628 (Nat.le_of_ble_eq_true rfl) rfl lk7_43_7 (fun _ => ⟨_, rfl, rfl⟩) ((M11627.2 1 8 (Or.inr (by decide))).trans M11615.1) dX7_step_341 ?_
                                            refine r_bipush S dX7_step_344 (by decide) (fun v11699 z11700 => ?_)
                                            have r11701 := R_eq z11700
                                            refine r_icmp_ne (tgt := 353) S dX7_step_346 (by decide) (fun c11702 => ?_) (fun c11702 => ?_)
                                            ·
                                              refine r_iconst S dX7_step_353 (by decide) (fun v11703 z11704 => ?_)
                                              have r11705 := R_eq z11704
                                              refine r_put (K := 1) (ty := .int) S X11628 (Nat.le_of_ble_eq_true rfl) rfl lk7_31_7 (fun _ => ⟨_, rfl, Nat.le_of_ble_eq_true rfl, rfl⟩) (fun _ _ _ h => by cases h; exact ⟨rfl, rfl⟩) rfl rfl dX7_step_354 (fun t11706 H lc M11707 X11708 => ?_)
                                              have I11709 := Inv_mu I11629 M11707 (show Rg (kd 1) 5 v11703 from (R_of (lo := 0) (hi := 4) r11705 rfl))
                                              have F11710 : Fr [(1, 3), (1, 4), (1, 5), (1, 7), (1, 8)] [201] τ t11706 := Fr_mu F11630 M11707 (by decide)
                                              refine r_goto (tgt := 392) S dX7_step_357 (by decide) ?_
                                              exact r_vret S hr hlk X11708 ⟨I11709, F11710, (RT_none (A := f6188.toInt.toNat) (RB_eq hB (F11710 1 1 (by simp [fz])) (F11710 1 2 (by simp [fz])) (fun j => F11710 2 j (by simp [fz]))) ⟨by omega, by omega, x6192, fun _ => by omega⟩ (by omega) (by omega) (by rw [show f6188.toInt.toNat = f11181.toInt.toNat by omega, hb11372]; omega) (by omega) (by have q := congrArg Int32.toInt ((M11707.2 1 3 (Or.inr (by decide))).trans ((M11627.2 1 3 (Or.inr (by decide))).trans ((M11615.2 1 3 (Or.inr (by decide))).trans ((M11565.2 1 3 (Or.inr (by decide))).trans z11177)))); omega) (by have q := congrArg Int32.toInt M11707.1; omega))⟩ dX7_step_392
                                            ·
                                              have r11711 : R (41) (41) v11610 := ⟨by omega, by omega⟩
                                              refine r_iconst S dX7_step_349 (by decide) (fun v11712 z11713 => ?_)
                                              have r11714 := R_eq z11713
                                              refine r_goto (tgt := 354) S dX7_step_350 (by decide) ?_
                                              refine r_put (K := 1) (ty := .int) S X11628 (Nat.le_of_ble_eq_true rfl) rfl lk7_31_7 (fun _ => ⟨_, rfl, Nat.le_of_ble_eq_true rfl, rfl⟩) (fun _ _ _ h => by cases h; exact ⟨rfl, rfl⟩) rfl rfl dX7_step_354 (fun t11715 H lc M11716 X11717 => ?_)
                                              have I11718 := Inv_mu I11629 M11716 (show Rg (kd 1) 5 v11712 from (R_of (lo := 0) (hi := 4) r11714 rfl))
                                              have F11719 : Fr [(1, 3), (1, 4), (1, 5), (1, 7), (1, 8)] [201] τ t11715 := Fr_mu F11630 M11716 (by decide)
                                              refine r_goto (tgt := 392) S dX7_step_357 (by decide) ?_
                                              exact r_vret S hr hlk X11717 ⟨I11718, F11719, (RT_sign (A := f6188.toInt.toNat) (RB_eq hB (F11719 1 1 (by simp [fz])) (F11719 1 2 (by simp [fz])) (fun j => F11719 2 j (by simp [fz]))) ⟨by omega, by omega, x6192, fun _ => by omega⟩ (by omega) (by omega) (by rw [show f6188.toInt.toNat = f11181.toInt.toNat by omega, hb11372]; omega) (by omega) (by have q := congrArg Int32.toInt ((M11716.2 1 3 (Or.inr (by decide))).trans ((M11627.2 1 3 (Or.inr (by decide))).trans ((M11615.2 1 3 (Or.inr (by decide))).trans ((M11565.2 1 3 (Or.inr (by decide))).trans z11177)))); omega) (by have q := congrArg Int32.toInt ((M11716.2 1 4 (Or.inr (by decide))).trans M11627.1); omega) (by have q := congrArg Int32.toInt M11716.1; omega) (by have q := congrArg Int32.toInt ((M11716.2 1 8 (Or.inr (by decide))).trans ((M11627.2 1 8 (Or.inr (by decide))).trans M11615.1)); omega))⟩ dX7_step_392
                                    ·
                                      have r11720 : R (62) (62) v11610 := ⟨by omega, by omega⟩
                                      refine r_iconst S dX7_step_309 (by decide) (fun v11721 z11722 => ?_)
                                      have r11723 := R_eq z11722
                                      refine r_goto (tgt := 314) S dX7_step_310 (by decide) ?_
                                      refine r_istore (lv' := [(4, .int v11721), (0, .ref (G.2.2.2.1 1)), (2, .int i11167), (3, .int i11169)]) S dX7_step_314 hl (by decide) rfl (fun ls hl => ?_)
                                      refine r_aload_n S dX7_step_316 rfl (lv_at hl 1 rfl) ?_
                                      refine r_iload S dX7_step_317 (lv_at hl 0 rfl) ?_
                                      refine r_if_ne (tgt := 349) S dX7_step_319 (by decide) (fun c11724 => ?_) (fun c11724 => ?_)
                                      ·
                                        refine r_iconst S dX7_step_349 (by decide) (fun v11725 z11726 => ?_)
                                        have r11727 := R_eq z11726
                                        refine r_goto (tgt := 354) S dX7_step_350 (by decide) ?_
                                        refine r_put (K := 1) (ty := .int) S X11628 (Nat.le_of_ble_eq_true rfl) rfl lk7_31_7 (fun _ => ⟨_, rfl, Nat.le_of_ble_eq_true rfl, rfl⟩) (fun _ _ _ h => by cases h; exact ⟨rfl, rfl⟩) rfl rfl dX7_step_354 (fun t11728 H lc M11729 X11730 => ?_)
                                        have I11731 := Inv_mu I11629 M11729 (show Rg (kd 1) 5 v11725 from (R_of (lo := 0) (hi := 4) r11727 rfl))
                                        have F11732 : Fr [(1, 3), (1, 4), (1, 5), (1, 7), (1, 8)] [201] τ t11728 := Fr_mu F11630 M11729 (by decide)
                                        refine r_goto (tgt := 392) S dX7_step_357 (by decide) ?_
                                        exact r_vret S hr hlk X11730 ⟨I11731, F11732, (RT_sign (A := f6188.toInt.toNat) (RB_eq hB (F11732 1 1 (by simp [fz])) (F11732 1 2 (by simp [fz])) (fun j => F11732 2 j (by simp [fz]))) ⟨by omega, by omega, x6192, fun _ => by omega⟩ (by omega) (by omega) (by rw [show f6188.toInt.toNat = f11181.toInt.toNat by omega, hb11372]; omega) (by omega) (by have q := congrArg Int32.toInt ((M11729.2 1 3 (Or.inr (by decide))).trans ((M11627.2 1 3 (Or.inr (by decide))).trans ((M11615.2 1 3 (Or.inr (by decide))).trans ((M11565.2 1 3 (Or.inr (by decide))).trans z11177)))); omega) (by have q := congrArg Int32.toInt ((M11729.2 1 4 (Or.inr (by decide))).trans M11627.1); omega) (by have q := congrArg Int32.toInt M11729.1; omega) (by have q := congrArg Int32.toInt ((M11729.2 1 8 (Or.inr (by decide))).trans ((M11627.2 1 8 (Or.inr (by decide))).trans M11615.1)); omega))⟩ dX7_step_392
                                      ·
                                        exfalso; omega
                          ·
                            have r11733 : R (48) (57) v11369 := ⟨by omega, by omega⟩
                            refine r_iinc (k := 3) S dX7_step_213 hl rfl (by decide) (by decide) (fun v11734 d11735 ls z11736 z11737 hl => ?_)
                            obtain ⟨e11738, r11739⟩ := i_add (lo := 1) (hi := 941) z11736 r11193 (R_eq z11737) rfl
                            have hl : lv_has ls 5 [(3, .int v11734), (4, .int v11369), (0, .ref (G.2.2.2.1 1)), (2, .int i11167)] := hl
                            refine r_aload_n S dX7_step_216 rfl (lv_at hl 2 rfl) ?_
                            refine r_aload_n S dX7_step_217 rfl (lv_at hl 2 rfl) ?_
                            refine r_geti (K := 1) S X11174 (Nat.le_of_ble_eq_true rfl) rfl lk7_38_7 (fun _ => ⟨_, rfl, rfl⟩) z11180 dX7_step_218 ?_
                            refine r_bipush S dX7_step_221 (by decide) (fun v11740 z11741 => ?_)
                            have r11742 := R_eq z11741
                            refine r_imul S dX7_step_223 (fun v11743 z11744 => ?_)
                            have r11745 := R_any v11743
                            refine r_iload S dX7_step_224 (lv_at hl 1 rfl) ?_
                            refine r_bipush S dX7_step_226 (by decide) (fun v11746 z11747 => ?_)
                            have r11748 := R_eq z11747
                            refine r_isub S dX7_step_228 (fun v11749 z11750 => ?_)
                            obtain ⟨e11751, r11752⟩ := i_sub (lo := 0) (hi := 9) z11750 r11733 r11748 rfl
                            refine r_iadd S dX7_step_229 (fun v11753 z11754 => ?_)
                            have r11755 := R_any v11753
                            refine r_put (K := 1) (ty := .int) S X11174 (Nat.le_of_ble_eq_true rfl) rfl lk7_38_7 (fun _ => ⟨_, rfl, Nat.le_of_ble_eq_true rfl, rfl⟩) (fun _ _ _ h => by cases h; exact ⟨rfl, rfl⟩) rfl rfl dX7_step_230 (fun t11756 H lc M11757 X11758 => ?_)
                            have I11759 := Inv_mu I11172 M11757 (R_any v11753)
                            have F11760 : Fr [(1, 3), (1, 4), (1, 5), (1, 7), (1, 8)] [201] τ t11756 := Fr_mu F11173 M11757 (by decide)
                            refine r_aload_n S dX7_step_233 rfl (lv_at hl 2 rfl) ?_
                            refine r_dup S dX7_step_234 rfl ?_
                            refine r_geti (K := 1) S X11758 (Nat.le_of_ble_eq_true rfl) rfl lk7_22_7 (fun _ => ⟨_, rfl, rfl⟩) ((M11757.2 1 4 (Or.inr (by decide))).trans z11183) dX7_step_235 ?_
                            refine r_iconst S dX7_step_238 (by decide) (fun v11761 z11762 => ?_)
                            have r11763 := R_eq z11762
                            refine r_iadd S dX7_step_239 (fun v11764 z11765 => ?_)
                            obtain ⟨e11766, r11767⟩ := i_add (lo := 1) (hi := 899) z11765 r11368 r11763 rfl
                            refine r_put (K := 1) (ty := .int) S X11758 (Nat.le_of_ble_eq_true rfl) rfl lk7_22_7 (fun _ => ⟨_, rfl, Nat.le_of_ble_eq_true rfl, rfl⟩) (fun _ _ _ h => by cases h; exact ⟨rfl, rfl⟩) rfl rfl dX7_step_240 (fun t11768 H lc M11769 X11770 => ?_)
                            have I11771 := Inv_mu I11759 M11769 (show Rg (kd 1) 4 v11764 from (R_of (lo := 0) (hi := 940) r11767 rfl))
                            have F11772 : Fr [(1, 3), (1, 4), (1, 5), (1, 7), (1, 8)] [201] τ t11768 := Fr_mu F11760 M11769 (by decide)
                            refine r_goto (tgt := 136) S dX7_step_243 (by decide) ?_
                            exact ih11187 t11768 _ _ _ i11167 v11734 v11753 v11764 X11770 I11771 F11772 (R_of r11192 rfl) (R_of r11739 rfl) ((M11769.2 1 1 (Or.inr (by decide))).trans ((M11757.2 1 1 (Or.inr (by decide))).trans z11175)) ((M11769.2 1 2 (Or.inr (by decide))).trans ((M11757.2 1 2 (Or.inr (by decide))).trans z11176)) ((M11769.2 1 3 (Or.inr (by decide))).trans ((M11757.2 1 3 (Or.inr (by decide))).trans z11177)) ((M11769.2 1 7 (Or.inr (by decide))).trans M11757.1) ⟨by omega, by omega⟩ M11769.1 ⟨by omega, by omega⟩ (LX_digq (c := v11740) x11185 hb11372 (by omega) (by omega) z11744 z11754 (by omega) (qof_of (k := 1) (fun j => ((M11769.2 201 j (Or.inl (by decide))).trans ((M11757.2 201 j (Or.inl (by decide))).trans rfl))) 6) (by omega) (by omega) (by omega)) (by omega) (lv_sub hl [2, 3, 0] rfl) (by omega)
                      ·
                        have r11773 : R (97) (255) v11369 := ⟨by omega, by omega⟩
                        refine r_iload S dX7_step_165 (lv_at hl 0 rfl) ?_
                        refine r_bipush S dX7_step_167 (by decide) (fun v11774 z11775 => ?_)
                        have r11776 := R_eq z11775
                        refine r_icmp_gt (tgt := 199) S dX7_step_169 (by decide) (fun c11777 => ?_) (fun c11777 => ?_)
                        ·
                          have r11778 : R (123) (255) v11369 := ⟨by omega, by omega⟩
                          refine r_iload S dX7_step_199 (lv_at hl 0 rfl) ?_
                          refine r_bipush S dX7_step_201 (by decide) (fun v11779 z11780 => ?_)
                          have r11781 := R_eq z11780
                          refine r_icmp_lt (tgt := 246) S dX7_step_203 (by decide) (fun c11782 => ?_) (fun c11782 => ?_)
                          ·
                            exfalso; omega
                          ·
                            refine r_iload S dX7_step_206 (lv_at hl 0 rfl) ?_
                            refine r_bipush S dX7_step_208 (by decide) (fun v11783 z11784 => ?_)
                            have r11785 := R_eq z11784
                            refine r_icmp_gt (tgt := 246) S dX7_step_210 (by decide) (fun c11786 => ?_) (fun c11786 => ?_)
                            ·
                              refine r_aload_n S dX7_step_246 rfl (lv_at hl 1 rfl) ?_
                              refine r_iconst S dX7_step_247 (by decide) (fun v11787 z11788 => ?_)
                              have r11789 := R_eq z11788
                              refine r_put (K := 1) (ty := .int) S X11174 (Nat.le_of_ble_eq_true rfl) rfl lk7_31_7 (fun _ => ⟨_, rfl, Nat.le_of_ble_eq_true rfl, rfl⟩) (fun _ _ _ h => by cases h; exact ⟨rfl, rfl⟩) rfl rfl dX7_step_248 (fun t11790 H lc M11791 X11792 => ?_)
                              have I11793 := Inv_mu I11172 M11791 (show Rg (kd 1) 5 v11787 from (R_of (lo := 0) (hi := 4) r11789 rfl))
                              have F11794 : Fr [(1, 3), (1, 4), (1, 5), (1, 7), (1, 8)] [201] τ t11790 := Fr_mu F11173 M11791 (by decide)
                              refine r_iload_n S dX7_step_251 rfl (lv_at hl 2 rfl) ?_
                              refine r_if_ne (tgt := 360) S dX7_step_252 (by decide) (fun c11795 => ?_) (fun c11795 => ?_)
                              ·
                                have r11796 : R (1) (940) i11167 := ⟨by omega, by omega⟩
                                refine r_iload_n S dX7_step_360 rfl (lv_at hl 3 rfl) ?_
                                refine r_if_ne (tgt := 378) S dX7_step_361 (by decide) (fun c11797 => ?_) (fun c11797 => ?_)
                                ·
                                  have r11798 : R (1) (940) i11169 := ⟨by omega, by omega⟩
                                  refine r_iload_n S dX7_step_378 rfl (lv_at hl 2 rfl) ?_
                                  refine r_if_ne (tgt := 392) S dX7_step_379 (by decide) (fun c11799 => ?_) (fun c11799 => ?_)
                                  ·
                                    exact r_vret S hr hlk X11792 ⟨I11793, F11794, (RT_odd (A := f6188.toInt.toNat) (i := f11181.toInt.toNat) (le := i11167.toInt) (di := i11169.toInt) x11185 (RB_eq hB (F11794 1 1 (by simp [fz])) (F11794 1 2 (by simp [fz])) (fun j => F11794 2 j (by simp [fz]))) ⟨by omega, by omega, x6192, fun _ => by omega⟩ (by omega) (by omega) (fun _ => by omega) (by omega) (by omega) (by omega) (by have q := congrArg Int32.toInt ((M11791.2 1 3 (Or.inr (by decide))).trans z11177); omega) (by have q := congrArg Int32.toInt M11791.1; omega))⟩ dX7_step_392
                                  ·
                                    exfalso; omega
                                ·
                                  have r11800 : R (0) (0) i11169 := ⟨by omega, by omega⟩
                                  refine r_iload_n S dX7_step_364 rfl (lv_at hl 2 rfl) ?_
                                  refine r_bipush S dX7_step_365 (by decide) (fun v11801 z11802 => ?_)
                                  have r11803 := R_eq z11802
                                  refine r_icmp_gt (tgt := 378) S dX7_step_367 (by decide) (fun c11804 => ?_) (fun c11804 => ?_)
                                  ·
                                    have r11805 : R (8) (940) i11167 := ⟨by omega, by omega⟩
                                    refine r_iload_n S dX7_step_378 rfl (lv_at hl 2 rfl) ?_
                                    refine r_if_ne (tgt := 392) S dX7_step_379 (by decide) (fun c11806 => ?_) (fun c11806 => ?_)
                                    ·
                                      exact r_vret S hr hlk X11792 ⟨I11793, F11794, (RT_odd (A := f6188.toInt.toNat) (i := f11181.toInt.toNat) (le := i11167.toInt) (di := i11169.toInt) x11185 (RB_eq hB (F11794 1 1 (by simp [fz])) (F11794 1 2 (by simp [fz])) (fun j => F11794 2 j (by simp [fz]))) ⟨by omega, by omega, x6192, fun _ => by omega⟩ (by omega) (by omega) (fun _ => by omega) (by omega) (by omega) (by omega) (by have q := congrArg Int32.toInt ((M11791.2 1 3 (Or.inr (by decide))).trans z11177); omega) (by have q := congrArg Int32.toInt M11791.1; omega))⟩ dX7_step_392
                                    ·
                                      exfalso; omega
                                  ·
                                    have r11807 : R (1) (7) i11167 := ⟨by omega, by omega⟩
                                    refine r_aload_n S dX7_step_370 rfl (lv_at hl 1 rfl) ?_
                                    refine r_iconst S dX7_step_371 (by decide) (fun v11808 z11809 => ?_)
                                    have r11810 := R_eq z11809
                                    refine r_put (K := 1) (ty := .int) S X11792 (Nat.le_of_ble_eq_true rfl) rfl lk7_31_7 (fun _ => ⟨_, rfl, Nat.le_of_ble_eq_true rfl, rfl⟩) (fun _ _ _ h => by cases h; exact ⟨rfl, rfl⟩) rfl rfl dX7_step_372 (fun t11811 H lc M11812 X11813 => ?_)
                                    have I11814 := Inv_mu I11793 M11812 (show Rg (kd 1) 5 v11808 from (R_of (lo := 0) (hi := 4) r11810 rfl))
                                    have F11815 : Fr [(1, 3), (1, 4), (1, 5), (1, 7), (1, 8)] [201] τ t11811 := Fr_mu F11794 M11812 (by decide)
                                    refine r_goto (tgt := 392) S dX7_step_375 (by decide) ?_
                                    exact r_vret S hr hlk X11813 ⟨I11814, F11815, (RT_word (A := f6188.toInt.toNat) (i := f11181.toInt.toNat) (le := i11167.toInt) (di := i11169.toInt) (nu := f11178.toInt) (by rw [(qof_of (k := 1) (fun j => ((M11812.2 201 j (Or.inl (by decide))).trans ((M11791.2 201 j (Or.inl (by decide))).trans rfl))) 6)]; exact x11185) (RB_eq hB (F11815 1 1 (by simp [fz])) (F11815 1 2 (by simp [fz])) (fun j => F11815 2 j (by simp [fz]))) ⟨by omega, by omega, x6192, fun _ => by omega⟩ (by omega) (by omega) (fun _ => by omega) (by omega) (by omega) (by have q := congrArg Int32.toInt ((M11812.2 1 3 (Or.inr (by decide))).trans ((M11791.2 1 3 (Or.inr (by decide))).trans z11177)); omega) (by have q := congrArg Int32.toInt ((M11812.2 1 4 (Or.inr (by decide))).trans ((M11791.2 1 4 (Or.inr (by decide))).trans z11183)); omega) (by have q := congrArg Int32.toInt M11812.1; omega))⟩ dX7_step_392
                              ·
                                have r11816 : R (0) (0) i11167 := ⟨by omega, by omega⟩
                                refine r_iload_n S dX7_step_255 rfl (lv_at hl 3 rfl) ?_
                                refine r_if_ne (tgt := 360) S dX7_step_256 (by decide) (fun c11817 => ?_) (fun c11817 => ?_)
                                ·
                                  have r11818 : R (1) (940) i11169 := ⟨by omega, by omega⟩
                                  refine r_iload_n S dX7_step_360 rfl (lv_at hl 3 rfl) ?_
                                  refine r_if_ne (tgt := 378) S dX7_step_361 (by decide) (fun c11819 => ?_) (fun c11819 => ?_)
                                  ·
                                    refine r_iload_n S dX7_step_378 rfl (lv_at hl 2 rfl) ?_
                                    refine r_if_ne (tgt := 392) S dX7_step_379 (by decide) (fun c11820 => ?_) (fun c11820 => ?_)
                                    ·
                                      exfalso; omega
                                    ·
                                      refine r_iload_n S dX7_step_382 rfl (lv_at hl 3 rfl) ?_
                                      refine r_iconst S dX7_step_383 (by decide) (fun v11821 z11822 => ?_)
                                      have r11823 := R_eq z11822
                                      refine r_icmp_gt (tgt := 392) S dX7_step_384 (by decide) (fun c11824 => ?_) (fun c11824 => ?_)
                                      ·
                                        have r11825 : R (3) (940) i11169 := ⟨by omega, by omega⟩
                                        exact r_vret S hr hlk X11792 ⟨I11793, F11794, (RT_odd (A := f6188.toInt.toNat) (i := f11181.toInt.toNat) (le := i11167.toInt) (di := i11169.toInt) x11185 (RB_eq hB (F11794 1 1 (by simp [fz])) (F11794 1 2 (by simp [fz])) (fun j => F11794 2 j (by simp [fz]))) ⟨by omega, by omega, x6192, fun _ => by omega⟩ (by omega) (by omega) (fun _ => by omega) (by omega) (by omega) (by omega) (by have q := congrArg Int32.toInt ((M11791.2 1 3 (Or.inr (by decide))).trans z11177); omega) (by have q := congrArg Int32.toInt M11791.1; omega))⟩ dX7_step_392
                                      ·
                                        have r11826 : R (1) (2) i11169 := ⟨by omega, by omega⟩
                                        refine r_aload_n S dX7_step_387 rfl (lv_at hl 1 rfl) ?_
                                        refine r_iconst S dX7_step_388 (by decide) (fun v11827 z11828 => ?_)
                                        have r11829 := R_eq z11828
                                        refine r_put (K := 1) (ty := .int) S X11792 (Nat.le_of_ble_eq_true rfl) rfl lk7_31_7 (fun _ => ⟨_, rfl, Nat.le_of_ble_eq_true rfl, rfl⟩) (fun _ _ _ h => by cases h; exact ⟨rfl, rfl⟩) rfl rfl dX7_step_389 (fun t11830 H lc M11831 X11832 => ?_)
                                        have I11833 := Inv_mu I11793 M11831 (show Rg (kd 1) 5 v11827 from (R_of (lo := 0) (hi := 4) r11829 rfl))
                                        have F11834 : Fr [(1, 3), (1, 4), (1, 5), (1, 7), (1, 8)] [201] τ t11830 := Fr_mu F11794 M11831 (by decide)
                                        exact r_vret S hr hlk X11832 ⟨I11833, F11834, (RT_nbr (A := f6188.toInt.toNat) (i := f11181.toInt.toNat) (le := i11167.toInt) (di := i11169.toInt) (sp := (qof t11171 1 6).toInt) (by rw [((M11831.2 1 7 (Or.inr (by decide))).trans ((M11791.2 1 7 (Or.inr (by decide))).trans z11180))]; exact x11185) (RB_eq hB (F11834 1 1 (by simp [fz])) (F11834 1 2 (by simp [fz])) (fun j => F11834 2 j (by simp [fz]))) ⟨by omega, by omega, x6192, fun _ => by omega⟩ (by omega) (by omega) (fun _ => by omega) (by omega) (by omega) (by have q := congrArg Int32.toInt ((M11831.2 1 3 (Or.inr (by decide))).trans ((M11791.2 1 3 (Or.inr (by decide))).trans z11177)); omega) (by have q := congrArg Int32.toInt ((M11831.2 1 4 (Or.inr (by decide))).trans ((M11791.2 1 4 (Or.inr (by decide))).trans z11183)); omega) (by have q := congrArg Int32.toInt M11831.1; omega))⟩ dX7_step_392
                                  ·
                                    exfalso; omega
                                ·
                                  have r11835 : R (0) (0) i11169 := ⟨by omega, by omega⟩
                                  refine r_aload_n S dX7_step_259 rfl (lv_at hl 1 rfl) ?_
                                  refine r_aload_n S dX7_step_260 rfl (lv_at hl 1 rfl) ?_
                                  refine r_get (K := 1) (v := .ref (G.2.2.2.1 2)) S X11792 (Nat.le_of_ble_eq_true rfl) rfl lk7_9_7 (fun _ => ⟨_, rfl, rfl⟩) dX7_step_261 ?_
                                  refine r_aload_n S dX7_step_264 rfl (lv_at hl 1 rfl) ?_
                                  refine r_geti (K := 1) S X11792 (Nat.le_of_ble_eq_true rfl) rfl lk7_28_7 (fun _ => ⟨_, rfl, rfl⟩) ((M11791.2 1 3 (Or.inr (by decide))).trans z11177) dX7_step_265 ?_
                                  refine r_aldn (n := 940) (K := 2) S X11792 (Nat.le_of_ble_eq_true rfl) rfl (fun _ => rfl) (ix_of r6223 rfl) dX7_step_268 (fun v11836 z11837 => ?_)
                                  have r11838 : R (0) (255) v11836 := rd I11793 rfl z11837
                                  have hb11839 : bb f6188.toInt.toNat = v11836.toInt := RB_at hB (fun j => F11794 2 j (by simp [fz])) z11837 ⟨by omega, by omega⟩
                                  refine r_put (K := 1) (ty := .int) S X11792 (Nat.le_of_ble_eq_true rfl) rfl lk7_43_7 (fun _ => ⟨_, rfl, Nat.le_of_ble_eq_true rfl, rfl⟩) (fun _ _ _ h => by cases h; exact ⟨rfl, rfl⟩) rfl rfl dX7_step_269 (fun t11840 H lc M11841 X11842 => ?_)
                                  have I11843 := Inv_mu I11793 M11841 (R_any v11836)
                                  have F11844 : Fr [(1, 3), (1, 4), (1, 5), (1, 7), (1, 8)] [201] τ t11840 := Fr_mu F11794 M11841 (by decide)
                                  refine r_aload_n S dX7_step_272 rfl (lv_at hl 1 rfl) ?_
                                  refine r_aload_n S dX7_step_273 rfl (lv_at hl 1 rfl) ?_
                                  refine r_geti (K := 1) S X11842 (Nat.le_of_ble_eq_true rfl) rfl lk7_28_7 (fun _ => ⟨_, rfl, rfl⟩) ((M11841.2 1 3 (Or.inr (by decide))).trans ((M11791.2 1 3 (Or.inr (by decide))).trans z11177)) dX7_step_274 ?_
                                  refine r_iconst S dX7_step_277 (by decide) (fun v11845 z11846 => ?_)
                                  have r11847 := R_eq z11846
                                  refine r_iadd S dX7_step_278 (fun v11848 z11849 => ?_)
                                  obtain ⟨e11850, r11851⟩ := i_add (lo := 1) (hi := 899) z11849 r6223 r11847 rfl
                                  refine r_put (K := 1) (ty := .int) S X11842 (Nat.le_of_ble_eq_true rfl) rfl lk7_22_7 (fun _ => ⟨_, rfl, Nat.le_of_ble_eq_true rfl, rfl⟩) (fun _ _ _ h => by cases h; exact ⟨rfl, rfl⟩) rfl rfl dX7_step_279 (fun t11852 H lc M11853 X11854 => ?_)
                                  have I11855 := Inv_mu I11843 M11853 (show Rg (kd 1) 4 v11848 from (R_of (lo := 0) (hi := 940) r11851 rfl))
                                  have F11856 : Fr [(1, 3), (1, 4), (1, 5), (1, 7), (1, 8)] [201] τ t11852 := Fr_mu F11844 M11853 (by decide)
                                  refine r_aload_n S dX7_step_282 rfl (lv_at hl 1 rfl) ?_
                                  refine r_geti (K := 1) S X11854 (Nat.le_of_ble_eq_true rfl) rfl lk7_43_7 (fun _ => ⟨_, rfl, rfl⟩) ((M11853.2 1 8 (Or.inr (by decide))).trans M11841.1) dX7_step_283 ?_
                                  refine r_bipush S dX7_step_286 (by decide) (fun v11857 z11858 => ?_)
                                  have r11859 := R_eq z11858
                                  refine r_icmp_eq (tgt := 309) S dX7_step_288 (by decide) (fun c11860 => ?_) (fun c11860 => ?_)
                                  ·
                                    have r11861 : R (60) (60) v11836 := ⟨by omega, by omega⟩
                                    refine r_iconst S dX7_step_309 (by decide) (fun v11862 z11863 => ?_)
                                    have r11864 := R_eq z11863
                                    refine r_goto (tgt := 314) S dX7_step_310 (by decide) ?_
                                    refine r_istore (lv' := [(4, .int v11862), (0, .ref (G.2.2.2.1 1)), (2, .int i11167), (3, .int i11169)]) S dX7_step_314 hl (by decide) rfl (fun ls hl => ?_)
                                    refine r_aload_n S dX7_step_316 rfl (lv_at hl 1 rfl) ?_
                                    refine r_iload S dX7_step_317 (lv_at hl 0 rfl) ?_
                                    refine r_if_ne (tgt := 349) S dX7_step_319 (by decide) (fun c11865 => ?_) (fun c11865 => ?_)
                                    ·
                                      refine r_iconst S dX7_step_349 (by decide) (fun v11866 z11867 => ?_)
                                      have r11868 := R_eq z11867
                                      refine r_goto (tgt := 354) S dX7_step_350 (by decide) ?_
                                      refine r_put (K := 1) (ty := .int) S X11854 (Nat.le_of_ble_eq_true rfl) rfl lk7_31_7 (fun _ => ⟨_, rfl, Nat.le_of_ble_eq_true rfl, rfl⟩) (fun _ _ _ h => by cases h; exact ⟨rfl, rfl⟩) rfl rfl dX7_step_354 (fun t11869 H lc M11870 X11871 => ?_)
                                      have I11872 := Inv_mu I11855 M11870 (show Rg (kd 1) 5 v11866 from (R_of (lo := 0) (hi := 4) r11868 rfl))
                                      have F11873 : Fr [(1, 3), (1, 4), (1, 5), (1, 7), (1, 8)] [201] τ t11869 := Fr_mu F11856 M11870 (by decide)
                                      refine r_goto (tgt := 392) S dX7_step_357 (by decide) ?_
                                      exact r_vret S hr hlk X11871 ⟨I11872, F11873, (RT_sign (A := f6188.toInt.toNat) (RB_eq hB (F11873 1 1 (by simp [fz])) (F11873 1 2 (by simp [fz])) (fun j => F11873 2 j (by simp [fz]))) ⟨by omega, by omega, x6192, fun _ => by omega⟩ (by omega) (by omega) (by rw [show f6188.toInt.toNat = f11181.toInt.toNat by omega, hb11372]; omega) (by omega) (by have q := congrArg Int32.toInt ((M11870.2 1 3 (Or.inr (by decide))).trans ((M11853.2 1 3 (Or.inr (by decide))).trans ((M11841.2 1 3 (Or.inr (by decide))).trans ((M11791.2 1 3 (Or.inr (by decide))).trans z11177)))); omega) (by have q := congrArg Int32.toInt ((M11870.2 1 4 (Or.inr (by decide))).trans M11853.1); omega) (by have q := congrArg Int32.toInt M11870.1; omega) (by have q := congrArg Int32.toInt ((M11870.2 1 8 (Or.inr (by decide))).trans ((M11853.2 1 8 (Or.inr (by decide))).trans M11841.1)); omega))⟩ dX7_step_392
                                    ·
                                      exfalso; omega
                                  ·
                                    refine r_aload_n S dX7_step_291 rfl (lv_at hl 1 rfl) ?_
                                    refine r_geti (K := 1) S X11854 (Nat.le_of_ble_eq_true rfl) rfl lk7_43_7 (fun _ => ⟨_, rfl, rfl⟩) ((M11853.2 1 8 (Or.inr (by decide))).trans M11841.1) dX7_step_292 ?_
                                    refine r_bipush S dX7_step_295 (by decide) (fun v11874 z11875 => ?_)
                                    have r11876 := R_eq z11875
                                    refine r_icmp_eq (tgt := 309) S dX7_step_297 (by decide) (fun c11877 => ?_) (fun c11877 => ?_)
                                    ·
                                      have r11878 : R (61) (61) v11836 := ⟨by omega, by omega⟩
                                      refine r_iconst S dX7_step_309 (by decide) (fun v11879 z11880 => ?_)
                                      have r11881 := R_eq z11880
                                      refine r_goto (tgt := 314) S dX7_step_310 (by decide) ?_
                                      refine r_istore (lv' := [(4, .int v11879), (0, .ref (G.2.2.2.1 1)), (2, .int i11167), (3, .int i11169)]) S dX7_step_314 hl (by decide) rfl (fun ls hl => ?_)
                                      refine r_aload_n S dX7_step_316 rfl (lv_at hl 1 rfl) ?_
                                      refine r_iload S dX7_step_317 (lv_at hl 0 rfl) ?_
                                      refine r_if_ne (tgt := 349) S dX7_step_319 (by decide) (fun c11882 => ?_) (fun c11882 => ?_)
                                      ·
                                        refine r_iconst S dX7_step_349 (by decide) (fun v11883 z11884 => ?_)
                                        have r11885 := R_eq z11884
                                        refine r_goto (tgt := 354) S dX7_step_350 (by decide) ?_
                                        refine r_put (K := 1) (ty := .int) S X11854 (Nat.le_of_ble_eq_true rfl) rfl lk7_31_7 (fun _ => ⟨_, rfl, Nat.le_of_ble_eq_true rfl, rfl⟩) (fun _ _ _ h => by cases h; exact ⟨rfl, rfl⟩) rfl rfl dX7_step_354 (fun t11886 H lc M11887 X11888 => ?_)
                                        have I11889 := Inv_mu I11855 M11887 (show Rg (kd 1) 5 v11883 from (R_of (lo := 0) (hi := 4) r11885 rfl))
                                        have F11890 : Fr [(1, 3), (1, 4), (1, 5), (1, 7), (1, 8)] [201] τ t11886 := Fr_mu F11856 M11887 (by decide)
                                        refine r_goto (tgt := 392) S dX7_step_357 (by decide) ?_
                                        exact r_vret S hr hlk X11888 ⟨I11889, F11890, (RT_sign (A := f6188.toInt.toNat) (RB_eq hB (F11890 1 1 (by simp [fz])) (F11890 1 2 (by simp [fz])) (fun j => F11890 2 j (by simp [fz]))) ⟨by omega, by omega, x6192, fun _ => by omega⟩ (by omega) (by omega) (by rw [show f6188.toInt.toNat = f11181.toInt.toNat by omega, hb11372]; omega) (by omega) (by have q := congrArg Int32.toInt ((M11887.2 1 3 (Or.inr (by decide))).trans ((M11853.2 1 3 (Or.inr (by decide))).trans ((M11841.2 1 3 (Or.inr (by decide))).trans ((M11791.2 1 3 (Or.inr (by decide))).trans z11177)))); omega) (by have q := congrArg Int32.toInt ((M11887.2 1 4 (Or.inr (by decide))).trans M11853.1); omega) (by have q := congrArg Int32.toInt M11887.1; omega) (by have q := congrArg Int32.toInt ((M11887.2 1 8 (Or.inr (by decide))).trans ((M11853.2 1 8 (Or.inr (by decide))).trans M11841.1)); omega))⟩ dX7_step_392
                                      ·
                                        exfalso; omega
                                    ·
                                      refine r_aload_n S dX7_step_300 rfl (lv_at hl 1 rfl) ?_
                                      refine r_geti (K := 1) S X11854 (Nat.le_of_ble_eq_true rfl) rfl lk7_43_7 (fun _ => ⟨_, rfl, rfl⟩) ((M11853.2 1 8 (Or.inr (by decide))).trans M11841.1) dX7_step_301 ?_
                                      refine r_bipush S dX7_step_304 (by decide) (fun v11891 z11892 => ?_)
                                      have r11893 := R_eq z11892
                                      refine r_icmp_ne (tgt := 313) S dX7_step_306 (by decide) (fun c11894 => ?_) (fun c11894 => ?_)
                                      ·
                                        refine r_iconst S dX7_step_313 (by decide) (fun v11895 z11896 => ?_)
                                        have r11897 := R_eq z11896
                                        refine r_istore (lv' := [(4, .int v11895), (0, .ref (G.2.2.2.1 1)), (2, .int i11167), (3, .int i11169)]) S dX7_step_314 hl (by decide) rfl (fun ls hl => ?_)
                                        refine r_aload_n S dX7_step_316 rfl (lv_at hl 1 rfl) ?_
                                        refine r_iload S dX7_step_317 (lv_at hl 0 rfl) ?_
                                        refine r_if_ne (tgt := 349) S dX7_step_319 (by decide) (fun c11898 => ?_) (fun c11898 => ?_)
                                        ·
                                          exfalso; omega
                                        ·
                                          refine r_aload_n S dX7_step_322 rfl (lv_at hl 1 rfl) ?_
                                          refine r_geti (K := 1) S X11854 (Nat.le_of_ble_eq_true rfl) rfl lk7_43_7 (fun _ => ⟨_, rfl, rfl⟩) ((M11853.2 1 8 (Or.inr (by decide))).trans M11841.1) dX7_step_323 ?_
                                          refine r_bipush S dX7_step_326 (by decide) (fun v11899 z11900 => ?_)
                                          have r11901 := R_eq z11900
                                          refine r_icmp_eq (tgt := 349) S dX7_step_328 (by decide) (fun c11902 => ?_) (fun c11902 => ?_)
                                          ·
                                            have r11903 : R (59) (59) v11836 := ⟨by omega, by omega⟩
                                            refine r_iconst S dX7_step_349 (by decide) (fun v11904 z11905 => ?_)
                                            have r11906 := R_eq z11905
                                            refine r_goto (tgt := 354) S dX7_step_350 (by decide) ?_
                                            refine r_put (K := 1) (ty := .int) S X11854 (Nat.le_of_ble_eq_true rfl) rfl lk7_31_7 (fun _ => ⟨_, rfl, Nat.le_of_ble_eq_true rfl, rfl⟩) (fun _ _ _ h => by cases h; exact ⟨rfl, rfl⟩) rfl rfl dX7_step_354 (fun t11907 H lc M11908 X11909 => ?_)
                                            have I11910 := Inv_mu I11855 M11908 (show Rg (kd 1) 5 v11904 from (R_of (lo := 0) (hi := 4) r11906 rfl))
                                            have F11911 : Fr [(1, 3), (1, 4), (1, 5), (1, 7), (1, 8)] [201] τ t11907 := Fr_mu F11856 M11908 (by decide)
                                            refine r_goto (tgt := 392) S dX7_step_357 (by decide) ?_
                                            exact r_vret S hr hlk X11909 ⟨I11910, F11911, (RT_sign (A := f6188.toInt.toNat) (RB_eq hB (F11911 1 1 (by simp [fz])) (F11911 1 2 (by simp [fz])) (fun j => F11911 2 j (by simp [fz]))) ⟨by omega, by omega, x6192, fun _ => by omega⟩ (by omega) (by omega) (by rw [show f6188.toInt.toNat = f11181.toInt.toNat by omega, hb11372]; omega) (by omega) (by have q := congrArg Int32.toInt ((M11908.2 1 3 (Or.inr (by decide))).trans ((M11853.2 1 3 (Or.inr (by decide))).trans ((M11841.2 1 3 (Or.inr (by decide))).trans ((M11791.2 1 3 (Or.inr (by decide))).trans z11177)))); omega) (by have q := congrArg Int32.toInt ((M11908.2 1 4 (Or.inr (by decide))).trans M11853.1); omega) (by have q := congrArg Int32.toInt M11908.1; omega) (by have q := congrArg Int32.toInt ((M11908.2 1 8 (Or.inr (by decide))).trans ((M11853.2 1 8 (Or.inr (by decide))).trans M11841.1)); omega))⟩ dX7_step_392
                                          ·
                                            refine r_aload_n S dX7_step_331 rfl (lv_at hl 1 rfl) ?_
                                            refine r_geti (K := 1) S X11854 (Nat.le_of_ble_eq_true rfl) rfl lk7_43_7 (fun _ => ⟨_, rfl, rfl⟩) ((M11853.2 1 8 (Or.inr (by decide))).trans M11841.1) dX7_step_332 ?_
                                            refine r_bipush S dX7_step_335 (by decide) (fun v11912 z11913 => ?_)
                                            have r11914 := R_eq z11913
                                            refine r_icmp_eq (tgt := 349) S dX7_step_337 (by decide) (fun c11915 => ?_) (fun c11915 => ?_)
                                            ·
                                              have r11916 : R (40) (40) v11836 := ⟨by omega, by omega⟩
                                              refine r_iconst S dX7_step_349 (by decide) (fun v11917 z11918 => ?_)
                                              have r11919 := R_eq z11918
                                              refine r_goto (tgt := 354) S dX7_step_350 (by decide) ?_
                                              refine r_put (K := 1) (ty := .int) S X11854 (Nat.le_of_ble_eq_true rfl) rfl lk7_31_7 (fun _ => ⟨_, rfl, Nat.le_of_ble_eq_true rfl, rfl⟩) (fun _ _ _ h => by cases h; exact ⟨rfl, rfl⟩) rfl rfl dX7_step_354 (fun t11920 H lc M11921 X11922 => ?_)
                                              have I11923 := Inv_mu I11855 M11921 (show Rg (kd 1) 5 v11917 from (R_of (lo := 0) (hi := 4) r11919 rfl))
                                              have F11924 : Fr [(1, 3), (1, 4), (1, 5), (1, 7), (1, 8)] [201] τ t11920 := Fr_mu F11856 M11921 (by decide)
                                              refine r_goto (tgt := 392) S dX7_step_357 (by decide) ?_
                                              exact r_vret S hr hlk X11922 ⟨I11923, F11924, (RT_sign (A := f6188.toInt.toNat) (RB_eq hB (F11924 1 1 (by simp [fz])) (F11924 1 2 (by simp [fz])) (fun j => F11924 2 j (by simp [fz]))) ⟨by omega, by omega, x6192, fun _ => by omega⟩ (by omega) (by omega) (by rw [show f6188.toInt.toNat = f11181.toInt.toNat by omega, hb11372]; omega) (by omega) (by have q := congrArg Int32.toInt ((M11921.2 1 3 (Or.inr (by decide))).trans ((M11853.2 1 3 (Or.inr (by decide))).trans ((M11841.2 1 3 (Or.inr (by decide))).trans ((M11791.2 1 3 (Or.inr (by decide))).trans z11177)))); omega) (by have q := congrArg Int32.toInt ((M11921.2 1 4 (Or.inr (by decide))).trans M11853.1); omega) (by have q := congrArg Int32.toInt M11921.1; omega) (by have q := congrArg Int32.toInt ((M11921.2 1 8 (Or.inr (by decide))).trans ((M11853.2 1 8 (Or.inr (by decide))).trans M11841.1)); omega))⟩ dX7_step_392
                                            ·
                                              refine r_aload_n S dX7_step_340 rfl (lv_at hl 1 rfl) ?_
                                              refine r_geti (K := 1) S X11854 (Nat.le_of_ble_eq_true rfl) rfl lk7_43_7 (fun _ => ⟨_, rfl, rfl⟩) ((M11853.2 1 8 (Or.inr (by decide))).trans M11841.1) dX7_step_341 ?_
                                              refine r_bipush S dX7_step_344 (by decide) (fun v11925 z11926 => ?_)
                                              have r11927 := R_eq z11926
                                              refine r_icmp_ne (tgt := 353) S dX7_step_346 (by decide) (fun c11928 => ?_) (fun c11928 => ?_)
                                              ·
                                                refine r_iconst S dX7_step_353 (by decide) (fun v11929 z11930 => ?_)
                                                have r11931 := R_eq z11930
                                                refine r_put (K := 1) (ty := .int) S X11854 (Nat.le_of_ble_eq_true rfl) rfl lk7_31_7 (fun _ => ⟨_, rfl, Nat.le_of_ble_eq_true rfl, rfl⟩) (fun _ _ _ h => by cases h; exact ⟨rfl, rfl⟩) rfl rfl dX7_step_354 (fun t11932 H lc M11933 X11934 => ?_)
                                                have I11935 := Inv_mu I11855 M11933 (show Rg (kd 1) 5 v11929 from (R_of (lo := 0) (hi := 4) r11931 rfl))
                                                have F11936 : Fr [(1, 3), (1, 4), (1, 5), (1, 7), (1, 8)] [201] τ t11932 := Fr_mu F11856 M11933 (by decide)
                                                refine r_goto (tgt := 392) S dX7_step_357 (by decide) ?_
                                                exact r_vret S hr hlk X11934 ⟨I11935, F11936, (RT_none (A := f6188.toInt.toNat) (RB_eq hB (F11936 1 1 (by simp [fz])) (F11936 1 2 (by simp [fz])) (fun j => F11936 2 j (by simp [fz]))) ⟨by omega, by omega, x6192, fun _ => by omega⟩ (by omega) (by omega) (by rw [show f6188.toInt.toNat = f11181.toInt.toNat by omega, hb11372]; omega) (by omega) (by have q := congrArg Int32.toInt ((M11933.2 1 3 (Or.inr (by decide))).trans ((M11853.2 1 3 (Or.inr (by decide))).trans ((M11841.2 1 3 (Or.inr (by decide))).trans ((M11791.2 1 3 (Or.inr (by decide))).trans z11177)))); omega) (by have q := congrArg Int32.toInt M11933.1; omega))⟩ dX7_step_392
                                              ·
                                                have r11937 : R (41) (41) v11836 := ⟨by omega, by omega⟩
                                                refine r_iconst S dX7_step_349 (by decide) (fun v11938 z11939 => ?_)
                                                have r11940 := R_eq z11939
                                                refine r_goto (tgt := 354) S dX7_step_350 (by decide) ?_
                                                refine r_put (K := 1) (ty := .int) S X11854 (Nat.le_of_ble_eq_true rfl) rfl lk7_31_7 (fun _ => ⟨_, rfl, Nat.le_of_ble_eq_true rfl, rfl⟩) (fun _ _ _ h => by cases h; exact ⟨rfl, rfl⟩) rfl rfl dX7_step_354 (fun t11941 H lc M11942 X11943 => ?_)
                                                have I11944 := Inv_mu I11855 M11942 (show Rg (kd 1) 5 v11938 from (R_of (lo := 0) (hi := 4) r11940 rfl))
                                                have F11945 : Fr [(1, 3), (1, 4), (1, 5), (1, 7), (1, 8)] [201] τ t11941 := Fr_mu F11856 M11942 (by decide)
                                                refine r_goto (tgt := 392) S dX7_step_357 (by decide) ?_
                                                exact r_vret S hr hlk X11943 ⟨I11944, F11945, (RT_sign (A := f6188.toInt.toNat) (RB_eq hB (F11945 1 1 (by simp [fz])) (F11945 1 2 (by simp [fz])) (fun j => F11945 2 j (by simp [fz]))) ⟨by omega, by omega, x6192, fun _ => by omega⟩ (by omega) (by omega) (by rw [show f6188.toInt.toNat = f11181.toInt.toNat by omega, hb11372]; omega) (by omega) (by have q := congrArg Int32.toInt ((M11942.2 1 3 (Or.inr (by decide))).trans ((M11853.2 1 3 (Or.inr (by decide))).trans ((M11841.2 1 3 (Or.inr (by decide))).trans ((M11791.2 1 3 (Or.inr (by decide))).trans z11177)))); omega) (by have q := congrArg Int32.toInt ((M11942.2 1 4 (Or.inr (by decide))).trans M11853.1); omega) (by have q := congrArg Int32.toInt M11942.1; omega) (by have q := congrArg Int32.toInt ((M11942.2 1 8 (Or.inr (by decide))).trans ((M11853.2 1 8 (Or.inr (by decide))).trans M11841.1)); omega))⟩ dX7_step_392
                                      ·
                                        have r11946 : R (62) (62) v11836 := ⟨by omega, by omega⟩
                                        refine r_iconst S dX7_step_309 (by decide) (fun v11947 z11948 => ?_)
                                        have r11949 := R_eq z11948
                                        refine r_goto (tgt := 314) S dX7_step_310 (by decide) ?_
                                        refine r_istore (lv' := [(4, .int v11947), (0, .ref (G.2.2.2.1 1)), (2, .int i11167), (3, .int i11169)]) S dX7_step_314 hl (by decide) rfl (fun ls hl => ?_)
                                        refine r_aload_n S dX7_step_316 rfl (lv_at hl 1 rfl) ?_
                                        refine r_iload S dX7_step_317 (lv_at hl 0 rfl) ?_
                                        refine r_if_ne (tgt := 349) S dX7_step_319 (by decide) (fun c11950 => ?_) (fun c11950 => ?_)
                                        ·
                                          refine r_iconst S dX7_step_349 (by decide) (fun v11951 z11952 => ?_)
                                          have r11953 := R_eq z11952
                                          refine r_goto (tgt := 354) S dX7_step_350 (by decide) ?_
                                          refine r_put (K := 1) (ty := .int) S X11854 (Nat.le_of_ble_eq_true rfl) rfl lk7_31_7 (fun _ => ⟨_, rfl, Nat.le_of_ble_eq_true rfl, rfl⟩) (fun _ _ _ h => by cases h; exact ⟨rfl, rfl⟩) rfl rfl dX7_step_354 (fun t11954 H lc M11955 X11956 => ?_)
                                          have I11957 := Inv_mu I11855 M11955 (show Rg (kd 1) 5 v11951 from (R_of (lo := 0) (hi := 4) r11953 rfl))
                                          have F11958 : Fr [(1, 3), (1, 4), (1, 5), (1, 7), (1, 8)] [201] τ t11954 := Fr_mu F11856 M11955 (by decide)
                                          refine r_goto (tgt := 392) S dX7_step_357 (by decide) ?_
                                          exact r_vret S hr hlk X11956 ⟨I11957, F11958, (RT_sign (A := f6188.toInt.toNat) (RB_eq hB (F11958 1 1 (by simp [fz])) (F11958 1 2 (by simp [fz])) (fun j => F11958 2 j (by simp [fz]))) ⟨by omega, by omega, x6192, fun _ => by omega⟩ (by omega) (by omega) (by rw [show f6188.toInt.toNat = f11181.toInt.toNat by omega, hb11372]; omega) (by omega) (by have q := congrArg Int32.toInt ((M11955.2 1 3 (Or.inr (by decide))).trans ((M11853.2 1 3 (Or.inr (by decide))).trans ((M11841.2 1 3 (Or.inr (by decide))).trans ((M11791.2 1 3 (Or.inr (by decide))).trans z11177)))); omega) (by have q := congrArg Int32.toInt ((M11955.2 1 4 (Or.inr (by decide))).trans M11853.1); omega) (by have q := congrArg Int32.toInt M11955.1; omega) (by have q := congrArg Int32.toInt ((M11955.2 1 8 (Or.inr (by decide))).trans ((M11853.2 1 8 (Or.inr (by decide))).trans M11841.1)); omega))⟩ dX7_step_392
                                        ·
                                          exfalso; omega
                            ·
                              exfalso; omega
                        ·
                          have r11959 : R (97) (122) v11369 := ⟨by omega, by omega⟩
                          refine r_iinc (k := 2) S dX7_step_172 hl rfl (by decide) (by decide) (fun v11960 d11961 ls z11962 z11963 hl => ?_)
                          obtain ⟨e11964, r11965⟩ := i_add (lo := 1) (hi := 941) z11962 r11192 (R_eq z11963) rfl
                          have hl : lv_has ls 5 [(2, .int v11960), (4, .int v11369), (0, .ref (G.2.2.2.1 1)), (3, .int i11169)] := hl
                          refine r_aload_n S dX7_step_175 rfl (lv_at hl 2 rfl) ?_
                          refine r_aload_n S dX7_step_176 rfl (lv_at hl 2 rfl) ?_
                          refine r_getJ (K := 1) S X11174 (Nat.le_of_ble_eq_true rfl) rfl lk7_34_7 (fun _ => ⟨_, rfl, rfl⟩) dX7_step_177 (fun j11966 z11967 => ?_)
                          refine lv_ldc2 S.1.1 S.1.2.1 S.1.2.2.2.1 (S.1.2.2.2.2 _ kw6) dX7_step_180 ?_
                          refine lv_topl (fun j11968 z11969 => ?_)
                          refine lv_lmul S.1.1 S.1.2.1 dX7_step_183 ?_
                          refine lv_topl (fun j11970 z11971 => ?_)
                          refine r_iload S dX7_step_184 (lv_at hl 1 rfl) ?_
                          refine r_bipush S dX7_step_186 (by decide) (fun v11972 z11973 => ?_)
                          have r11974 := R_eq z11973
                          refine r_isub S dX7_step_188 (fun v11975 z11976 => ?_)
                          obtain ⟨e11977, r11978⟩ := i_sub (lo := 0) (hi := 25) z11976 r11959 r11974 rfl
                          refine r_iconst S dX7_step_189 (by decide) (fun v11979 z11980 => ?_)
                          have r11981 := R_eq z11980
                          refine r_iadd S dX7_step_190 (fun v11982 z11983 => ?_)
                          obtain ⟨e11984, r11985⟩ := i_add (lo := 1) (hi := 26) z11983 r11978 r11981 rfl
                          refine lv_i2l S.1.1 S.1.2.1 dX7_step_191 rfl ?_
                          refine lv_topl (fun j11986 z11987 => ?_)
                          refine lv_ladd S.1.1 S.1.2.1 dX7_step_192 ?_
                          refine lv_topl (fun j11988 z11989 => ?_)
                          refine r_putJ (K := 1) S X11174 (Nat.le_of_ble_eq_true rfl) rfl lk7_34_7 (fun _ => ⟨_, rfl, Nat.le_of_ble_eq_true rfl, rfl⟩) (fun _ _ _ h => by cases h; exact ⟨rfl, rfl⟩) dX7_step_193 (fun t11991 H lc M11992 X11990 => ?_)
                          have I11993 := Inv_ml I11172 M11992
                          have F11994 : Fr [(1, 3), (1, 4), (1, 5), (1, 7), (1, 8)] [201] τ t11991 := Fr_ml F11173 M11992 (by decide)
                          refine r_goto (tgt := 233) S dX7_step_196 (by decide) ?_
                          refine r_aload_n S dX7_step_233 rfl (lv_at hl 2 rfl) ?_
                          refine r_dup S dX7_step_234 rfl ?_
                          refine r_geti (K := 1) S X11990 (Nat.le_of_ble_eq_true rfl) rfl lk7_22_7 (fun _ => ⟨_, rfl, rfl⟩) ((M11992.1 1 (by decide) 4).trans z11183) dX7_step_235 ?_
                          refine r_iconst S dX7_step_238 (by decide) (fun v11995 z11996 => ?_)
                          have r11997 := R_eq z11996
                          refine r_iadd S dX7_step_239 (fun v11998 z11999 => ?_)
                          obtain ⟨e12000, r12001⟩ := i_add (lo := 1) (hi := 899) z11999 r11368 r11997 rfl
                          refine r_put (K := 1) (ty := .int) S X11990 (Nat.le_of_ble_eq_true rfl) rfl lk7_22_7 (fun _ => ⟨_, rfl, Nat.le_of_ble_eq_true rfl, rfl⟩) (fun _ _ _ h => by cases h; exact ⟨rfl, rfl⟩) rfl rfl dX7_step_240 (fun t12002 H lc M12003 X12004 => ?_)
                          have I12005 := Inv_mu I11993 M12003 (show Rg (kd 1) 4 v11998 from (R_of (lo := 0) (hi := 940) r12001 rfl))
                          have F12006 : Fr [(1, 3), (1, 4), (1, 5), (1, 7), (1, 8)] [201] τ t12002 := Fr_mu F11994 M12003 (by decide)
                          refine r_goto (tgt := 136) S dX7_step_243 (by decide) ?_
                          exact ih11187 t12002 _ _ _ v11960 i11169 f11178 v11998 X12004 I12005 F12006 (R_of r11965 rfl) (R_of r11193 rfl) ((M12003.2 1 1 (Or.inr (by decide))).trans ((M11992.1 1 (by decide) 1).trans z11175)) ((M12003.2 1 2 (Or.inr (by decide))).trans ((M11992.1 1 (by decide) 2).trans z11176)) ((M12003.2 1 3 (Or.inr (by decide))).trans ((M11992.1 1 (by decide) 3).trans z11177)) ((M12003.2 1 7 (Or.inr (by decide))).trans ((M11992.1 1 (by decide) 7).trans z11180)) ⟨by omega, by omega⟩ M12003.1 ⟨by omega, by omega⟩ (LX_lowq (s := j11966) (r := j11988) (x := v11982) x11185 hb11372 (by omega) (by omega) z11967 (by rw [z11989, z11971, z11987, z11969]) ((qof_of (k := 1) (fun j => ((M12003.2 201 j (Or.inl (by decide))).trans rfl)) 6).trans (Ml_upd M11992)) (by omega) (by omega) (by omega)) (by omega) (lv_sub hl [2, 0, 3] rfl) (by omega)
                exact L11184 _ t6276 _ _ _ v6255 v6258 v6268 f6188 X6278 I6279 F6280 (R_of r6257 rfl) (R_of r6260 rfl) ((M6277.2 1 1 (Or.inr (by decide))).trans ((M6272.2 1 1 (Or.inr (by decide))).trans ((M6265.1 1 (by decide) 1).trans z6185))) ((M6277.2 1 2 (Or.inr (by decide))).trans ((M6272.2 1 2 (Or.inr (by decide))).trans ((M6265.1 1 (by decide) 2).trans z6186))) ((M6277.2 1 3 (Or.inr (by decide))).trans ((M6272.2 1 3 (Or.inr (by decide))).trans ((M6265.1 1 (by decide) 3).trans z6190))) ((M6277.2 1 7 (Or.inr (by decide))).trans M6272.1) ⟨by omega, by omega⟩ M6277.1 ⟨by omega, by omega⟩ (LX_0q (by omega) (by omega) (by omega) ((qof_of (k := 1) (fun j => ((M6277.2 201 j (Or.inl (by decide))).trans ((M6272.2 201 j (Or.inl (by decide))).trans rfl))) 6).trans (Ml_upd M6265)) z6262) (by omega) (lv_sub hl [2, 1, 0] rfl) (Nat.lt_succ_self _)
              ·
                exfalso; omega
            ·
              have r12009 : R (10) (10) v6246 := ⟨by omega, by omega⟩
              refine r_aload_n S dX7_step_67 rfl (lv_at hl 0 rfl) ?_
              refine r_dup S dX7_step_68 rfl ?_
              refine r_geti (K := 1) S X6184 (Nat.le_of_ble_eq_true rfl) rfl lk7_28_7 (fun _ => ⟨_, rfl, rfl⟩) z6190 dX7_step_69 ?_
              refine r_iconst S dX7_step_72 (by decide) (fun v12010 z12011 => ?_)
              have r12012 := R_eq z12011
              refine r_iadd S dX7_step_73 (fun v12013 z12014 => ?_)
              obtain ⟨e12015, r12016⟩ := i_add (lo := 1) (hi := 899) z12014 r6223 r12012 rfl
              refine r_put (K := 1) (ty := .int) S X6184 (Nat.le_of_ble_eq_true rfl) rfl lk7_28_7 (fun _ => ⟨_, rfl, Nat.le_of_ble_eq_true rfl, rfl⟩) (fun _ _ _ h => by cases h; exact ⟨rfl, rfl⟩) rfl rfl dX7_step_74 (fun t12017 H lc M12018 X12019 => ?_)
              have I12020 := Inv_mu I6182 M12018 (show Rg (kd 1) 3 v12013 from (R_of (lo := 0) (hi := 940) r12016 rfl))
              have F12021 : Fr [(1, 3), (1, 4), (1, 5), (1, 7), (1, 8)] [201] τ t12017 := Fr_mu F6183 M12018 (by decide)
              refine r_goto (tgt := 31) S dX7_step_77 (by decide) ?_
              exact ih6194 t12017 _ _ _ v12013 X12019 I12020 F12021 ((M12018.2 1 1 (Or.inr (by decide))).trans z6185) ((M12018.2 1 2 (Or.inr (by decide))).trans z6186) ((M12018.2 1 4 (Or.inr (by decide))).trans z6187) M12018.1 ⟨by omega, by omega⟩ (spc_up (i := f6188) x6192 hb6249 (by omega) (by omega) (by omega)) ⟨by omega, by omega⟩ (lv_sub hl [0, 1] rfl) (by omega)
    exact L6191 _ t6022 _ _ _ v6018 X6024 I6025 F6026 ((M6023.2 1 1 (Or.inr (by decide))).trans z2) ((M6023.2 1 2 (Or.inr (by decide))).trans z5) ((M6023.2 1 4 (Or.inr (by decide))).trans z6019) M6023.1 ⟨by omega, by omega⟩ (fun k h1 h2 => by exfalso; omega) ⟨by omega, by omega⟩ (lv_sub hl [1, 0] rfl) (Nat.lt_succ_self _)
