def po_X12_skip_q (τ : Tau)    (bb : Nat → Int) (nb lm pp : Nat) (u : Tau) : Prop := Inv u ∧ Fr [(131, 4), (131, 11), (131, 12), (131, 13), (131, 14)] [331] τ u ∧ R (0) (940) (u 131 4) ∧ R (0) (4) (u 131 11) ∧ (τ 131 4).toInt ≤ (u 131 4).toInt ∧ (1 ≤ (u 131 11).toInt ∧ (u 131 11).toInt ≤ 3 → (τ 131 4).toInt < (u 131 4).toInt) ∧ MT bb nb lm u (lex bb nb lm pp)
set_option maxHeartbeats 4000000 in
set_option maxRecDepth 100000 in
theorem c_X12_skip_q (l : Launch) (G : Gx) (τ : Tau) (hI : Inv τ) (bb : Nat → Int) (nb lm pp : Nat) (hB : MBy bb nb lm τ) (hpp : (τ 131 4).toInt = pp) (hpn : pp ≤ nb) : Cv l G yX12_skip cX12_skip 4 1 20 [.ref (G.2.2.2.1 131)] τ (po_X12_skip_q τ    bb nb lm pp) := by
  unfold Cv
  refine C_of (own := RX12) (by decide) rfl (Nat.le_of_ble_eq_true rfl) ?_
  intro p e s m below meth c ls S hr hlk X hl
  have hl : lv_has ls 4 [(0, .ref (G.2.2.2.1 131))] := hl
  obtain ⟨v1, z2⟩ : ∃ x, τ 131 4 = x := ⟨_, rfl⟩
  have r3 : R (0) (940) v1 := rd hI rfl z2
  obtain ⟨v4, z5⟩ : ∃ x, τ 131 3 = x := ⟨_, rfl⟩
  have r6 : R (0) (940) v4 := rd hI rfl z5
  obtain ⟨v7, z8⟩ : ∃ x, τ 131 5 = x := ⟨_, rfl⟩
  have r9 : R (0) (940) v7 := rd hI rfl z8
  have e10 := hB.1
  have e11 := hB.2.1
  have e12 := hB.2.2.1
  have e13 := congrArg Int32.toInt z5
  have e14 := congrArg Int32.toInt z2
  have e15 := congrArg Int32.toInt z8
  have L228 : ∀ (n : Nat) (t219 : Tau) (H : Heap) (lc : List Loc) (ls : Array Slot) (f223 : Int32), Xd G s H lc t219 → Inv t219 → Fr [(131, 4), (131, 11), (131, 12), (131, 13), (131, 14)] [331] τ t219 → t219 131 4 = f223 → R (0) (940) f223 → t219 131 3 = v4 → t219 131 5 = v7 → (∀ k, pp ≤ k → k < (f223).toInt.toNat → spc (bb k)) → (pp : Int) ≤ (f223).toInt ∧ (f223).toInt ≤ nb → lv_has ls 4 [(0, .ref (G.2.2.2.1 131))] → (940 - f223.toInt).toNat < n → W p l e (Rm 1 20) s m ([.ref (G.2.2.2.1 131)] : List Value).toArray below meth c H lc 0 0 (MQ below (va_Qv (po_X12_skip_q τ    bb nb lm pp) (Bs G) G.2.2.2.2) ([.ref (G.2.2.2.1 131)] : List Value).toArray s 0 0 G.2.2.2.2) (F0 m 0 ls []) := by
    intro n
    induction n with
    | zero => intros; omega
    | succ n ih231 =>
      intro t219 H lc ls f223 X222 I220 F221 z225 r224 z226 z227 x229 x230 hl hm
      refine r_aload_n S dX12_skip_0 rfl (lv_at hl 0 rfl) ?_
      refine r_ki (q_V (As := []) (rest := []) (K := 38) (ci := 10) S X222 (c_X12_peek_x l G t219 I220 ) ck12_147 (Nat.le_of_ble_eq_true rfl) rfl (fun _ => ⟨_, rfl⟩) ⟨_, _, rfl⟩ ⟨Nat.le_of_ble_eq_true rfl, Nat.le_of_ble_eq_true rfl⟩ rfl hl.1 rfl (Nat.le_of_ble_eq_true rfl) dX12_skip_1 ⟨Nat.le_refl 0, Nat.le_refl 0⟩) X222 (fun v235 t234 H lc q232 X233 => ?_)
      unfold po_X12_peek_x at q232
      obtain ⟨q236, q237, q238, q239⟩ := q232
      rw [q236] at X233
      rw [q236] at q238
      rw [q236] at q239
      have pk240 : PKf bb nb f223 v235 := pk_b hB I220 (F221 131 3 (by simp [fz])) (fun j => F221 132 j (by simp [fz])) z225 (by omega) q239
      refine r_bipush S dX12_skip_4 (by decide) (fun v241 z242 => ?_)
      have r243 := R_eq z242
      refine r_icmp_eq (tgt := 18) S dX12_skip_6 (by decide) (fun c244 => ?_) (fun c244 => ?_)
      ·
        have r245 : R (32) (32) v235 := ⟨by omega, by omega⟩
        have p246 := q238 (by omega)
        have r247 : R (0) (939) f223 := z225 ▸ p246
        have r248 : R (0) (939) f223 := ⟨by omega, by omega⟩
        obtain ⟨e249, e250⟩ := PK_in pk240 (by omega)
        refine r_aload_n S dX12_skip_18 rfl (lv_at hl 0 rfl) ?_
        refine r_dup S dX12_skip_19 rfl ?_
        refine r_geti (K := 38) S X233 (Nat.le_of_ble_eq_true rfl) rfl lk12_21_10 (fun _ => ⟨_, rfl, rfl⟩) z225 dX12_skip_20 ?_
        refine r_iconst S dX12_skip_23 (by decide) (fun v251 z252 => ?_)
        have r253 := R_eq z252
        refine r_iadd S dX12_skip_24 (fun v254 z255 => ?_)
        obtain ⟨e256, r257⟩ := i_add (lo := 1) (hi := 940) z255 r248 r253 rfl
        refine r_put (K := 38) (ty := .int) S X233 (Nat.le_of_ble_eq_true rfl) rfl lk12_21_10 (fun _ => ⟨_, rfl, Nat.le_of_ble_eq_true rfl, rfl⟩) (fun _ _ _ h => by cases h; exact ⟨rfl, rfl⟩) rfl rfl dX12_skip_25 (fun t258 H lc M259 X260 => ?_)
        have I261 := Inv_mu I220 M259 (show Rg (kd 131) 4 v254 from (R_of (lo := 0) (hi := 940) r257 rfl))
        have F262 : Fr [(131, 4), (131, 11), (131, 12), (131, 13), (131, 14)] [331] τ t258 := Fr_mu F221 M259 (by decide)
        refine r_goto (tgt := 0) S dX12_skip_28 (by decide) ?_
        exact ih231 t258 _ _ _ v254 X260 I261 F262 M259.1 ⟨by omega, by omega⟩ ((M259.2 131 3 (Or.inr (by decide))).trans z226) ((M259.2 131 5 (Or.inr (by decide))).trans z227) (spc_up (i := f223) x229 e250.symm (by omega) (by omega) (by omega)) ⟨by omega, by omega⟩ (lv_sub hl [0] rfl) (by omega)
      ·
        refine r_aload_n S dX12_skip_9 rfl (lv_at hl 0 rfl) ?_
        refine r_ki (q_V (As := []) (rest := []) (K := 38) (ci := 10) S X233 (c_X12_peek_x l G t219 I220 ) ck12_147 (Nat.le_of_ble_eq_true rfl) rfl (fun _ => ⟨_, rfl⟩) ⟨_, _, rfl⟩ ⟨Nat.le_of_ble_eq_true rfl, Nat.le_of_ble_eq_true rfl⟩ rfl hl.1 rfl (Nat.le_of_ble_eq_true rfl) dX12_skip_10 ⟨Nat.le_refl 0, Nat.le_refl 0⟩) X233 (fun v266 t265 H lc q263 X264 => ?_)
        unfold po_X12_peek_x at q263
        obtain ⟨q267, q268, q269, q270⟩ := q263
        rw [q267] at X264
        rw [q267] at q269
        rw [q267] at q270
        have pk271 : PKf bb nb f223 v266 := pk_b hB I220 (F221 131 3 (by simp [fz])) (fun j => F221 132 j (by simp [fz])) z225 (by omega) q270
        refine r_bipush S dX12_skip_13 (by decide) (fun v272 z273 => ?_)
        have r274 := R_eq z273
        refine r_icmp_ne (tgt := 31) S dX12_skip_15 (by decide) (fun c275 => ?_) (fun c275 => ?_)
        ·
          refine r_aload_n S dX12_skip_31 rfl (lv_at hl 0 rfl) ?_
          refine r_aload_n S dX12_skip_32 rfl (lv_at hl 0 rfl) ?_
          refine r_geti (K := 38) S X264 (Nat.le_of_ble_eq_true rfl) rfl lk12_21_10 (fun _ => ⟨_, rfl, rfl⟩) z225 dX12_skip_33 ?_
          refine r_put (K := 38) (ty := .int) S X264 (Nat.le_of_ble_eq_true rfl) rfl lk12_151_10 (fun _ => ⟨_, rfl, Nat.le_of_ble_eq_true rfl, rfl⟩) (fun _ _ _ h => by cases h; exact ⟨rfl, rfl⟩) rfl rfl dX12_skip_36 (fun t276 H lc M277 X278 => ?_)
          have I279 := Inv_mu I220 M277 (show Rg (kd 131) 12 f223 from (R_of (lo := 0) (hi := 940) r224 rfl))
          have F280 : Fr [(131, 4), (131, 11), (131, 12), (131, 13), (131, 14)] [331] τ t276 := Fr_mu F221 M277 (by decide)
          refine r_aload_n S dX12_skip_39 rfl (lv_at hl 0 rfl) ?_
          refine r_iconst S dX12_skip_40 (by decide) (fun v281 z282 => ?_)
          have r283 := R_eq z282
          refine r_put (K := 38) (ty := .int) S X278 (Nat.le_of_ble_eq_true rfl) rfl lk12_154_10 (fun _ => ⟨_, rfl, Nat.le_of_ble_eq_true rfl, rfl⟩) (fun _ _ _ h => by cases h; exact ⟨rfl, rfl⟩) rfl rfl dX12_skip_41 (fun t284 H lc M285 X286 => ?_)
          have I287 := Inv_mu I279 M285 (show Rg (kd 131) 13 v281 from (R_of (lo := 0) (hi := 940) r283 rfl))
          have F288 : Fr [(131, 4), (131, 11), (131, 12), (131, 13), (131, 14)] [331] τ t284 := Fr_mu F280 M285 (by decide)
          refine r_aload_n S dX12_skip_44 rfl (lv_at hl 0 rfl) ?_
          refine r_geti (K := 38) S X286 (Nat.le_of_ble_eq_true rfl) rfl lk12_18_10 (fun _ => ⟨_, rfl, rfl⟩) ((M285.2 131 3 (Or.inr (by decide))).trans ((M277.2 131 3 (Or.inr (by decide))).trans z226)) dX12_skip_45 ?_
          refine r_aload_n S dX12_skip_48 rfl (lv_at hl 0 rfl) ?_
          refine r_geti (K := 38) S X286 (Nat.le_of_ble_eq_true rfl) rfl lk12_24_10 (fun _ => ⟨_, rfl, rfl⟩) ((M285.2 131 5 (Or.inr (by decide))).trans ((M277.2 131 5 (Or.inr (by decide))).trans z227)) dX12_skip_49 ?_
          have J310 : ∀ (H : Heap) (lc : List Loc) (ls : Array Slot), Xd G s H lc t284 → NLp lm nb (f223) → lv_has ls 4 [(0, .ref (G.2.2.2.1 131))] → W p l e (Rm 1 20) s m ([.ref (G.2.2.2.1 131)] : List Value).toArray below meth c H lc 0 0 (MQ below (va_Qv (po_X12_skip_q τ    bb nb lm pp) (Bs G) G.2.2.2.2) ([.ref (G.2.2.2.1 131)] : List Value).toArray s 0 0 G.2.2.2.2) (F0 m 80 ls []) := by
            intro H lc ls X308 y309 hl
            refine r_aload_n S dX12_skip_80 rfl (lv_at hl 0 rfl) ?_
            refine r_ki (q_V (As := []) (rest := []) (K := 38) (ci := 10) S X308 (c_X12_peek_x l G t284 I287 ) ck12_147 (Nat.le_of_ble_eq_true rfl) rfl (fun _ => ⟨_, rfl⟩) ⟨_, _, rfl⟩ ⟨Nat.le_of_ble_eq_true rfl, Nat.le_of_ble_eq_true rfl⟩ rfl hl.1 rfl (Nat.le_of_ble_eq_true rfl) dX12_skip_81 ⟨Nat.le_refl 0, Nat.le_refl 0⟩) X308 (fun v314 t313 H lc q311 X312 => ?_)
            unfold po_X12_peek_x at q311
            obtain ⟨q315, q316, q317, q318⟩ := q311
            rw [q315] at X312
            rw [q315] at q317
            rw [q315] at q318
            have pk319 : PKf bb nb f223 v314 := pk_b hB I287 (F288 131 3 (by simp [fz])) (fun j => F288 132 j (by simp [fz])) ((M285.2 131 4 (Or.inr (by decide))).trans ((M277.2 131 4 (Or.inr (by decide))).trans z225)) (by omega) q318
            refine r_istore_n (lv' := [(1, .int v314), (0, .ref (G.2.2.2.1 131))]) S dX12_skip_84 rfl hl (by decide) rfl (fun ls hl => ?_)
            refine r_iload_n S dX12_skip_85 rfl (lv_at hl 0 rfl) ?_
            refine r_if_ge (tgt := 95) S dX12_skip_86 (by decide) (fun c320 => ?_) (fun c320 => ?_)
            ·
              have r321 : R (0) (255) v314 := ⟨by omega, by omega⟩
              have p322 := q317 (by omega)
              have r323 : R (0) (939) f223 := ((M285.2 131 4 (Or.inr (by decide))).trans ((M277.2 131 4 (Or.inr (by decide))).trans z225)) ▸ p322
              have r324 : R (0) (939) f223 := ⟨by omega, by omega⟩
              obtain ⟨e325, e326⟩ := PK_in pk319 (by omega)
              obtain ⟨e327, e328, e329⟩ := PK_at pk240 e325
              obtain ⟨e330, e331, e332⟩ := PK_at pk271 e325
              refine r_iload_n S dX12_skip_95 rfl (lv_at hl 0 rfl) ?_
              refine r_ki (q_S (As := [.int v314]) (rest := []) S X312 (c_X12_isSmall_x l G t284 I287 v314 (R_of (lo := -2147483648) (hi := 2147483647) r321 rfl)) ck12_160 ⟨Nat.le_of_ble_eq_true rfl, Nat.le_of_ble_eq_true rfl⟩ rfl hl.1 rfl (Nat.le_of_ble_eq_true rfl) dX12_skip_96 ⟨Nat.le_refl 0, Nat.le_refl 0⟩) X312 (fun v336 t335 H lc q333 X334 => ?_)
              unfold po_X12_isSmall_x at q333
              obtain ⟨q337, q338, q339, q340⟩ := q333
              rw [q337] at X334
              refine r_if_ne (tgt := 164) S dX12_skip_99 (by decide) (fun c341 => ?_) (fun c341 => ?_)
              ·
                have r342 : R (1) (1) v336 := ⟨by omega, by omega⟩
                have p343 := q339 (by omega)
                have r344 : R (97) (122) v314 := ⟨by omega, by omega⟩
                have p345 := q317 (by omega)
                have r346 : R (0) (939) f223 := ((M285.2 131 4 (Or.inr (by decide))).trans ((M277.2 131 4 (Or.inr (by decide))).trans z225)) ▸ p345
                have r347 : R (0) (939) f223 := ⟨by omega, by omega⟩
                refine r_iload_n S dX12_skip_164 rfl (lv_at hl 0 rfl) ?_
                refine r_ki (q_S (As := [.int v314]) (rest := []) S X334 (c_X12_isSmall_x l G t284 I287 v314 (R_of (lo := -2147483648) (hi := 2147483647) r344 rfl)) ck12_160 ⟨Nat.le_of_ble_eq_true rfl, Nat.le_of_ble_eq_true rfl⟩ rfl hl.1 rfl (Nat.le_of_ble_eq_true rfl) dX12_skip_165 ⟨Nat.le_refl 0, Nat.le_refl 0⟩) X334 (fun v351 t350 H lc q348 X349 => ?_)
                unfold po_X12_isSmall_x at q348
                obtain ⟨q352, q353, q354, q355⟩ := q348
                rw [q352] at X349
                refine r_istore_n (lv' := [(2, .int v351), (1, .int v314), (0, .ref (G.2.2.2.1 131))]) S dX12_skip_168 rfl hl (by decide) rfl (fun ls hl => ?_)
                refine r_iconst S dX12_skip_169 (by decide) (fun v356 z357 => ?_)
                have r358 := R_eq z357
                refine r_istore_n (lv' := [(3, .int v356), (2, .int v351), (1, .int v314), (0, .ref (G.2.2.2.1 131))]) S dX12_skip_170 rfl hl (by decide) rfl (fun ls hl => ?_)
                have hs359 : (v351.toInt = 1 ∧ low (bb f223.toInt.toNat)) ∨ (v351.toInt = 0 ∧ dig (bb f223.toInt.toNat)) := by omega
                refine r_aload_n S dX12_skip_171 rfl (lv_at hl 3 rfl) ?_
                refine lv_lconst S.1.1 S.1.2.1 dX12_skip_172 rfl ?_
                refine lv_topl (fun j360 z361 => ?_)
                refine r_putJ (K := 38) S X349 (Nat.le_of_ble_eq_true rfl) rfl lk12_170_10 (fun _ => ⟨_, rfl, Nat.le_of_ble_eq_true rfl, rfl⟩) (fun _ _ _ h => by cases h; exact ⟨rfl, rfl⟩) dX12_skip_173 (fun t363 H lc M364 X362 => ?_)
                have I365 := Inv_ml I287 M364
                have F366 : Fr [(131, 4), (131, 11), (131, 12), (131, 13), (131, 14)] [331] τ t363 := Fr_ml F288 M364 (by decide)
                refine r_aload_n S dX12_skip_176 rfl (lv_at hl 3 rfl) ?_
                refine r_iconst S dX12_skip_177 (by decide) (fun v367 z368 => ?_)
                have r369 := R_eq z368
                refine r_put (K := 38) (ty := .int) S X362 (Nat.le_of_ble_eq_true rfl) rfl lk12_167_10 (fun _ => ⟨_, rfl, Nat.le_of_ble_eq_true rfl, rfl⟩) (fun _ _ _ h => by cases h; exact ⟨rfl, rfl⟩) rfl rfl dX12_skip_178 (fun t370 H lc M371 X372 => ?_)
                have I373 := Inv_mu I365 M371 (R_any v367)
                have F374 : Fr [(131, 4), (131, 11), (131, 12), (131, 13), (131, 14)] [331] τ t370 := Fr_mu F366 M371 (by decide)
                have L12147 : ∀ (n : Nat) (t12131 : Tau) (H : Heap) (lc : List Loc) (ls : Array Slot) (i12129 : Int32) (f12135 : Int32) (f12141 : Int32) (f12144 : Int32), Xd G s H lc t12131 → Inv t12131 → Fr [(131, 4), (131, 11), (131, 12), (131, 13), (131, 14)] [331] τ t12131 → R (0) (1) i12129 → t12131 131 4 = f12135 → R (0) (940) f12135 → t12131 131 3 = v4 → t12131 131 5 = v7 → t12131 131 12 = f223 → t12131 131 13 = f12141 → R (0) (940) f12141 → t12131 131 14 = f12144 → R (-2147483648) (2147483647) f12144 → LM bb (f223).toInt.toNat (f12135).toInt.toNat (v351).toInt (i12129).toInt (f12141).toInt (qof t12131 131 17).toInt (f12144).toInt → (f12135).toInt ≤ nb → lv_has ls 4 [(0, .ref (G.2.2.2.1 131)), (2, .int v351), (3, .int i12129)] → (940 - f12135.toInt).toNat < n → W p l e (Rm 1 20) s m ([.ref (G.2.2.2.1 131)] : List Value).toArray below meth c H lc 0 0 (MQ below (va_Qv (po_X12_skip_q τ    bb nb lm pp) (Bs G) G.2.2.2.2) ([.ref (G.2.2.2.1 131)] : List Value).toArray s 0 0 G.2.2.2.2) (F0 m 181 ls []) := by
                  intro n
                  induction n with
                  | zero => intros; omega
                  | succ n ih12150 =>
                    intro t12131 H lc ls i12129 f12135 f12141 f12144 X12134 I12132 F12133 r12130 z12137 r12136 z12138 z12139 z12140 z12143 r12142 z12146 r12145 x12148 x12149 hl hm
                    obtain ⟨e12151, e12152⟩ := LM_b x12148
                    refine r_aload_n S dX12_skip_181 rfl (lv_at hl 0 rfl) ?_
                    refine r_ki (q_V (As := []) (rest := []) (K := 38) (ci := 10) S X12134 (c_X12_peek_x l G t12131 I12132 ) ck12_147 (Nat.le_of_ble_eq_true rfl) rfl (fun _ => ⟨_, rfl⟩) ⟨_, _, rfl⟩ ⟨Nat.le_of_ble_eq_true rfl, Nat.le_of_ble_eq_true rfl⟩ rfl hl.1 rfl (Nat.le_of_ble_eq_true rfl) dX12_skip_182 ⟨Nat.le_refl 0, Nat.le_refl 0⟩) X12134 (fun v12156 t12155 H lc q12153 X12154 => ?_)
                    unfold po_X12_peek_x at q12153
                    obtain ⟨q12157, q12158, q12159, q12160⟩ := q12153
                    rw [q12157] at X12154
                    rw [q12157] at q12159
                    rw [q12157] at q12160
                    have pk12161 : PKf bb nb f12135 v12156 := pk_b hB I12132 (F12133 131 3 (by simp [fz])) (fun j => F12133 132 j (by simp [fz])) z12137 (by omega) q12160
                    refine r_ki (q_S (As := [.int v12156]) (rest := []) S X12154 (c_X12_isSmall_x l G t12131 I12132 v12156 (R_of (lo := -2147483648) (hi := 2147483647) q12158 rfl)) ck12_160 ⟨Nat.le_of_ble_eq_true rfl, Nat.le_of_ble_eq_true rfl⟩ rfl hl.1 rfl (Nat.le_of_ble_eq_true rfl) dX12_skip_185 ⟨Nat.le_refl 0, Nat.le_refl 0⟩) X12154 (fun v12165 t12164 H lc q12162 X12163 => ?_)
                    unfold po_X12_isSmall_x at q12162
                    obtain ⟨q12166, q12167, q12168, q12169⟩ := q12162
                    rw [q12166] at X12163
                    have J12271 : ∀ (H : Heap) (lc : List Loc) (ls : Array Slot), Xd G s H lc t12131 → R (0) (939) f12135 → f12135.toInt < nb ∧ (aln (bb f12135.toInt.toNat) ∧ 0 ≤ bb f12135.toInt.toNat ∧ bb f12135.toInt.toNat ≤ 255) → lv_has ls 4 [(0, .ref (G.2.2.2.1 131)), (2, .int v351), (3, .int i12129)] → W p l e (Rm 1 20) s m ([.ref (G.2.2.2.1 131)] : List Value).toArray below meth c H lc 0 0 (MQ below (va_Qv (po_X12_skip_q τ    bb nb lm pp) (Bs G) G.2.2.2.2) ([.ref (G.2.2.2.1 131)] : List Value).toArray s 0 0 G.2.2.2.2) (F0 m 201 ls []) := by
                      intro H lc ls X12268 r12269 y12270 hl
                      refine r_iload_n S dX12_skip_201 rfl (lv_at hl 2 rfl) ?_
                      have J12309 : ∀ (H : Heap) (lc : List Loc) (ls : Array Slot) (i12306 : Int32), Xd G s H lc t12131 → R (0) (1) i12306 → HAp (i12306).toInt i12129.toInt v351.toInt (bb f12135.toInt.toNat) → lv_has ls 4 [(0, .ref (G.2.2.2.1 131)), (2, .int v351)] → W p l e (Rm 1 20) s m ([.ref (G.2.2.2.1 131)] : List Value).toArray below meth c H lc 0 0 (MQ below (va_Qv (po_X12_skip_q τ    bb nb lm pp) (Bs G) G.2.2.2.2) ([.ref (G.2.2.2.1 131)] : List Value).toArray s 0 0 G.2.2.2.2) (F0 m 221 ls [.int i12306]) := by
                        intro H lc ls i12306 X12305 r12307 y12308 hl
                        refine r_istore_n (lv' := [(3, .int i12306), (0, .ref (G.2.2.2.1 131)), (2, .int v351)]) S dX12_skip_221 rfl hl (by decide) rfl (fun ls hl => ?_)
                        refine r_aload_n S dX12_skip_222 rfl (lv_at hl 1 rfl) ?_
                        refine r_geti (K := 38) S X12305 (Nat.le_of_ble_eq_true rfl) rfl lk12_154_10 (fun _ => ⟨_, rfl, rfl⟩) z12143 dX12_skip_223 ?_
                        refine r_bipush S dX12_skip_226 (by decide) (fun v12310 z12311 => ?_)
                        have r12312 := R_eq z12311
                        have J12356 : ∀ (t12344 : Tau) (H : Heap) (lc : List Loc) (ls : Array Slot), Xd G s H lc t12344 → Inv t12344 → Fr [(131, 4), (131, 11), (131, 12), (131, 13), (131, 14)] [331] τ t12344 → t12344 131 4 = f12135 → t12344 131 3 = v4 → t12344 131 5 = v7 → t12344 131 12 = f223 → R (0) (940) f12141 → t12344 131 13 = f12141 → t12344 131 14 = f12144 → HWp i12129.toInt v351.toInt f12141.toInt (qof t12131 131 17).toInt (qof t12344 131 17).toInt (bb f12135.toInt.toNat) → lv_has ls 4 [(0, .ref (G.2.2.2.1 131)), (2, .int v351), (3, .int i12306)] → W p l e (Rm 1 20) s m ([.ref (G.2.2.2.1 131)] : List Value).toArray below meth c H lc 0 0 (MQ below (va_Qv (po_X12_skip_q τ    bb nb lm pp) (Bs G) G.2.2.2.2) ([.ref (G.2.2.2.1 131)] : List Value).toArray s 0 0 G.2.2.2.2) (F0 m 248 ls []) := by
                          intro t12344 H lc ls X12347 I12345 F12346 z12348 z12349 z12350 z12351 r12352 z12353 z12354 y12355 hl
                          refine r_aload_n S dX12_skip_248 rfl (lv_at hl 0 rfl) ?_
                          refine r_geti (K := 38) S X12347 (Nat.le_of_ble_eq_true rfl) rfl lk12_154_10 (fun _ => ⟨_, rfl, rfl⟩) z12353 dX12_skip_249 ?_
                          refine r_iconst S dX12_skip_252 (by decide) (fun v12357 z12358 => ?_)
                          have r12359 := R_eq z12358
                          have J12410 : ∀ (t12395 : Tau) (H : Heap) (lc : List Loc) (ls : Array Slot) (i12405 : Int32), Xd G s H lc t12395 → Inv t12395 → Fr [(131, 4), (131, 11), (131, 12), (131, 13), (131, 14)] [331] τ t12395 → t12395 131 4 = f12135 → t12395 131 3 = v4 → t12395 131 5 = v7 → t12395 131 12 = f223 → R (0) (940) f12141 → t12395 131 13 = f12141 → R (-2147483648) (2147483647) i12405 → t12395 131 14 = i12405 → HWp i12129.toInt v351.toInt f12141.toInt (qof t12131 131 17).toInt (qof t12395 131 17).toInt (bb f12135.toInt.toNat) → HNp i12129.toInt v351.toInt f12141.toInt f12144.toInt (i12405).toInt (bb f12135.toInt.toNat) → lv_has ls 4 [(0, .ref (G.2.2.2.1 131)), (2, .int v351), (3, .int i12306)] → W p l e (Rm 1 20) s m ([.ref (G.2.2.2.1 131)] : List Value).toArray below meth c H lc 0 0 (MQ below (va_Qv (po_X12_skip_q τ    bb nb lm pp) (Bs G) G.2.2.2.2) ([.ref (G.2.2.2.1 131)] : List Value).toArray s 0 0 G.2.2.2.2) (F0 m 275 ls []) := by
                            intro t12395 H lc ls i12405 X12398 I12396 F12397 z12399 z12400 z12401 z12402 r12403 z12404 r12406 z12407 y12408 y12409 hl
                            refine r_aload_n S dX12_skip_275 rfl (lv_at hl 0 rfl) ?_
                            refine r_dup S dX12_skip_276 rfl ?_
                            refine r_geti (K := 38) S X12398 (Nat.le_of_ble_eq_true rfl) rfl lk12_154_10 (fun _ => ⟨_, rfl, rfl⟩) z12404 dX12_skip_277 ?_
                            refine r_iconst S dX12_skip_280 (by decide) (fun v12411 z12412 => ?_)
                            have r12413 := R_eq z12412
                            refine r_iadd S dX12_skip_281 (fun v12414 z12415 => ?_)
                            obtain ⟨e12416, r12417⟩ := i_add (lo := 1) (hi := 941) z12415 r12403 r12413 rfl
                            refine r_put (K := 38) (ty := .int) S X12398 (Nat.le_of_ble_eq_true rfl) rfl lk12_154_10 (fun _ => ⟨_, rfl, Nat.le_of_ble_eq_true rfl, rfl⟩) (fun _ _ _ h => by cases h; exact ⟨rfl, rfl⟩) rfl rfl dX12_skip_282 (fun t12418 H lc M12419 X12420 => ?_)
                            have I12421 := Inv_mu I12396 M12419 (show Rg (kd 131) 13 v12414 from (show R (0) (940) v12414 from ⟨by omega, by omega⟩))
                            have F12422 : Fr [(131, 4), (131, 11), (131, 12), (131, 13), (131, 14)] [331] τ t12418 := Fr_mu F12397 M12419 (by decide)
                            have r12423 : R (1) (940) v12414 := ⟨by omega, by omega⟩
                            refine r_aload_n S dX12_skip_285 rfl (lv_at hl 0 rfl) ?_
                            refine r_dup S dX12_skip_286 rfl ?_
                            refine r_geti (K := 38) S X12420 (Nat.le_of_ble_eq_true rfl) rfl lk12_21_10 (fun _ => ⟨_, rfl, rfl⟩) ((M12419.2 131 4 (Or.inr (by decide))).trans z12399) dX12_skip_287 ?_
                            refine r_iconst S dX12_skip_290 (by decide) (fun v12424 z12425 => ?_)
                            have r12426 := R_eq z12425
                            refine r_iadd S dX12_skip_291 (fun v12427 z12428 => ?_)
                            obtain ⟨e12429, r12430⟩ := i_add (lo := 1) (hi := 940) z12428 r12269 r12426 rfl
                            refine r_put (K := 38) (ty := .int) S X12420 (Nat.le_of_ble_eq_true rfl) rfl lk12_21_10 (fun _ => ⟨_, rfl, Nat.le_of_ble_eq_true rfl, rfl⟩) (fun _ _ _ h => by cases h; exact ⟨rfl, rfl⟩) rfl rfl dX12_skip_292 (fun t12431 H lc M12432 X12433 => ?_)
                            have I12434 := Inv_mu I12421 M12432 (show Rg (kd 131) 4 v12427 from (R_of (lo := 0) (hi := 940) r12430 rfl))
                            have F12435 : Fr [(131, 4), (131, 11), (131, 12), (131, 13), (131, 14)] [331] τ t12431 := Fr_mu F12422 M12432 (by decide)
                            refine r_goto (tgt := 181) S dX12_skip_295 (by decide) ?_
                            exact ih12150 t12431 _ _ _ i12306 v12427 v12414 i12405 X12433 I12434 F12435 r12307 M12432.1 ⟨by omega, by omega⟩ ((M12432.2 131 3 (Or.inr (by decide))).trans ((M12419.2 131 3 (Or.inr (by decide))).trans z12400)) ((M12432.2 131 5 (Or.inr (by decide))).trans ((M12419.2 131 5 (Or.inr (by decide))).trans z12401)) ((M12432.2 131 12 (Or.inr (by decide))).trans ((M12419.2 131 12 (Or.inr (by decide))).trans z12402)) ((M12432.2 131 13 (Or.inr (by decide))).trans M12419.1) ⟨by omega, by omega⟩ ((M12432.2 131 14 (Or.inr (by decide))).trans ((M12419.2 131 14 (Or.inr (by decide))).trans z12407)) ⟨by omega, by omega⟩ (by rw [show qof t12431 131 17 = qof t12395 131 17 from (qof_of (k := 131) (fun j => ((M12432.2 331 j (Or.inl (by decide))).trans ((M12419.2 331 j (Or.inl (by decide))).trans rfl))) 17 : qof t12431 131 17 = qof t12395 131 17)]; exact LM_upq (i := f12135) (sp := f12141) (al := i12129) x12148 hs359 (by omega) y12308 y12408 y12409 (by omega) (by omega) (by omega)) (by omega) (lv_sub hl [0, 1, 2] rfl) (by omega)
                          refine r_icmp_ge (tgt := 275) S dX12_skip_253 (by decide) (fun c12436 => ?_) (fun c12436 => ?_)
                          ·
                            have r12437 : R (2) (940) f12141 := ⟨by omega, by omega⟩
                            exact J12410 t12344 _ _ _ f12144 X12347 I12345 F12346 z12348 z12349 z12350 z12351 (R_of r12437 rfl) z12353 r12145 z12354 y12355 (fun _ _ h => by exfalso; omega) (lv_sub hl [0, 1, 2] rfl)
                          ·
                            have r12438 : R (0) (1) f12141 := ⟨by omega, by omega⟩
                            refine r_aload_n S dX12_skip_256 rfl (lv_at hl 0 rfl) ?_
                            refine r_bipush S dX12_skip_257 (by decide) (fun v12439 z12440 => ?_)
                            have r12441 := R_eq z12440
                            refine r_aload_n S dX12_skip_259 rfl (lv_at hl 0 rfl) ?_
                            refine r_geti (K := 38) S X12347 (Nat.le_of_ble_eq_true rfl) rfl lk12_167_10 (fun _ => ⟨_, rfl, rfl⟩) z12354 dX12_skip_260 ?_
                            refine r_imul S dX12_skip_263 (fun v12442 z12443 => ?_)
                            have r12444 := R_any v12442
                            refine r_aload_n S dX12_skip_264 rfl (lv_at hl 0 rfl) ?_
                            refine r_ki (q_V (As := []) (rest := [.int v12442, .ref (G.2.2.2.1 131)]) (K := 38) (ci := 10) S X12347 (c_X12_peek_x l G t12344 I12345 ) ck12_147 (Nat.le_of_ble_eq_true rfl) rfl (fun _ => ⟨_, rfl⟩) ⟨_, _, rfl⟩ ⟨Nat.le_of_ble_eq_true rfl, Nat.le_of_ble_eq_true rfl⟩ rfl hl.1 rfl (Nat.le_of_ble_eq_true rfl) dX12_skip_265 ⟨Nat.le_refl 0, Nat.le_refl 0⟩) X12347 (fun v12448 t12447 H lc q12445 X12446 => ?_)
                            unfold po_X12_peek_x at q12445
                            obtain ⟨q12449, q12450, q12451, q12452⟩ := q12445
                            rw [q12449] at X12446
                            rw [q12449] at q12451
                            rw [q12449] at q12452
                            have pk12453 : PKf bb nb f12135 v12448 := pk_b hB I12345 (F12346 131 3 (by simp [fz])) (fun j => F12346 132 j (by simp [fz])) z12348 (by omega) q12452
                            obtain ⟨e12454, e12455, e12456⟩ := PK_at pk12453 (by omega)
                            refine r_iadd S dX12_skip_268 (fun v12457 z12458 => ?_)
                            have r12459 := R_any v12457
                            refine r_bipush S dX12_skip_269 (by decide) (fun v12460 z12461 => ?_)
                            have r12462 := R_eq z12461
                            refine r_isub S dX12_skip_271 (fun v12463 z12464 => ?_)
                            have r12465 := R_any v12463
                            refine r_put (K := 38) (ty := .int) S X12446 (Nat.le_of_ble_eq_true rfl) rfl lk12_167_10 (fun _ => ⟨_, rfl, Nat.le_of_ble_eq_true rfl, rfl⟩) (fun _ _ _ h => by cases h; exact ⟨rfl, rfl⟩) rfl rfl dX12_skip_272 (fun t12466 H lc M12467 X12468 => ?_)
                            have I12469 := Inv_mu I12345 M12467 (R_any v12463)
                            have F12470 : Fr [(131, 4), (131, 11), (131, 12), (131, 13), (131, 14)] [331] τ t12466 := Fr_mu F12346 M12467 (by decide)
                            exact J12410 t12466 _ _ _ v12463 X12468 I12469 F12470 ((M12467.2 131 4 (Or.inr (by decide))).trans z12348) ((M12467.2 131 3 (Or.inr (by decide))).trans z12349) ((M12467.2 131 5 (Or.inr (by decide))).trans z12350) ((M12467.2 131 12 (Or.inr (by decide))).trans z12351) (R_of r12438 rfl) ((M12467.2 131 13 (Or.inr (by decide))).trans z12353) r12465 M12467.1 (by rw [show qof t12466 131 17 = qof t12344 131 17 from (qof_of (k := 131) (fun j => ((M12467.2 331 j (Or.inl (by decide))).trans rfl)) 17 : qof t12466 131 17 = qof t12344 131 17)]; exact y12355) (LM_hn (c := v12439) (x := v12448) (d := v12460) x12148 (by omega) z12443 z12458 (by omega) z12464 (by omega) (by omega)) (lv_sub hl [0, 1, 2] rfl)
                        refine r_icmp_ge (tgt := 248) S dX12_skip_228 (by decide) (fun c12471 => ?_) (fun c12471 => ?_)
                        ·
                          have r12472 : R (7) (940) f12141 := ⟨by omega, by omega⟩
                          exact J12356 t12131 _ _ _ X12305 I12132 F12133 z12137 z12138 z12139 z12140 (R_of r12472 rfl) z12143 z12146 (fun _ _ h => by exfalso; omega) (lv_sub hl [1, 2, 0] rfl)
                        ·
                          have r12473 : R (0) (6) f12141 := ⟨by omega, by omega⟩
                          refine r_aload_n S dX12_skip_231 rfl (lv_at hl 1 rfl) ?_
                          refine r_aload_n S dX12_skip_232 rfl (lv_at hl 1 rfl) ?_
                          refine r_getJ (K := 38) S X12305 (Nat.le_of_ble_eq_true rfl) rfl lk12_170_10 (fun _ => ⟨_, rfl, rfl⟩) dX12_skip_233 (fun j12474 z12475 => ?_)
                          refine r_bipush S dX12_skip_236 (by decide) (fun v12476 z12477 => ?_)
                          have r12478 := R_eq z12477
                          refine lv_lshl S.1.1 S.1.2.1 dX12_skip_238 rfl ?_
                          refine lv_topl (fun j12479 z12480 => ?_)
                          refine r_aload_n S dX12_skip_239 rfl (lv_at hl 1 rfl) ?_
                          refine r_ki (q_V (As := []) (rest := [.long j12479, .ref (G.2.2.2.1 131)]) (K := 38) (ci := 10) S X12305 (c_X12_peek_x l G t12131 I12132 ) ck12_147 (Nat.le_of_ble_eq_true rfl) rfl (fun _ => ⟨_, rfl⟩) ⟨_, _, rfl⟩ ⟨Nat.le_of_ble_eq_true rfl, Nat.le_of_ble_eq_true rfl⟩ rfl hl.1 rfl (Nat.le_of_ble_eq_true rfl) dX12_skip_240 ⟨Nat.le_refl 0, Nat.le_refl 0⟩) X12305 (fun v12484 t12483 H lc q12481 X12482 => ?_)
                          unfold po_X12_peek_x at q12481
                          obtain ⟨q12485, q12486, q12487, q12488⟩ := q12481
                          rw [q12485] at X12482
                          rw [q12485] at q12487
                          rw [q12485] at q12488
                          have pk12489 : PKf bb nb f12135 v12484 := pk_b hB I12132 (F12133 131 3 (by simp [fz])) (fun j => F12133 132 j (by simp [fz])) z12137 (by omega) q12488
                          obtain ⟨e12490, e12491, e12492⟩ := PK_at pk12489 (by omega)
                          refine lv_i2l S.1.1 S.1.2.1 dX12_skip_243 rfl ?_
                          refine lv_topl (fun j12493 z12494 => ?_)
                          refine lv_lor S.1.1 S.1.2.1 dX12_skip_244 ?_
                          refine lv_topl (fun j12495 z12496 => ?_)
                          refine r_putJ (K := 38) S X12482 (Nat.le_of_ble_eq_true rfl) rfl lk12_170_10 (fun _ => ⟨_, rfl, Nat.le_of_ble_eq_true rfl, rfl⟩) (fun _ _ _ h => by cases h; exact ⟨rfl, rfl⟩) dX12_skip_245 (fun t12498 H lc M12499 X12497 => ?_)
                          have I12500 := Inv_ml I12132 M12499
                          have F12501 : Fr [(131, 4), (131, 11), (131, 12), (131, 13), (131, 14)] [331] τ t12498 := Fr_ml F12133 M12499 (by decide)
                          exact J12356 t12498 _ _ _ X12497 I12500 F12501 ((M12499.1 131 (by decide) 4).trans z12137) ((M12499.1 131 (by decide) 3).trans z12138) ((M12499.1 131 (by decide) 5).trans z12139) ((M12499.1 131 (by decide) 12).trans z12140) (R_of r12473 rfl) ((M12499.1 131 (by decide) 13).trans z12143) ((M12499.1 131 (by decide) 14).trans z12146) (LM_hw (x := v12484) (y := v12476) x12148 ((qof_of (k := 131) (fun j => rfl) 17 : qof t12131 131 17 = qof t12131 131 17).symm.trans z12475) (by omega) (by rw [z12496, z12480, z12494]) ((qof_of (k := 131) (fun j => rfl) 17).trans (Ml_upd M12499)) (by omega) (by omega)) (lv_sub hl [1, 2, 0] rfl)
                      refine r_if_eq (tgt := 220) S dX12_skip_202 (by decide) (fun c12502 => ?_) (fun c12502 => ?_)
                      ·
                        have r12503 : R (0) (0) i12129 := ⟨by omega, by omega⟩
                        refine r_iconst S dX12_skip_220 (by decide) (fun v12504 z12505 => ?_)
                        have r12506 := R_eq z12505
                        exact J12309 _ _ _ v12504 X12268 (R_of r12506 rfl) (show HAp v12504.toInt i12129.toInt v351.toInt (bb f12135.toInt.toNat) from by unfold HAp; omega) (lv_sub hl [0, 1] rfl)
                      ·
                        have r12507 : R (1) (1) i12129 := ⟨by omega, by omega⟩
                        refine r_aload_n S dX12_skip_205 rfl (lv_at hl 0 rfl) ?_
                        refine r_ki (q_V (As := []) (rest := []) (K := 38) (ci := 10) S X12268 (c_X12_peek_x l G t12131 I12132 ) ck12_147 (Nat.le_of_ble_eq_true rfl) rfl (fun _ => ⟨_, rfl⟩) ⟨_, _, rfl⟩ ⟨Nat.le_of_ble_eq_true rfl, Nat.le_of_ble_eq_true rfl⟩ rfl hl.1 rfl (Nat.le_of_ble_eq_true rfl) dX12_skip_206 ⟨Nat.le_refl 0, Nat.le_refl 0⟩) X12268 (fun v12511 t12510 H lc q12508 X12509 => ?_)
                        unfold po_X12_peek_x at q12508
                        obtain ⟨q12512, q12513, q12514, q12515⟩ := q12508
                        rw [q12512] at X12509
                        rw [q12512] at q12514
                        rw [q12512] at q12515
                        have pk12516 : PKf bb nb f12135 v12511 := pk_b hB I12132 (F12133 131 3 (by simp [fz])) (fun j => F12133 132 j (by simp [fz])) z12137 (by omega) q12515
                        obtain ⟨e12517, e12518, e12519⟩ := PK_at pk12516 (by omega)
                        refine r_ki (q_S (As := [.int v12511]) (rest := []) S X12509 (c_X12_isSmall_x l G t12131 I12132 v12511 (R_of (lo := -2147483648) (hi := 2147483647) q12513 rfl)) ck12_160 ⟨Nat.le_of_ble_eq_true rfl, Nat.le_of_ble_eq_true rfl⟩ rfl hl.1 rfl (Nat.le_of_ble_eq_true rfl) dX12_skip_209 ⟨Nat.le_refl 0, Nat.le_refl 0⟩) X12509 (fun v12523 t12522 H lc q12520 X12521 => ?_)
                        unfold po_X12_isSmall_x at q12520
                        obtain ⟨q12524, q12525, q12526, q12527⟩ := q12520
                        rw [q12524] at X12521
                        refine r_iload_n S dX12_skip_212 rfl (lv_at hl 1 rfl) ?_
                        refine r_icmp_ne (tgt := 220) S dX12_skip_213 (by decide) (fun c12528 => ?_) (fun c12528 => ?_)
                        ·
                          refine r_iconst S dX12_skip_220 (by decide) (fun v12529 z12530 => ?_)
                          have r12531 := R_eq z12530
                          exact J12309 _ _ _ v12529 X12521 (R_of r12531 rfl) (show HAp v12529.toInt i12129.toInt v351.toInt (bb f12135.toInt.toNat) from by unfold HAp; omega) (lv_sub hl [0, 1] rfl)
                        ·
                          refine r_iconst S dX12_skip_216 (by decide) (fun v12532 z12533 => ?_)
                          have r12534 := R_eq z12533
                          refine r_goto (tgt := 221) S dX12_skip_217 (by decide) ?_
                          exact J12309 _ _ _ v12532 X12521 (R_of r12534 rfl) (show HAp v12532.toInt i12129.toInt v351.toInt (bb f12135.toInt.toNat) from by unfold HAp; omega) (lv_sub hl [0, 1] rfl)
                    refine r_if_ne (tgt := 201) S dX12_skip_188 (by decide) (fun c12535 => ?_) (fun c12535 => ?_)
                    ·
                      have r12536 : R (1) (1) v12165 := ⟨by omega, by omega⟩
                      have p12537 := q12168 (by omega)
                      have r12538 : R (97) (122) v12156 := ⟨by omega, by omega⟩
                      have p12539 := q12159 (by omega)
                      have r12540 : R (0) (939) f12135 := z12137 ▸ p12539
                      have r12541 : R (0) (939) f12135 := ⟨by omega, by omega⟩
                      exact J12271 _ _ _ X12163 r12541 (by have q := PK_in pk12161 (by omega); have q2 := PK_at pk12161 q.1; omega) (lv_sub hl [0, 1, 2] rfl)
                    ·
                      have r12542 : R (0) (0) v12165 := ⟨by omega, by omega⟩
                      refine r_aload_n S dX12_skip_191 rfl (lv_at hl 0 rfl) ?_
                      refine r_ki (q_V (As := []) (rest := []) (K := 38) (ci := 10) S X12163 (c_X12_peek_x l G t12131 I12132 ) ck12_147 (Nat.le_of_ble_eq_true rfl) rfl (fun _ => ⟨_, rfl⟩) ⟨_, _, rfl⟩ ⟨Nat.le_of_ble_eq_true rfl, Nat.le_of_ble_eq_true rfl⟩ rfl hl.1 rfl (Nat.le_of_ble_eq_true rfl) dX12_skip_192 ⟨Nat.le_refl 0, Nat.le_refl 0⟩) X12163 (fun v12546 t12545 H lc q12543 X12544 => ?_)
                      unfold po_X12_peek_x at q12543
                      obtain ⟨q12547, q12548, q12549, q12550⟩ := q12543
                      rw [q12547] at X12544
                      rw [q12547] at q12549
                      rw [q12547] at q12550
                      have pk12551 : PKf bb nb f12135 v12546 := pk_b hB I12132 (F12133 131 3 (by simp [fz])) (fun j => F12133 132 j (by simp [fz])) z12137 (by omega) q12550
                      refine r_ki (q_S (As := [.int v12546]) (rest := []) S X12544 (c_X12_isDigit_x l G t12131 I12132 v12546 (R_of (lo := -2147483648) (hi := 2147483647) q12548 rfl)) ck12_164 ⟨Nat.le_of_ble_eq_true rfl, Nat.le_of_ble_eq_true rfl⟩ rfl hl.1 rfl (Nat.le_of_ble_eq_true rfl) dX12_skip_195 ⟨Nat.le_refl 0, Nat.le_refl 0⟩) X12544 (fun v12555 t12554 H lc q12552 X12553 => ?_)
                      unfold po_X12_isDigit_x at q12552
                      obtain ⟨q12556, q12557, q12558, q12559⟩ := q12552
                      rw [q12556] at X12553
                      refine r_if_eq (tgt := 298) S dX12_skip_198 (by decide) (fun c12560 => ?_) (fun c12560 => ?_)
                      ·
                        have r12561 : R (0) (0) v12555 := ⟨by omega, by omega⟩
                        have he12562 : f12135.toInt.toNat < nb → ¬ aln (bb f12135.toInt.toNat) := fun h => by have q0 := PK_at pk12161 (by omega); have q1 := PK_at pk12551 (by omega); omega
                        have e12563 : 0 < f12141.toInt := LM_pos x12148 hs359 he12562 (by omega)
                        refine r_aload_n S dX12_skip_298 rfl (lv_at hl 0 rfl) ?_
                        refine r_iload_n S dX12_skip_299 rfl (lv_at hl 2 rfl) ?_
                        refine r_if_eq (tgt := 320) S dX12_skip_300 (by decide) (fun c12564 => ?_) (fun c12564 => ?_)
                        ·
                          have r12565 : R (0) (0) i12129 := ⟨by omega, by omega⟩
                          refine r_iconst S dX12_skip_320 (by decide) (fun v12566 z12567 => ?_)
                          have r12568 := R_eq z12567
                          refine r_goto (tgt := 333) S dX12_skip_321 (by decide) ?_
                          refine r_put (K := 38) (ty := .int) S X12553 (Nat.le_of_ble_eq_true rfl) rfl lk12_157_10 (fun _ => ⟨_, rfl, Nat.le_of_ble_eq_true rfl, rfl⟩) (fun _ _ _ h => by cases h; exact ⟨rfl, rfl⟩) rfl rfl dX12_skip_333 (fun t12569 H lc M12570 X12571 => ?_)
                          have I12572 := Inv_mu I12132 M12570 (show Rg (kd 131) 11 v12566 from (R_of (lo := 0) (hi := 4) r12568 rfl))
                          have F12573 : Fr [(131, 4), (131, 11), (131, 12), (131, 13), (131, 14)] [331] τ t12569 := Fr_mu F12133 M12570 (by decide)
                          exact r_vret S hr hlk X12571 ⟨I12572, F12573, (by rw [((M12570.2 131 4 (Or.inr (by decide))).trans z12137)]; exact R_of r12136 rfl), (by rw [M12570.1]; exact R_of r12568 rfl), (by have h1_0 := congrArg Int32.toInt ((M12570.2 131 4 (Or.inr (by decide))).trans z12137); have h2_0 := congrArg Int32.toInt z2; omega), (by have h1_0 := congrArg Int32.toInt ((M12570.2 131 4 (Or.inr (by decide))).trans z12137); have h2_0 := congrArg Int32.toInt z2; have h1_1 := congrArg Int32.toInt M12570.1; omega), (MT_odd (A := f223.toInt.toNat) (i := f12135.toInt.toNat) (sm := v351.toInt) (al := i12129.toInt) (sp := f12141.toInt) x12148 (MB_eq hB (F12573 131 3 (by simp [fz])) (F12573 131 5 (by simp [fz])) (fun j => F12573 132 j (by simp [fz]))) ⟨by omega, by omega, x229, fun _ => by omega⟩ (NLp_u y309 (by omega)) (by omega) he12562 hs359 (by omega) (by omega) (by have q := congrArg Int32.toInt ((M12570.2 131 12 (Or.inr (by decide))).trans z12140); omega) (by have q := congrArg Int32.toInt M12570.1; omega))⟩ dX12_skip_336
                        ·
                          have r12574 : R (1) (1) i12129 := ⟨by omega, by omega⟩
                          refine r_aload_n S dX12_skip_303 rfl (lv_at hl 0 rfl) ?_
                          refine r_geti (K := 38) S X12553 (Nat.le_of_ble_eq_true rfl) rfl lk12_154_10 (fun _ => ⟨_, rfl, rfl⟩) z12143 dX12_skip_304 ?_
                          refine r_iload_n S dX12_skip_307 rfl (lv_at hl 1 rfl) ?_
                          refine r_if_eq (tgt := 316) S dX12_skip_308 (by decide) (fun c12575 => ?_) (fun c12575 => ?_)
                          ·
                            have r12576 : R (0) (0) v351 := ⟨by omega, by omega⟩
                            refine r_iconst S dX12_skip_316 (by decide) (fun v12577 z12578 => ?_)
                            have r12579 := R_eq z12578
                            refine r_icmp_le (tgt := 324) S dX12_skip_317 (by decide) (fun c12580 => ?_) (fun c12580 => ?_)
                            ·
                              have r12581 : R (0) (2) f12141 := ⟨by omega, by omega⟩
                              refine r_iload_n S dX12_skip_324 rfl (lv_at hl 1 rfl) ?_
                              refine r_if_eq (tgt := 332) S dX12_skip_325 (by decide) (fun c12582 => ?_) (fun c12582 => ?_)
                              ·
                                refine r_iconst S dX12_skip_332 (by decide) (fun v12583 z12584 => ?_)
                                have r12585 := R_eq z12584
                                refine r_put (K := 38) (ty := .int) S X12553 (Nat.le_of_ble_eq_true rfl) rfl lk12_157_10 (fun _ => ⟨_, rfl, Nat.le_of_ble_eq_true rfl, rfl⟩) (fun _ _ _ h => by cases h; exact ⟨rfl, rfl⟩) rfl rfl dX12_skip_333 (fun t12586 H lc M12587 X12588 => ?_)
                                have I12589 := Inv_mu I12132 M12587 (show Rg (kd 131) 11 v12583 from (R_of (lo := 0) (hi := 4) r12585 rfl))
                                have F12590 : Fr [(131, 4), (131, 11), (131, 12), (131, 13), (131, 14)] [331] τ t12586 := Fr_mu F12133 M12587 (by decide)
                                exact r_vret S hr hlk X12588 ⟨I12589, F12590, (by rw [((M12587.2 131 4 (Or.inr (by decide))).trans z12137)]; exact R_of r12136 rfl), (by rw [M12587.1]; exact R_of r12585 rfl), (by have h1_0 := congrArg Int32.toInt ((M12587.2 131 4 (Or.inr (by decide))).trans z12137); have h2_0 := congrArg Int32.toInt z2; omega), (by have h1_0 := congrArg Int32.toInt ((M12587.2 131 4 (Or.inr (by decide))).trans z12137); have h2_0 := congrArg Int32.toInt z2; have h1_1 := congrArg Int32.toInt M12587.1; omega), (MT_nbr (A := f223.toInt.toNat) (i := f12135.toInt.toNat) (sm := v351.toInt) (al := i12129.toInt) (sp := f12141.toInt) (wd := (qof t12131 131 17).toInt) (by rw [((M12587.2 131 14 (Or.inr (by decide))).trans z12146)]; exact x12148) (MB_eq hB (F12590 131 3 (by simp [fz])) (F12590 131 5 (by simp [fz])) (fun j => F12590 132 j (by simp [fz]))) ⟨by omega, by omega, x229, fun _ => by omega⟩ (NLp_u y309 (by omega)) (by omega) he12562 (by omega) (by omega) (by omega) (by have q := congrArg Int32.toInt ((M12587.2 131 12 (Or.inr (by decide))).trans z12140); omega) (by have q := congrArg Int32.toInt ((M12587.2 131 4 (Or.inr (by decide))).trans z12137); omega) (by have q := congrArg Int32.toInt M12587.1; omega))⟩ dX12_skip_336
                              ·
                                exfalso; omega
                            ·
                              have r12591 : R (3) (940) f12141 := ⟨by omega, by omega⟩
                              refine r_iconst S dX12_skip_320 (by decide) (fun v12592 z12593 => ?_)
                              have r12594 := R_eq z12593
                              refine r_goto (tgt := 333) S dX12_skip_321 (by decide) ?_
                              refine r_put (K := 38) (ty := .int) S X12553 (Nat.le_of_ble_eq_true rfl) rfl lk12_157_10 (fun _ => ⟨_, rfl, Nat.le_of_ble_eq_true rfl, rfl⟩) (fun _ _ _ h => by cases h; exact ⟨rfl, rfl⟩) rfl rfl dX12_skip_333 (fun t12595 H lc M12596 X12597 => ?_)
                              have I12598 := Inv_mu I12132 M12596 (show Rg (kd 131) 11 v12592 from (R_of (lo := 0) (hi := 4) r12594 rfl))
                              have F12599 : Fr [(131, 4), (131, 11), (131, 12), (131, 13), (131, 14)] [331] τ t12595 := Fr_mu F12133 M12596 (by decide)
                              exact r_vret S hr hlk X12597 ⟨I12598, F12599, (by rw [((M12596.2 131 4 (Or.inr (by decide))).trans z12137)]; exact R_of r12136 rfl), (by rw [M12596.1]; exact R_of r12594 rfl), (by have h1_0 := congrArg Int32.toInt ((M12596.2 131 4 (Or.inr (by decide))).trans z12137); have h2_0 := congrArg Int32.toInt z2; omega), (by have h1_0 := congrArg Int32.toInt ((M12596.2 131 4 (Or.inr (by decide))).trans z12137); have h2_0 := congrArg Int32.toInt z2; have h1_1 := congrArg Int32.toInt M12596.1; omega), (MT_odd (A := f223.toInt.toNat) (i := f12135.toInt.toNat) (sm := v351.toInt) (al := i12129.toInt) (sp := f12141.toInt) x12148 (MB_eq hB (F12599 131 3 (by simp [fz])) (F12599 131 5 (by simp [fz])) (fun j => F12599 132 j (by simp [fz]))) ⟨by omega, by omega, x229, fun _ => by omega⟩ (NLp_u y309 (by omega)) (by omega) he12562 hs359 (by omega) (by omega) (by have q := congrArg Int32.toInt ((M12596.2 131 12 (Or.inr (by decide))).trans z12140); omega) (by have q := congrArg Int32.toInt M12596.1; omega))⟩ dX12_skip_336
                          ·
                            have r12600 : R (1) (1) v351 := ⟨by omega, by omega⟩
                            have p12601 := q354 (by omega)
                            have r12602 : R (97) (122) v314 := ⟨by omega, by omega⟩
                            have p12603 := q317 (by omega)
                            refine r_bipush S dX12_skip_311 (by decide) (fun v12604 z12605 => ?_)
                            have r12606 := R_eq z12605
                            refine r_goto (tgt := 317) S dX12_skip_313 (by decide) ?_
                            refine r_icmp_le (tgt := 324) S dX12_skip_317 (by decide) (fun c12607 => ?_) (fun c12607 => ?_)
                            ·
                              have r12608 : R (0) (7) f12141 := ⟨by omega, by omega⟩
                              refine r_iload_n S dX12_skip_324 rfl (lv_at hl 1 rfl) ?_
                              refine r_if_eq (tgt := 332) S dX12_skip_325 (by decide) (fun c12609 => ?_) (fun c12609 => ?_)
                              ·
                                exfalso; omega
                              ·
                                refine r_iconst S dX12_skip_328 (by decide) (fun v12610 z12611 => ?_)
                                have r12612 := R_eq z12611
                                refine r_goto (tgt := 333) S dX12_skip_329 (by decide) ?_
                                refine r_put (K := 38) (ty := .int) S X12553 (Nat.le_of_ble_eq_true rfl) rfl lk12_157_10 (fun _ => ⟨_, rfl, Nat.le_of_ble_eq_true rfl, rfl⟩) (fun _ _ _ h => by cases h; exact ⟨rfl, rfl⟩) rfl rfl dX12_skip_333 (fun t12613 H lc M12614 X12615 => ?_)
                                have I12616 := Inv_mu I12132 M12614 (show Rg (kd 131) 11 v12610 from (R_of (lo := 0) (hi := 4) r12612 rfl))
                                have F12617 : Fr [(131, 4), (131, 11), (131, 12), (131, 13), (131, 14)] [331] τ t12613 := Fr_mu F12133 M12614 (by decide)
                                exact r_vret S hr hlk X12615 ⟨I12616, F12617, (by rw [((M12614.2 131 4 (Or.inr (by decide))).trans z12137)]; exact R_of r12136 rfl), (by rw [M12614.1]; exact R_of r12612 rfl), (by have h1_0 := congrArg Int32.toInt ((M12614.2 131 4 (Or.inr (by decide))).trans z12137); have h2_0 := congrArg Int32.toInt z2; omega), (by have h1_0 := congrArg Int32.toInt ((M12614.2 131 4 (Or.inr (by decide))).trans z12137); have h2_0 := congrArg Int32.toInt z2; have h1_1 := congrArg Int32.toInt M12614.1; omega), (MT_word (A := f223.toInt.toNat) (i := f12135.toInt.toNat) (sm := v351.toInt) (al := i12129.toInt) (sp := f12141.toInt) (nu := f12144.toInt) (by rw [(qof_of (k := 131) (fun j => ((M12614.2 331 j (Or.inl (by decide))).trans rfl)) 17)]; exact x12148) (MB_eq hB (F12617 131 3 (by simp [fz])) (F12617 131 5 (by simp [fz])) (fun j => F12617 132 j (by simp [fz]))) ⟨by omega, by omega, x229, fun _ => by omega⟩ (NLp_u y309 (by omega)) (by omega) he12562 (by omega) (by omega) (by omega) (by have q := congrArg Int32.toInt ((M12614.2 131 12 (Or.inr (by decide))).trans z12140); omega) (by have q := congrArg Int32.toInt ((M12614.2 131 4 (Or.inr (by decide))).trans z12137); omega) (by have q := congrArg Int32.toInt M12614.1; omega))⟩ dX12_skip_336
                            ·
                              have r12618 : R (8) (940) f12141 := ⟨by omega, by omega⟩
                              refine r_iconst S dX12_skip_320 (by decide) (fun v12619 z12620 => ?_)
                              have r12621 := R_eq z12620
                              refine r_goto (tgt := 333) S dX12_skip_321 (by decide) ?_
                              refine r_put (K := 38) (ty := .int) S X12553 (Nat.le_of_ble_eq_true rfl) rfl lk12_157_10 (fun _ => ⟨_, rfl, Nat.le_of_ble_eq_true rfl, rfl⟩) (fun _ _ _ h => by cases h; exact ⟨rfl, rfl⟩) rfl rfl dX12_skip_333 (fun t12622 H lc M12623 X12624 => ?_)
                              have I12625 := Inv_mu I12132 M12623 (show Rg (kd 131) 11 v12619 from (R_of (lo := 0) (hi := 4) r12621 rfl))
                              have F12626 : Fr [(131, 4), (131, 11), (131, 12), (131, 13), (131, 14)] [331] τ t12622 := Fr_mu F12133 M12623 (by decide)
                              exact r_vret S hr hlk X12624 ⟨I12625, F12626, (by rw [((M12623.2 131 4 (Or.inr (by decide))).trans z12137)]; exact R_of r12136 rfl), (by rw [M12623.1]; exact R_of r12621 rfl), (by have h1_0 := congrArg Int32.toInt ((M12623.2 131 4 (Or.inr (by decide))).trans z12137); have h2_0 := congrArg Int32.toInt z2; omega), (by have h1_0 := congrArg Int32.toInt ((M12623.2 131 4 (Or.inr (by decide))).trans z12137); have h2_0 := congrArg Int32.toInt z2; have h1_1 := congrArg Int32.toInt M12623.1; omega), (MT_odd (A := f223.toInt.toNat) (i := f12135.toInt.toNat) (sm := v351.toInt) (al := i12129.toInt) (sp := f12141.toInt) x12148 (MB_eq hB (F12626 131 3 (by simp [fz])) (F12626 131 5 (by simp [fz])) (fun j => F12626 132 j (by simp [fz]))) ⟨by omega, by omega, x229, fun _ => by omega⟩ (NLp_u y309 (by omega)) (by omega) he12562 hs359 (by omega) (by omega) (by have q := congrArg Int32.toInt ((M12623.2 131 12 (Or.inr (by decide))).trans z12140); omega) (by have q := congrArg Int32.toInt M12623.1; omega))⟩ dX12_skip_336
                      ·
                        have r12627 : R (1) (1) v12555 := ⟨by omega, by omega⟩
                        have p12628 := q12558 (by omega)
                        have r12629 : R (48) (57) v12546 := ⟨by omega, by omega⟩
                        have p12630 := q12549 (by omega)
                        have r12631 : R (0) (939) f12135 := z12137 ▸ p12630
                        have r12632 : R (0) (939) f12135 := ⟨by omega, by omega⟩
                        exact J12271 _ _ _ X12553 r12632 (by have q := PK_in pk12551 (by omega); have q2 := PK_at pk12551 q.1; omega) (lv_sub hl [0, 1, 2] rfl)
                exact L12147 _ t370 _ _ _ v356 f223 v281 v367 X372 I373 F374 (R_of r358 rfl) ((M371.2 131 4 (Or.inr (by decide))).trans ((M364.1 131 (by decide) 4).trans ((M285.2 131 4 (Or.inr (by decide))).trans ((M277.2 131 4 (Or.inr (by decide))).trans z225)))) ⟨by omega, by omega⟩ ((M371.2 131 3 (Or.inr (by decide))).trans ((M364.1 131 (by decide) 3).trans ((M285.2 131 3 (Or.inr (by decide))).trans ((M277.2 131 3 (Or.inr (by decide))).trans z226)))) ((M371.2 131 5 (Or.inr (by decide))).trans ((M364.1 131 (by decide) 5).trans ((M285.2 131 5 (Or.inr (by decide))).trans ((M277.2 131 5 (Or.inr (by decide))).trans z227)))) ((M371.2 131 12 (Or.inr (by decide))).trans ((M364.1 131 (by decide) 12).trans ((M285.2 131 12 (Or.inr (by decide))).trans M277.1))) ((M371.2 131 13 (Or.inr (by decide))).trans ((M364.1 131 (by decide) 13).trans M285.1)) ⟨by omega, by omega⟩ M371.1 ⟨by omega, by omega⟩ (LM_0q (by omega) (by omega) (by omega) ((qof_of (k := 131) (fun j => ((M371.2 331 j (Or.inl (by decide))).trans rfl)) 17).trans (Ml_upd M364)) z361) (by omega) (lv_sub hl [3, 1, 0] rfl) (Nat.lt_succ_self _)
              ·
                have r12633 : R (0) (0) v336 := ⟨by omega, by omega⟩
                refine r_iload_n S dX12_skip_102 rfl (lv_at hl 0 rfl) ?_
                refine r_ki (q_S (As := [.int v314]) (rest := []) S X334 (c_X12_isDigit_x l G t284 I287 v314 (R_of (lo := -2147483648) (hi := 2147483647) r321 rfl)) ck12_164 ⟨Nat.le_of_ble_eq_true rfl, Nat.le_of_ble_eq_true rfl⟩ rfl hl.1 rfl (Nat.le_of_ble_eq_true rfl) dX12_skip_103 ⟨Nat.le_refl 0, Nat.le_refl 0⟩) X334 (fun v12637 t12636 H lc q12634 X12635 => ?_)
                unfold po_X12_isDigit_x at q12634
                obtain ⟨q12638, q12639, q12640, q12641⟩ := q12634
                rw [q12638] at X12635
                refine r_if_ne (tgt := 164) S dX12_skip_106 (by decide) (fun c12642 => ?_) (fun c12642 => ?_)
                ·
                  have r12643 : R (1) (1) v12637 := ⟨by omega, by omega⟩
                  have p12644 := q12640 (by omega)
                  have r12645 : R (48) (57) v314 := ⟨by omega, by omega⟩
                  have p12646 := q317 (by omega)
                  have r12647 : R (0) (939) f223 := ((M285.2 131 4 (Or.inr (by decide))).trans ((M277.2 131 4 (Or.inr (by decide))).trans z225)) ▸ p12646
                  have r12648 : R (0) (939) f223 := ⟨by omega, by omega⟩
                  refine r_iload_n S dX12_skip_164 rfl (lv_at hl 0 rfl) ?_
                  refine r_ki (q_S (As := [.int v314]) (rest := []) S X12635 (c_X12_isSmall_x l G t284 I287 v314 (R_of (lo := -2147483648) (hi := 2147483647) r12645 rfl)) ck12_160 ⟨Nat.le_of_ble_eq_true rfl, Nat.le_of_ble_eq_true rfl⟩ rfl hl.1 rfl (Nat.le_of_ble_eq_true rfl) dX12_skip_165 ⟨Nat.le_refl 0, Nat.le_refl 0⟩) X12635 (fun v12652 t12651 H lc q12649 X12650 => ?_)
                  unfold po_X12_isSmall_x at q12649
                  obtain ⟨q12653, q12654, q12655, q12656⟩ := q12649
                  rw [q12653] at X12650
                  refine r_istore_n (lv' := [(2, .int v12652), (1, .int v314), (0, .ref (G.2.2.2.1 131))]) S dX12_skip_168 rfl hl (by decide) rfl (fun ls hl => ?_)
                  refine r_iconst S dX12_skip_169 (by decide) (fun v12657 z12658 => ?_)
                  have r12659 := R_eq z12658
                  refine r_istore_n (lv' := [(3, .int v12657), (2, .int v12652), (1, .int v314), (0, .ref (G.2.2.2.1 131))]) S dX12_skip_170 rfl hl (by decide) rfl (fun ls hl => ?_)
                  have hs12660 : (v12652.toInt = 1 ∧ low (bb f223.toInt.toNat)) ∨ (v12652.toInt = 0 ∧ dig (bb f223.toInt.toNat)) := by omega
                  refine r_aload_n S dX12_skip_171 rfl (lv_at hl 3 rfl) ?_
                  refine lv_lconst S.1.1 S.1.2.1 dX12_skip_172 rfl ?_
                  refine lv_topl (fun j12661 z12662 => ?_)
                  refine r_putJ (K := 38) S X12650 (Nat.le_of_ble_eq_true rfl) rfl lk12_170_10 (fun _ => ⟨_, rfl, Nat.le_of_ble_eq_true rfl, rfl⟩) (fun _ _ _ h => by cases h; exact ⟨rfl, rfl⟩) dX12_skip_173 (fun t12664 H lc M12665 X12663 => ?_)
                  have I12666 := Inv_ml I287 M12665
                  have F12667 : Fr [(131, 4), (131, 11), (131, 12), (131, 13), (131, 14)] [331] τ t12664 := Fr_ml F288 M12665 (by decide)
                  refine r_aload_n S dX12_skip_176 rfl (lv_at hl 3 rfl) ?_
                  refine r_iconst S dX12_skip_177 (by decide) (fun v12668 z12669 => ?_)
                  have r12670 := R_eq z12669
                  refine r_put (K := 38) (ty := .int) S X12663 (Nat.le_of_ble_eq_true rfl) rfl lk12_167_10 (fun _ => ⟨_, rfl, Nat.le_of_ble_eq_true rfl, rfl⟩) (fun _ _ _ h => by cases h; exact ⟨rfl, rfl⟩) rfl rfl dX12_skip_178 (fun t12671 H lc M12672 X12673 => ?_)
                  have I12674 := Inv_mu I12666 M12672 (R_any v12668)
                  have F12675 : Fr [(131, 4), (131, 11), (131, 12), (131, 13), (131, 14)] [331] τ t12671 := Fr_mu F12667 M12672 (by decide)
                  have L24448 : ∀ (n : Nat) (t24432 : Tau) (H : Heap) (lc : List Loc) (ls : Array Slot) (i24430 : Int32) (f24436 : Int32) (f24442 : Int32) (f24445 : Int32), Xd G s H lc t24432 → Inv t24432 → Fr [(131, 4), (131, 11), (131, 12), (131, 13), (131, 14)] [331] τ t24432 → R (0) (1) i24430 → t24432 131 4 = f24436 → R (0) (940) f24436 → t24432 131 3 = v4 → t24432 131 5 = v7 → t24432 131 12 = f223 → t24432 131 13 = f24442 → R (0) (940) f24442 → t24432 131 14 = f24445 → R (-2147483648) (2147483647) f24445 → LM bb (f223).toInt.toNat (f24436).toInt.toNat (v12652).toInt (i24430).toInt (f24442).toInt (qof t24432 131 17).toInt (f24445).toInt → (f24436).toInt ≤ nb → lv_has ls 4 [(0, .ref (G.2.2.2.1 131)), (2, .int v12652), (3, .int i24430)] → (940 - f24436.toInt).toNat < n → W p l e (Rm 1 20) s m ([.ref (G.2.2.2.1 131)] : List Value).toArray below meth c H lc 0 0 (MQ below (va_Qv (po_X12_skip_q τ    bb nb lm pp) (Bs G) G.2.2.2.2) ([.ref (G.2.2.2.1 131)] : List Value).toArray s 0 0 G.2.2.2.2) (F0 m 181 ls []) := by
                    intro n
                    induction n with
                    | zero => intros; omega
                    | succ n ih24451 =>
                      intro t24432 H lc ls i24430 f24436 f24442 f24445 X24435 I24433 F24434 r24431 z24438 r24437 z24439 z24440 z24441 z24444 r24443 z24447 r24446 x24449 x24450 hl hm
                      obtain ⟨e24452, e24453⟩ := LM_b x24449
                      refine r_aload_n S dX12_skip_181 rfl (lv_at hl 0 rfl) ?_
                      refine r_ki (q_V (As := []) (rest := []) (K := 38) (ci := 10) S X24435 (c_X12_peek_x l G t24432 I24433 ) ck12_147 (Nat.le_of_ble_eq_true rfl) rfl (fun _ => ⟨_, rfl⟩) ⟨_, _, rfl⟩ ⟨Nat.le_of_ble_eq_true rfl, Nat.le_of_ble_eq_true rfl⟩ rfl hl.1 rfl (Nat.le_of_ble_eq_true rfl) dX12_skip_182 ⟨Nat.le_refl 0, Nat.le_refl 0⟩) X24435 (fun v24457 t24456 H lc q24454 X24455 => ?_)
                      unfold po_X12_peek_x at q24454
                      obtain ⟨q24458, q24459, q24460, q24461⟩ := q24454
                      rw [q24458] at X24455
                      rw [q24458] at q24460
                      rw [q24458] at q24461
                      have pk24462 : PKf bb nb f24436 v24457 := pk_b hB I24433 (F24434 131 3 (by simp [fz])) (fun j => F24434 132 j (by simp [fz])) z24438 (by omega) q24461
                      refine r_ki (q_S (As := [.int v24457]) (rest := []) S X24455 (c_X12_isSmall_x l G t24432 I24433 v24457 (R_of (lo := -2147483648) (hi := 2147483647) q24459 rfl)) ck12_160 ⟨Nat.le_of_ble_eq_true rfl, Nat.le_of_ble_eq_true rfl⟩ rfl hl.1 rfl (Nat.le_of_ble_eq_true rfl) dX12_skip_185 ⟨Nat.le_refl 0, Nat.le_refl 0⟩) X24455 (fun v24466 t24465 H lc q24463 X24464 => ?_)
                      unfold po_X12_isSmall_x at q24463
                      obtain ⟨q24467, q24468, q24469, q24470⟩ := q24463
                      rw [q24467] at X24464
                      have J24547 : ∀ (H : Heap) (lc : List Loc) (ls : Array Slot), Xd G s H lc t24432 → R (0) (939) f24436 → f24436.toInt < nb ∧ (aln (bb f24436.toInt.toNat) ∧ 0 ≤ bb f24436.toInt.toNat ∧ bb f24436.toInt.toNat ≤ 255) → lv_has ls 4 [(0, .ref (G.2.2.2.1 131)), (2, .int v12652), (3, .int i24430)] → W p l e (Rm 1 20) s m ([.ref (G.2.2.2.1 131)] : List Value).toArray below meth c H lc 0 0 (MQ below (va_Qv (po_X12_skip_q τ    bb nb lm pp) (Bs G) G.2.2.2.2) ([.ref (G.2.2.2.1 131)] : List Value).toArray s 0 0 G.2.2.2.2) (F0 m 201 ls []) := by
                        intro H lc ls X24544 r24545 y24546 hl
                        refine r_iload_n S dX12_skip_201 rfl (lv_at hl 2 rfl) ?_
                        have J24585 : ∀ (H : Heap) (lc : List Loc) (ls : Array Slot) (i24582 : Int32), Xd G s H lc t24432 → R (0) (1) i24582 → HAp (i24582).toInt i24430.toInt v12652.toInt (bb f24436.toInt.toNat) → lv_has ls 4 [(0, .ref (G.2.2.2.1 131)), (2, .int v12652)] → W p l e (Rm 1 20) s m ([.ref (G.2.2.2.1 131)] : List Value).toArray below meth c H lc 0 0 (MQ below (va_Qv (po_X12_skip_q τ    bb nb lm pp) (Bs G) G.2.2.2.2) ([.ref (G.2.2.2.1 131)] : List Value).toArray s 0 0 G.2.2.2.2) (F0 m 221 ls [.int i24582]) := by
                          intro H lc ls i24582 X24581 r24583 y24584 hl
                          refine r_istore_n (lv' := [(3, .int i24582), (0, .ref (G.2.2.2.1 131)), (2, .int v12652)]) S dX12_skip_221 rfl hl (by decide) rfl (fun ls hl => ?_)
                          refine r_aload_n S dX12_skip_222 rfl (lv_at hl 1 rfl) ?_
                          refine r_geti (K := 38) S X24581 (Nat.le_of_ble_eq_true rfl) rfl lk12_154_10 (fun _ => ⟨_, rfl, rfl⟩) z24444 dX12_skip_223 ?_
                          refine r_bipush S dX12_skip_226 (by decide) (fun v24586 z24587 => ?_)
                          have r24588 := R_eq z24587
                          have J24632 : ∀ (t24620 : Tau) (H : Heap) (lc : List Loc) (ls : Array Slot), Xd G s H lc t24620 → Inv t24620 → Fr [(131, 4), (131, 11), (131, 12), (131, 13), (131, 14)] [331] τ t24620 → t24620 131 4 = f24436 → t24620 131 3 = v4 → t24620 131 5 = v7 → t24620 131 12 = f223 → R (0) (940) f24442 → t24620 131 13 = f24442 → t24620 131 14 = f24445 → HWp i24430.toInt v12652.toInt f24442.toInt (qof t24432 131 17).toInt (qof t24620 131 17).toInt (bb f24436.toInt.toNat) → lv_has ls 4 [(0, .ref (G.2.2.2.1 131)), (2, .int v12652), (3, .int i24582)] → W p l e (Rm 1 20) s m ([.ref (G.2.2.2.1 131)] : List Value).toArray below meth c H lc 0 0 (MQ below (va_Qv (po_X12_skip_q τ    bb nb lm pp) (Bs G) G.2.2.2.2) ([.ref (G.2.2.2.1 131)] : List Value).toArray s 0 0 G.2.2.2.2) (F0 m 248 ls []) := by
                            intro t24620 H lc ls X24623 I24621 F24622 z24624 z24625 z24626 z24627 r24628 z24629 z24630 y24631 hl
                            refine r_aload_n S dX12_skip_248 rfl (lv_at hl 0 rfl) ?_
                            refine r_geti (K := 38) S X24623 (Nat.le_of_ble_eq_true rfl) rfl lk12_154_10 (fun _ => ⟨_, rfl, rfl⟩) z24629 dX12_skip_249 ?_
                            refine r_iconst S dX12_skip_252 (by decide) (fun v24633 z24634 => ?_)
                            have r24635 := R_eq z24634
                            have J24686 : ∀ (t24671 : Tau) (H : Heap) (lc : List Loc) (ls : Array Slot) (i24681 : Int32), Xd G s H lc t24671 → Inv t24671 → Fr [(131, 4), (131, 11), (131, 12), (131, 13), (131, 14)] [331] τ t24671 → t24671 131 4 = f24436 → t24671 131 3 = v4 → t24671 131 5 = v7 → t24671 131 12 = f223 → R (0) (940) f24442 → t24671 131 13 = f24442 → R (-2147483648) (2147483647) i24681 → t24671 131 14 = i24681 → HWp i24430.toInt v12652.toInt f24442.toInt (qof t24432 131 17).toInt (qof t24671 131 17).toInt (bb f24436.toInt.toNat) → HNp i24430.toInt v12652.toInt f24442.toInt f24445.toInt (i24681).toInt (bb f24436.toInt.toNat) → lv_has ls 4 [(0, .ref (G.2.2.2.1 131)), (2, .int v12652), (3, .int i24582)] → W p l e (Rm 1 20) s m ([.ref (G.2.2.2.1 131)] : List Value).toArray below meth c H lc 0 0 (MQ below (va_Qv (po_X12_skip_q τ    bb nb lm pp) (Bs G) G.2.2.2.2) ([.ref (G.2.2.2.1 131)] : List Value).toArray s 0 0 G.2.2.2.2) (F0 m 275 ls []) := by
                              intro t24671 H lc ls i24681 X24674 I24672 F24673 z24675 z24676 z24677 z24678 r24679 z24680 r24682 z24683 y24684 y24685 hl
                              refine r_aload_n S dX12_skip_275 rfl (lv_at hl 0 rfl) ?_
                              refine r_dup S dX12_skip_276 rfl ?_
                              refine r_geti (K := 38) S X24674 (Nat.le_of_ble_eq_true rfl) rfl lk12_154_10 (fun _ => ⟨_, rfl, rfl⟩) z24680 dX12_skip_277 ?_
                              refine r_iconst S dX12_skip_280 (by decide) (fun v24687 z24688 => ?_)
                              have r24689 := R_eq z24688
                              refine r_iadd S dX12_skip_281 (fun v24690 z24691 => ?_)
                              obtain ⟨e24692, r24693⟩ := i_add (lo := 1) (hi := 941) z24691 r24679 r24689 rfl
                              refine r_put (K := 38) (ty := .int) S X24674 (Nat.le_of_ble_eq_true rfl) rfl lk12_154_10 (fun _ => ⟨_, rfl, Nat.le_of_ble_eq_true rfl, rfl⟩) (fun _ _ _ h => by cases h; exact ⟨rfl, rfl⟩) rfl rfl dX12_skip_282 (fun t24694 H lc M24695 X24696 => ?_)
                              have I24697 := Inv_mu I24672 M24695 (show Rg (kd 131) 13 v24690 from (show R (0) (940) v24690 from ⟨by omega, by omega⟩))
                              have F24698 : Fr [(131, 4), (131, 11), (131, 12), (131, 13), (131, 14)] [331] τ t24694 := Fr_mu F24673 M24695 (by decide)
                              have r24699 : R (1) (940) v24690 := ⟨by omega, by omega⟩
                              refine r_aload_n S dX12_skip_285 rfl (lv_at hl 0 rfl) ?_
                              refine r_dup S dX12_skip_286 rfl ?_
                              refine r_geti (K := 38) S X24696 (Nat.le_of_ble_eq_true rfl) rfl lk12_21_10 (fun _ => ⟨_, rfl, rfl⟩) ((M24695.2 131 4 (Or.inr (by decide))).trans z24675) dX12_skip_287 ?_
                              refine r_iconst S dX12_skip_290 (by decide) (fun v24700 z24701 => ?_)
                              have r24702 := R_eq z24701
                              refine r_iadd S dX12_skip_291 (fun v24703 z24704 => ?_)
                              obtain ⟨e24705, r24706⟩ := i_add (lo := 1) (hi := 940) z24704 r24545 r24702 rfl
                              refine r_put (K := 38) (ty := .int) S X24696 (Nat.le_of_ble_eq_true rfl) rfl lk12_21_10 (fun _ => ⟨_, rfl, Nat.le_of_ble_eq_true rfl, rfl⟩) (fun _ _ _ h => by cases h; exact ⟨rfl, rfl⟩) rfl rfl dX12_skip_292 (fun t24707 H lc M24708 X24709 => ?_)
                              have I24710 := Inv_mu I24697 M24708 (show Rg (kd 131) 4 v24703 from (R_of (lo := 0) (hi := 940) r24706 rfl))
                              have F24711 : Fr [(131, 4), (131, 11), (131, 12), (131, 13), (131, 14)] [331] τ t24707 := Fr_mu F24698 M24708 (by decide)
                              refine r_goto (tgt := 181) S dX12_skip_295 (by decide) ?_
                              exact ih24451 t24707 _ _ _ i24582 v24703 v24690 i24681 X24709 I24710 F24711 r24583 M24708.1 ⟨by omega, by omega⟩ ((M24708.2 131 3 (Or.inr (by decide))).trans ((M24695.2 131 3 (Or.inr (by decide))).trans z24676)) ((M24708.2 131 5 (Or.inr (by decide))).trans ((M24695.2 131 5 (Or.inr (by decide))).trans z24677)) ((M24708.2 131 12 (Or.inr (by decide))).trans ((M24695.2 131 12 (Or.inr (by decide))).trans z24678)) ((M24708.2 131 13 (Or.inr (by decide))).trans M24695.1) ⟨by omega, by omega⟩ ((M24708.2 131 14 (Or.inr (by decide))).trans ((M24695.2 131 14 (Or.inr (by decide))).trans z24683)) ⟨by omega, by omega⟩ (by rw [show qof t24707 131 17 = qof t24671 131 17 from (qof_of (k := 131) (fun j => ((M24708.2 331 j (Or.inl (by decide))).trans ((M24695.2 331 j (Or.inl (by decide))).trans rfl))) 17 : qof t24707 131 17 = qof t24671 131 17)]; exact LM_upq (i := f24436) (sp := f24442) (al := i24430) x24449 hs12660 (by omega) y24584 y24684 y24685 (by omega) (by omega) (by omega)) (by omega) (lv_sub hl [0, 1, 2] rfl) (by omega)
                            refine r_icmp_ge (tgt := 275) S dX12_skip_253 (by decide) (fun c24712 => ?_) (fun c24712 => ?_)
                            ·
                              have r24713 : R (2) (940) f24442 := ⟨by omega, by omega⟩
                              exact J24686 t24620 _ _ _ f24445 X24623 I24621 F24622 z24624 z24625 z24626 z24627 (R_of r24713 rfl) z24629 r24446 z24630 y24631 (fun _ _ h => by exfalso; omega) (lv_sub hl [0, 1, 2] rfl)
                            ·
                              have r24714 : R (0) (1) f24442 := ⟨by omega, by omega⟩
                              refine r_aload_n S dX12_skip_256 rfl (lv_at hl 0 rfl) ?_
                              refine r_bipush S dX12_skip_257 (by decide) (fun v24715 z24716 => ?_)
                              have r24717 := R_eq z24716
                              refine r_aload_n S dX12_skip_259 rfl (lv_at hl 0 rfl) ?_
                              refine r_geti (K := 38) S X24623 (Nat.le_of_ble_eq_true rfl) rfl lk12_167_10 (fun _ => ⟨_, rfl, rfl⟩) z24630 dX12_skip_260 ?_
                              refine r_imul S dX12_skip_263 (fun v24718 z24719 => ?_)
                              have r24720 := R_any v24718
                              refine r_aload_n S dX12_skip_264 rfl (lv_at hl 0 rfl) ?_
                              refine r_ki (q_V (As := []) (rest := [.int v24718, .ref (G.2.2.2.1 131)]) (K := 38) (ci := 10) S X24623 (c_X12_peek_x l G t24620 I24621 ) ck12_147 (Nat.le_of_ble_eq_true rfl) rfl (fun _ => ⟨_, rfl⟩) ⟨_, _, rfl⟩ ⟨Nat.le_of_ble_eq_true rfl, Nat.le_of_ble_eq_true rfl⟩ rfl hl.1 rfl (Nat.le_of_ble_eq_true rfl) dX12_skip_265 ⟨Nat.le_refl 0, Nat.le_refl 0⟩) X24623 (fun v24724 t24723 H lc q24721 X24722 => ?_)
                              unfold po_X12_peek_x at q24721
                              obtain ⟨q24725, q24726, q24727, q24728⟩ := q24721
                              rw [q24725] at X24722
                              rw [q24725] at q24727
                              rw [q24725] at q24728
                              have pk24729 : PKf bb nb f24436 v24724 := pk_b hB I24621 (F24622 131 3 (by simp [fz])) (fun j => F24622 132 j (by simp [fz])) z24624 (by omega) q24728
                              obtain ⟨e24730, e24731, e24732⟩ := PK_at pk24729 (by omega)
                              refine r_iadd S dX12_skip_268 (fun v24733 z24734 => ?_)
                              have r24735 := R_any v24733
                              refine r_bipush S dX12_skip_269 (by decide) (fun v24736 z24737 => ?_)
                              have r24738 := R_eq z24737
                              refine r_isub S dX12_skip_271 (fun v24739 z24740 => ?_)
                              have r24741 := R_any v24739
                              refine r_put (K := 38) (ty := .int) S X24722 (Nat.le_of_ble_eq_true rfl) rfl lk12_167_10 (fun _ => ⟨_, rfl, Nat.le_of_ble_eq_true rfl, rfl⟩) (fun _ _ _ h => by cases h; exact ⟨rfl, rfl⟩) rfl rfl dX12_skip_272 (fun t24742 H lc M24743 X24744 => ?_)
                              have I24745 := Inv_mu I24621 M24743 (R_any v24739)
                              have F24746 : Fr [(131, 4), (131, 11), (131, 12), (131, 13), (131, 14)] [331] τ t24742 := Fr_mu F24622 M24743 (by decide)
                              exact J24686 t24742 _ _ _ v24739 X24744 I24745 F24746 ((M24743.2 131 4 (Or.inr (by decide))).trans z24624) ((M24743.2 131 3 (Or.inr (by decide))).trans z24625) ((M24743.2 131 5 (Or.inr (by decide))).trans z24626) ((M24743.2 131 12 (Or.inr (by decide))).trans z24627) (R_of r24714 rfl) ((M24743.2 131 13 (Or.inr (by decide))).trans z24629) r24741 M24743.1 (by rw [show qof t24742 131 17 = qof t24620 131 17 from (qof_of (k := 131) (fun j => ((M24743.2 331 j (Or.inl (by decide))).trans rfl)) 17 : qof t24742 131 17 = qof t24620 131 17)]; exact y24631) (LM_hn (c := v24715) (x := v24724) (d := v24736) x24449 (by omega) z24719 z24734 (by omega) z24740 (by omega) (by omega)) (lv_sub hl [0, 1, 2] rfl)
                          refine r_icmp_ge (tgt := 248) S dX12_skip_228 (by decide) (fun c24747 => ?_) (fun c24747 => ?_)
                          ·
                            have r24748 : R (7) (940) f24442 := ⟨by omega, by omega⟩
                            exact J24632 t24432 _ _ _ X24581 I24433 F24434 z24438 z24439 z24440 z24441 (R_of r24748 rfl) z24444 z24447 (fun _ _ h => by exfalso; omega) (lv_sub hl [1, 2, 0] rfl)
                          ·
                            have r24749 : R (0) (6) f24442 := ⟨by omega, by omega⟩
                            refine r_aload_n S dX12_skip_231 rfl (lv_at hl 1 rfl) ?_
                            refine r_aload_n S dX12_skip_232 rfl (lv_at hl 1 rfl) ?_
                            refine r_getJ (K := 38) S X24581 (Nat.le_of_ble_eq_true rfl) rfl lk12_170_10 (fun _ => ⟨_, rfl, rfl⟩) dX12_skip_233 (fun j24750 z24751 => ?_)
                            refine r_bipush S dX12_skip_236 (by decide) (fun v24752 z24753 => ?_)
                            have r24754 := R_eq z24753
                            refine lv_lshl S.1.1 S.1.2.1 dX12_skip_238 rfl ?_
                            refine lv_topl (fun j24755 z24756 => ?_)
                            refine r_aload_n S dX12_skip_239 rfl (lv_at hl 1 rfl) ?_
                            refine r_ki (q_V (As := []) (rest := [.long j24755, .ref (G.2.2.2.1 131)]) (K := 38) (ci := 10) S X24581 (c_X12_peek_x l G t24432 I24433 ) ck12_147 (Nat.le_of_ble_eq_true rfl) rfl (fun _ => ⟨_, rfl⟩) ⟨_, _, rfl⟩ ⟨Nat.le_of_ble_eq_true rfl, Nat.le_of_ble_eq_true rfl⟩ rfl hl.1 rfl (Nat.le_of_ble_eq_true rfl) dX12_skip_240 ⟨Nat.le_refl 0, Nat.le_refl 0⟩) X24581 (fun v24760 t24759 H lc q24757 X24758 => ?_)
                            unfold po_X12_peek_x at q24757
                            obtain ⟨q24761, q24762, q24763, q24764⟩ := q24757
                            rw [q24761] at X24758
                            rw [q24761] at q24763
                            rw [q24761] at q24764
                            have pk24765 : PKf bb nb f24436 v24760 := pk_b hB I24433 (F24434 131 3 (by simp [fz])) (fun j => F24434 132 j (by simp [fz])) z24438 (by omega) q24764
                            obtain ⟨e24766, e24767, e24768⟩ := PK_at pk24765 (by omega)
                            refine lv_i2l S.1.1 S.1.2.1 dX12_skip_243 rfl ?_
                            refine lv_topl (fun j24769 z24770 => ?_)
                            refine lv_lor S.1.1 S.1.2.1 dX12_skip_244 ?_
                            refine lv_topl (fun j24771 z24772 => ?_)
                            refine r_putJ (K := 38) S X24758 (Nat.le_of_ble_eq_true rfl) rfl lk12_170_10 (fun _ => ⟨_, rfl, Nat.le_of_ble_eq_true rfl, rfl⟩) (fun _ _ _ h => by cases h; exact ⟨rfl, rfl⟩) dX12_skip_245 (fun t24774 H lc M24775 X24773 => ?_)
                            have I24776 := Inv_ml I24433 M24775
                            have F24777 : Fr [(131, 4), (131, 11), (131, 12), (131, 13), (131, 14)] [331] τ t24774 := Fr_ml F24434 M24775 (by decide)
                            exact J24632 t24774 _ _ _ X24773 I24776 F24777 ((M24775.1 131 (by decide) 4).trans z24438) ((M24775.1 131 (by decide) 3).trans z24439) ((M24775.1 131 (by decide) 5).trans z24440) ((M24775.1 131 (by decide) 12).trans z24441) (R_of r24749 rfl) ((M24775.1 131 (by decide) 13).trans z24444) ((M24775.1 131 (by decide) 14).trans z24447) (LM_hw (x := v24760) (y := v24752) x24449 ((qof_of (k := 131) (fun j => rfl) 17 : qof t24432 131 17 = qof t24432 131 17).symm.trans z24751) (by omega) (by rw [z24772, z24756, z24770]) ((qof_of (k := 131) (fun j => rfl) 17).trans (Ml_upd M24775)) (by omega) (by omega)) (lv_sub hl [1, 2, 0] rfl)
                        refine r_if_eq (tgt := 220) S dX12_skip_202 (by decide) (fun c24778 => ?_) (fun c24778 => ?_)
                        ·
                          have r24779 : R (0) (0) i24430 := ⟨by omega, by omega⟩
                          refine r_iconst S dX12_skip_220 (by decide) (fun v24780 z24781 => ?_)
                          have r24782 := R_eq z24781
                          exact J24585 _ _ _ v24780 X24544 (R_of r24782 rfl) (show HAp v24780.toInt i24430.toInt v12652.toInt (bb f24436.toInt.toNat) from by unfold HAp; omega) (lv_sub hl [0, 1] rfl)
                        ·
                          have r24783 : R (1) (1) i24430 := ⟨by omega, by omega⟩
                          refine r_aload_n S dX12_skip_205 rfl (lv_at hl 0 rfl) ?_
                          refine r_ki (q_V (As := []) (rest := []) (K := 38) (ci := 10) S X24544 (c_X12_peek_x l G t24432 I24433 ) ck12_147 (Nat.le_of_ble_eq_true rfl) rfl (fun _ => ⟨_, rfl⟩) ⟨_, _, rfl⟩ ⟨Nat.le_of_ble_eq_true rfl, Nat.le_of_ble_eq_true rfl⟩ rfl hl.1 rfl (Nat.le_of_ble_eq_true rfl) dX12_skip_206 ⟨Nat.le_refl 0, Nat.le_refl 0⟩) X24544 (fun v24787 t24786 H lc q24784 X24785 => ?_)
                          unfold po_X12_peek_x at q24784
                          obtain ⟨q24788, q24789, q24790, q24791⟩ := q24784
                          rw [q24788] at X24785
                          rw [q24788] at q24790
                          rw [q24788] at q24791
                          have pk24792 : PKf bb nb f24436 v24787 := pk_b hB I24433 (F24434 131 3 (by simp [fz])) (fun j => F24434 132 j (by simp [fz])) z24438 (by omega) q24791
                          obtain ⟨e24793, e24794, e24795⟩ := PK_at pk24792 (by omega)
                          refine r_ki (q_S (As := [.int v24787]) (rest := []) S X24785 (c_X12_isSmall_x l G t24432 I24433 v24787 (R_of (lo := -2147483648) (hi := 2147483647) q24789 rfl)) ck12_160 ⟨Nat.le_of_ble_eq_true rfl, Nat.le_of_ble_eq_true rfl⟩ rfl hl.1 rfl (Nat.le_of_ble_eq_true rfl) dX12_skip_209 ⟨Nat.le_refl 0, Nat.le_refl 0⟩) X24785 (fun v24799 t24798 H lc q24796 X24797 => ?_)
                          unfold po_X12_isSmall_x at q24796
                          obtain ⟨q24800, q24801, q24802, q24803⟩ := q24796
                          rw [q24800] at X24797
                          refine r_iload_n S dX12_skip_212 rfl (lv_at hl 1 rfl) ?_
                          refine r_icmp_ne (tgt := 220) S dX12_skip_213 (by decide) (fun c24804 => ?_) (fun c24804 => ?_)
                          ·
                            refine r_iconst S dX12_skip_220 (by decide) (fun v24805 z24806 => ?_)
                            have r24807 := R_eq z24806
                            exact J24585 _ _ _ v24805 X24797 (R_of r24807 rfl) (show HAp v24805.toInt i24430.toInt v12652.toInt (bb f24436.toInt.toNat) from by unfold HAp; omega) (lv_sub hl [0, 1] rfl)
                          ·
                            refine r_iconst S dX12_skip_216 (by decide) (fun v24808 z24809 => ?_)
                            have r24810 := R_eq z24809
                            refine r_goto (tgt := 221) S dX12_skip_217 (by decide) ?_
                            exact J24585 _ _ _ v24808 X24797 (R_of r24810 rfl) (show HAp v24808.toInt i24430.toInt v12652.toInt (bb f24436.toInt.toNat) from by unfold HAp; omega) (lv_sub hl [0, 1] rfl)
                      refine r_if_ne (tgt := 201) S dX12_skip_188 (by decide) (fun c24811 => ?_) (fun c24811 => ?_)
                      ·
                        have r24812 : R (1) (1) v24466 := ⟨by omega, by omega⟩
                        have p24813 := q24469 (by omega)
                        have r24814 : R (97) (122) v24457 := ⟨by omega, by omega⟩
                        have p24815 := q24460 (by omega)
                        have r24816 : R (0) (939) f24436 := z24438 ▸ p24815
                        have r24817 : R (0) (939) f24436 := ⟨by omega, by omega⟩
                        exact J24547 _ _ _ X24464 r24817 (by have q := PK_in pk24462 (by omega); have q2 := PK_at pk24462 q.1; omega) (lv_sub hl [0, 1, 2] rfl)
                      ·
                        have r24818 : R (0) (0) v24466 := ⟨by omega, by omega⟩
                        refine r_aload_n S dX12_skip_191 rfl (lv_at hl 0 rfl) ?_
                        refine r_ki (q_V (As := []) (rest := []) (K := 38) (ci := 10) S X24464 (c_X12_peek_x l G t24432 I24433 ) ck12_147 (Nat.le_of_ble_eq_true rfl) rfl (fun _ => ⟨_, rfl⟩) ⟨_, _, rfl⟩ ⟨Nat.le_of_ble_eq_true rfl, Nat.le_of_ble_eq_true rfl⟩ rfl hl.1 rfl (Nat.le_of_ble_eq_true rfl) dX12_skip_192 ⟨Nat.le_refl 0, Nat.le_refl 0⟩) X24464 (fun v24822 t24821 H lc q24819 X24820 => ?_)
                        unfold po_X12_peek_x at q24819
                        obtain ⟨q24823, q24824, q24825, q24826⟩ := q24819
                        rw [q24823] at X24820
                        rw [q24823] at q24825
                        rw [q24823] at q24826
                        have pk24827 : PKf bb nb f24436 v24822 := pk_b hB I24433 (F24434 131 3 (by simp [fz])) (fun j => F24434 132 j (by simp [fz])) z24438 (by omega) q24826
                        refine r_ki (q_S (As := [.int v24822]) (rest := []) S X24820 (c_X12_isDigit_x l G t24432 I24433 v24822 (R_of (lo := -2147483648) (hi := 2147483647) q24824 rfl)) ck12_164 ⟨Nat.le_of_ble_eq_true rfl, Nat.le_of_ble_eq_true rfl⟩ rfl hl.1 rfl (Nat.le_of_ble_eq_true rfl) dX12_skip_195 ⟨Nat.le_refl 0, Nat.le_refl 0⟩) X24820 (fun v24831 t24830 H lc q24828 X24829 => ?_)
                        unfold po_X12_isDigit_x at q24828
                        obtain ⟨q24832, q24833, q24834, q24835⟩ := q24828
                        rw [q24832] at X24829
                        refine r_if_eq (tgt := 298) S dX12_skip_198 (by decide) (fun c24836 => ?_) (fun c24836 => ?_)
                        ·
                          have r24837 : R (0) (0) v24831 := ⟨by omega, by omega⟩
                          have he24838 : f24436.toInt.toNat < nb → ¬ aln (bb f24436.toInt.toNat) := fun h => by have q0 := PK_at pk24462 (by omega); have q1 := PK_at pk24827 (by omega); omega
                          have e24839 : 0 < f24442.toInt := LM_pos x24449 hs12660 he24838 (by omega)
                          refine r_aload_n S dX12_skip_298 rfl (lv_at hl 0 rfl) ?_
                          refine r_iload_n S dX12_skip_299 rfl (lv_at hl 2 rfl) ?_
                          refine r_if_eq (tgt := 320) S dX12_skip_300 (by decide) (fun c24840 => ?_) (fun c24840 => ?_)
                          ·
                            have r24841 : R (0) (0) i24430 := ⟨by omega, by omega⟩
                            refine r_iconst S dX12_skip_320 (by decide) (fun v24842 z24843 => ?_)
                            have r24844 := R_eq z24843
                            refine r_goto (tgt := 333) S dX12_skip_321 (by decide) ?_
                            refine r_put (K := 38) (ty := .int) S X24829 (Nat.le_of_ble_eq_true rfl) rfl lk12_157_10 (fun _ => ⟨_, rfl, Nat.le_of_ble_eq_true rfl, rfl⟩) (fun _ _ _ h => by cases h; exact ⟨rfl, rfl⟩) rfl rfl dX12_skip_333 (fun t24845 H lc M24846 X24847 => ?_)
                            have I24848 := Inv_mu I24433 M24846 (show Rg (kd 131) 11 v24842 from (R_of (lo := 0) (hi := 4) r24844 rfl))
                            have F24849 : Fr [(131, 4), (131, 11), (131, 12), (131, 13), (131, 14)] [331] τ t24845 := Fr_mu F24434 M24846 (by decide)
                            exact r_vret S hr hlk X24847 ⟨I24848, F24849, (by rw [((M24846.2 131 4 (Or.inr (by decide))).trans z24438)]; exact R_of r24437 rfl), (by rw [M24846.1]; exact R_of r24844 rfl), (by have h1_0 := congrArg Int32.toInt ((M24846.2 131 4 (Or.inr (by decide))).trans z24438); have h2_0 := congrArg Int32.toInt z2; omega), (by have h1_0 := congrArg Int32.toInt ((M24846.2 131 4 (Or.inr (by decide))).trans z24438); have h2_0 := congrArg Int32.toInt z2; have h1_1 := congrArg Int32.toInt M24846.1; omega), (MT_odd (A := f223.toInt.toNat) (i := f24436.toInt.toNat) (sm := v12652.toInt) (al := i24430.toInt) (sp := f24442.toInt) x24449 (MB_eq hB (F24849 131 3 (by simp [fz])) (F24849 131 5 (by simp [fz])) (fun j => F24849 132 j (by simp [fz]))) ⟨by omega, by omega, x229, fun _ => by omega⟩ (NLp_u y309 (by omega)) (by omega) he24838 hs12660 (by omega) (by omega) (by have q := congrArg Int32.toInt ((M24846.2 131 12 (Or.inr (by decide))).trans z24441); omega) (by have q := congrArg Int32.toInt M24846.1; omega))⟩ dX12_skip_336
                          ·
                            have r24850 : R (1) (1) i24430 := ⟨by omega, by omega⟩
                            refine r_aload_n S dX12_skip_303 rfl (lv_at hl 0 rfl) ?_
                            refine r_geti (K := 38) S X24829 (Nat.le_of_ble_eq_true rfl) rfl lk12_154_10 (fun _ => ⟨_, rfl, rfl⟩) z24444 dX12_skip_304 ?_
                            refine r_iload_n S dX12_skip_307 rfl (lv_at hl 1 rfl) ?_
                            refine r_if_eq (tgt := 316) S dX12_skip_308 (by decide) (fun c24851 => ?_) (fun c24851 => ?_)
                            ·
                              have r24852 : R (0) (0) v12652 := ⟨by omega, by omega⟩
                              refine r_iconst S dX12_skip_316 (by decide) (fun v24853 z24854 => ?_)
                              have r24855 := R_eq z24854
                              refine r_icmp_le (tgt := 324) S dX12_skip_317 (by decide) (fun c24856 => ?_) (fun c24856 => ?_)
                              ·
                                have r24857 : R (0) (2) f24442 := ⟨by omega, by omega⟩
                                refine r_iload_n S dX12_skip_324 rfl (lv_at hl 1 rfl) ?_
                                refine r_if_eq (tgt := 332) S dX12_skip_325 (by decide) (fun c24858 => ?_) (fun c24858 => ?_)
                                ·
                                  refine r_iconst S dX12_skip_332 (by decide) (fun v24859 z24860 => ?_)
                                  have r24861 := R_eq z24860
                                  refine r_put (K := 38) (ty := .int) S X24829 (Nat.le_of_ble_eq_true rfl) rfl lk12_157_10 (fun _ => ⟨_, rfl, Nat.le_of_ble_eq_true rfl, rfl⟩) (fun _ _ _ h => by cases h; exact ⟨rfl, rfl⟩) rfl rfl dX12_skip_333 (fun t24862 H lc M24863 X24864 => ?_)
                                  have I24865 := Inv_mu I24433 M24863 (show Rg (kd 131) 11 v24859 from (R_of (lo := 0) (hi := 4) r24861 rfl))
                                  have F24866 : Fr [(131, 4), (131, 11), (131, 12), (131, 13), (131, 14)] [331] τ t24862 := Fr_mu F24434 M24863 (by decide)
                                  exact r_vret S hr hlk X24864 ⟨I24865, F24866, (by rw [((M24863.2 131 4 (Or.inr (by decide))).trans z24438)]; exact R_of r24437 rfl), (by rw [M24863.1]; exact R_of r24861 rfl), (by have h1_0 := congrArg Int32.toInt ((M24863.2 131 4 (Or.inr (by decide))).trans z24438); have h2_0 := congrArg Int32.toInt z2; omega), (by have h1_0 := congrArg Int32.toInt ((M24863.2 131 4 (Or.inr (by decide))).trans z24438); have h2_0 := congrArg Int32.toInt z2; have h1_1 := congrArg Int32.toInt M24863.1; omega), (MT_nbr (A := f223.toInt.toNat) (i := f24436.toInt.toNat) (sm := v12652.toInt) (al := i24430.toInt) (sp := f24442.toInt) (wd := (qof t24432 131 17).toInt) (by rw [((M24863.2 131 14 (Or.inr (by decide))).trans z24447)]; exact x24449) (MB_eq hB (F24866 131 3 (by simp [fz])) (F24866 131 5 (by simp [fz])) (fun j => F24866 132 j (by simp [fz]))) ⟨by omega, by omega, x229, fun _ => by omega⟩ (NLp_u y309 (by omega)) (by omega) he24838 (by omega) (by omega) (by omega) (by have q := congrArg Int32.toInt ((M24863.2 131 12 (Or.inr (by decide))).trans z24441); omega) (by have q := congrArg Int32.toInt ((M24863.2 131 4 (Or.inr (by decide))).trans z24438); omega) (by have q := congrArg Int32.toInt M24863.1; omega))⟩ dX12_skip_336
                                ·
                                  exfalso; omega
                              ·
                                have r24867 : R (3) (940) f24442 := ⟨by omega, by omega⟩
                                refine r_iconst S dX12_skip_320 (by decide) (fun v24868 z24869 => ?_)
                                have r24870 := R_eq z24869
                                refine r_goto (tgt := 333) S dX12_skip_321 (by decide) ?_
                                refine r_put (K := 38) (ty := .int) S X24829 (Nat.le_of_ble_eq_true rfl) rfl lk12_157_10 (fun _ => ⟨_, rfl, Nat.le_of_ble_eq_true rfl, rfl⟩) (fun _ _ _ h => by cases h; exact ⟨rfl, rfl⟩) rfl rfl dX12_skip_333 (fun t24871 H lc M24872 X24873 => ?_)
                                have I24874 := Inv_mu I24433 M24872 (show Rg (kd 131) 11 v24868 from (R_of (lo := 0) (hi := 4) r24870 rfl))
                                have F24875 : Fr [(131, 4), (131, 11), (131, 12), (131, 13), (131, 14)] [331] τ t24871 := Fr_mu F24434 M24872 (by decide)
                                exact r_vret S hr hlk X24873 ⟨I24874, F24875, (by rw [((M24872.2 131 4 (Or.inr (by decide))).trans z24438)]; exact R_of r24437 rfl), (by rw [M24872.1]; exact R_of r24870 rfl), (by have h1_0 := congrArg Int32.toInt ((M24872.2 131 4 (Or.inr (by decide))).trans z24438); have h2_0 := congrArg Int32.toInt z2; omega), (by have h1_0 := congrArg Int32.toInt ((M24872.2 131 4 (Or.inr (by decide))).trans z24438); have h2_0 := congrArg Int32.toInt z2; have h1_1 := congrArg Int32.toInt M24872.1; omega), (MT_odd (A := f223.toInt.toNat) (i := f24436.toInt.toNat) (sm := v12652.toInt) (al := i24430.toInt) (sp := f24442.toInt) x24449 (MB_eq hB (F24875 131 3 (by simp [fz])) (F24875 131 5 (by simp [fz])) (fun j => F24875 132 j (by simp [fz]))) ⟨by omega, by omega, x229, fun _ => by omega⟩ (NLp_u y309 (by omega)) (by omega) he24838 hs12660 (by omega) (by omega) (by have q := congrArg Int32.toInt ((M24872.2 131 12 (Or.inr (by decide))).trans z24441); omega) (by have q := congrArg Int32.toInt M24872.1; omega))⟩ dX12_skip_336
                            ·
                              exfalso; omega
                        ·
                          have r24878 : R (1) (1) v24831 := ⟨by omega, by omega⟩
                          have p24879 := q24834 (by omega)
                          have r24880 : R (48) (57) v24822 := ⟨by omega, by omega⟩
                          have p24881 := q24825 (by omega)
                          have r24882 : R (0) (939) f24436 := z24438 ▸ p24881
                          have r24883 : R (0) (939) f24436 := ⟨by omega, by omega⟩
                          exact J24547 _ _ _ X24829 r24883 (by have q := PK_in pk24827 (by omega); have q2 := PK_at pk24827 q.1; omega) (lv_sub hl [0, 1, 2] rfl)
                  exact L24448 _ t12671 _ _ _ v12657 f223 v281 v12668 X12673 I12674 F12675 (R_of r12659 rfl) ((M12672.2 131 4 (Or.inr (by decide))).trans ((M12665.1 131 (by decide) 4).trans ((M285.2 131 4 (Or.inr (by decide))).trans ((M277.2 131 4 (Or.inr (by decide))).trans z225)))) ⟨by omega, by omega⟩ ((M12672.2 131 3 (Or.inr (by decide))).trans ((M12665.1 131 (by decide) 3).trans ((M285.2 131 3 (Or.inr (by decide))).trans ((M277.2 131 3 (Or.inr (by decide))).trans z226)))) ((M12672.2 131 5 (Or.inr (by decide))).trans ((M12665.1 131 (by decide) 5).trans ((M285.2 131 5 (Or.inr (by decide))).trans ((M277.2 131 5 (Or.inr (by decide))).trans z227)))) ((M12672.2 131 12 (Or.inr (by decide))).trans ((M12665.1 131 (by decide) 12).trans ((M285.2 131 12 (Or.inr (by decide))).trans M277.1))) ((M12672.2 131 13 (Or.inr (by decide))).trans ((M12665.1 131 (by decide) 13).trans M285.1)) ⟨by omega, by omega⟩ M12672.1 ⟨by omega, by omega⟩ (LM_0q (by omega) (by omega) (by omega) ((qof_of (k := 131) (fun j => ((M12672.2 331 j (Or.inl (by decide))).trans rfl)) 17).trans (Ml_upd M12665)) z12662) (by omega) (lv_sub hl [3, 1, 0] rfl) (Nat.lt_succ_self _)
                ·
                  have r24884 : R (0) (0) v12637 := ⟨by omega, by omega⟩
                  refine r_aload_n S dX12_skip_109 rfl (lv_at hl 1 rfl) ?_
                  refine r_iload_n S dX12_skip_110 rfl (lv_at hl 0 rfl) ?_
                  refine r_bipush S dX12_skip_111 (by decide) (fun v24885 z24886 => ?_)
                  have r24887 := R_eq z24886
                  refine r_icmp_eq (tgt := 140) S dX12_skip_113 (by decide) (fun c24888 => ?_) (fun c24888 => ?_)
                  ·
                    have r24889 : R (59) (59) v314 := ⟨by omega, by omega⟩
                    have p24890 := q317 (by omega)
                    have r24891 : R (0) (939) f223 := ((M285.2 131 4 (Or.inr (by decide))).trans ((M277.2 131 4 (Or.inr (by decide))).trans z225)) ▸ p24890
                    have r24892 : R (0) (939) f223 := ⟨by omega, by omega⟩
                    refine r_iconst S dX12_skip_140 (by decide) (fun v24893 z24894 => ?_)
                    have r24895 := R_eq z24894
                    refine r_goto (tgt := 145) S dX12_skip_141 (by decide) ?_
                    refine r_put (K := 38) (ty := .int) S X12635 (Nat.le_of_ble_eq_true rfl) rfl lk12_157_10 (fun _ => ⟨_, rfl, Nat.le_of_ble_eq_true rfl, rfl⟩) (fun _ _ _ h => by cases h; exact ⟨rfl, rfl⟩) rfl rfl dX12_skip_145 (fun t24896 H lc M24897 X24898 => ?_)
                    have I24899 := Inv_mu I287 M24897 (show Rg (kd 131) 11 v24893 from (R_of (lo := 0) (hi := 4) r24895 rfl))
                    have F24900 : Fr [(131, 4), (131, 11), (131, 12), (131, 13), (131, 14)] [331] τ t24896 := Fr_mu F288 M24897 (by decide)
                    refine r_aload_n S dX12_skip_148 rfl (lv_at hl 1 rfl) ?_
                    refine r_iload_n S dX12_skip_149 rfl (lv_at hl 0 rfl) ?_
                    refine r_put (K := 38) (ty := .int) S X24898 (Nat.le_of_ble_eq_true rfl) rfl lk12_167_10 (fun _ => ⟨_, rfl, Nat.le_of_ble_eq_true rfl, rfl⟩) (fun _ _ _ h => by cases h; exact ⟨rfl, rfl⟩) rfl rfl dX12_skip_150 (fun t24901 H lc M24902 X24903 => ?_)
                    have I24904 := Inv_mu I24899 M24902 (R_any v314)
                    have F24905 : Fr [(131, 4), (131, 11), (131, 12), (131, 13), (131, 14)] [331] τ t24901 := Fr_mu F24900 M24902 (by decide)
                    refine r_aload_n S dX12_skip_153 rfl (lv_at hl 1 rfl) ?_
                    refine r_dup S dX12_skip_154 rfl ?_
                    refine r_geti (K := 38) S X24903 (Nat.le_of_ble_eq_true rfl) rfl lk12_21_10 (fun _ => ⟨_, rfl, rfl⟩) ((M24902.2 131 4 (Or.inr (by decide))).trans ((M24897.2 131 4 (Or.inr (by decide))).trans ((M285.2 131 4 (Or.inr (by decide))).trans ((M277.2 131 4 (Or.inr (by decide))).trans z225)))) dX12_skip_155 ?_
                    refine r_iconst S dX12_skip_158 (by decide) (fun v24906 z24907 => ?_)
                    have r24908 := R_eq z24907
                    refine r_iadd S dX12_skip_159 (fun v24909 z24910 => ?_)
                    obtain ⟨e24911, r24912⟩ := i_add (lo := 1) (hi := 940) z24910 r24892 r24908 rfl
                    refine r_put (K := 38) (ty := .int) S X24903 (Nat.le_of_ble_eq_true rfl) rfl lk12_21_10 (fun _ => ⟨_, rfl, Nat.le_of_ble_eq_true rfl, rfl⟩) (fun _ _ _ h => by cases h; exact ⟨rfl, rfl⟩) rfl rfl dX12_skip_160 (fun t24913 H lc M24914 X24915 => ?_)
                    have I24916 := Inv_mu I24904 M24914 (show Rg (kd 131) 4 v24909 from (R_of (lo := 0) (hi := 940) r24912 rfl))
                    have F24917 : Fr [(131, 4), (131, 11), (131, 12), (131, 13), (131, 14)] [331] τ t24913 := Fr_mu F24905 M24914 (by decide)
                    exact r_vret S hr hlk X24915 ⟨I24916, F24917, (by rw [M24914.1]; exact R_of r24912 rfl), (by rw [((M24914.2 131 11 (Or.inr (by decide))).trans ((M24902.2 131 11 (Or.inr (by decide))).trans M24897.1))]; exact R_of r24895 rfl), (by have h1_0 := congrArg Int32.toInt M24914.1; have h2_0 := congrArg Int32.toInt z2; omega), (by have h1_0 := congrArg Int32.toInt M24914.1; have h2_0 := congrArg Int32.toInt z2; have h1_1 := congrArg Int32.toInt ((M24914.2 131 11 (Or.inr (by decide))).trans ((M24902.2 131 11 (Or.inr (by decide))).trans M24897.1)); omega), (MT_sign (A := f223.toInt.toNat) (MB_eq hB (F24917 131 3 (by simp [fz])) (F24917 131 5 (by simp [fz])) (fun j => F24917 132 j (by simp [fz]))) ⟨by omega, by omega, x229, fun _ => by omega⟩ (by omega) (NLp_u y309 (by omega)) (by omega) (by omega) (by have q := congrArg Int32.toInt ((M24914.2 131 12 (Or.inr (by decide))).trans ((M24902.2 131 12 (Or.inr (by decide))).trans ((M24897.2 131 12 (Or.inr (by decide))).trans ((M285.2 131 12 (Or.inr (by decide))).trans M277.1)))); omega) (by have q := congrArg Int32.toInt M24914.1; omega) (by have q := congrArg Int32.toInt ((M24914.2 131 11 (Or.inr (by decide))).trans ((M24902.2 131 11 (Or.inr (by decide))).trans M24897.1)); omega) (by have q := congrArg Int32.toInt ((M24914.2 131 14 (Or.inr (by decide))).trans M24902.1); omega))⟩ dX12_skip_163
                  ·
                    refine r_iload_n S dX12_skip_116 rfl (lv_at hl 0 rfl) ?_
                    refine r_bipush S dX12_skip_117 (by decide) (fun v24918 z24919 => ?_)
                    have r24920 := R_eq z24919
                    refine r_icmp_eq (tgt := 140) S dX12_skip_119 (by decide) (fun c24921 => ?_) (fun c24921 => ?_)
                    ·
                      have r24922 : R (40) (40) v314 := ⟨by omega, by omega⟩
                      have p24923 := q317 (by omega)
                      have r24924 : R (0) (939) f223 := ((M285.2 131 4 (Or.inr (by decide))).trans ((M277.2 131 4 (Or.inr (by decide))).trans z225)) ▸ p24923
                      have r24925 : R (0) (939) f223 := ⟨by omega, by omega⟩
                      refine r_iconst S dX12_skip_140 (by decide) (fun v24926 z24927 => ?_)
                      have r24928 := R_eq z24927
                      refine r_goto (tgt := 145) S dX12_skip_141 (by decide) ?_
                      refine r_put (K := 38) (ty := .int) S X12635 (Nat.le_of_ble_eq_true rfl) rfl lk12_157_10 (fun _ => ⟨_, rfl, Nat.le_of_ble_eq_true rfl, rfl⟩) (fun _ _ _ h => by cases h; exact ⟨rfl, rfl⟩) rfl rfl dX12_skip_145 (fun t24929 H lc M24930 X24931 => ?_)
                      have I24932 := Inv_mu I287 M24930 (show Rg (kd 131) 11 v24926 from (R_of (lo := 0) (hi := 4) r24928 rfl))
                      have F24933 : Fr [(131, 4), (131, 11), (131, 12), (131, 13), (131, 14)] [331] τ t24929 := Fr_mu F288 M24930 (by decide)
                      refine r_aload_n S dX12_skip_148 rfl (lv_at hl 1 rfl) ?_
                      refine r_iload_n S dX12_skip_149 rfl (lv_at hl 0 rfl) ?_
                      refine r_put (K := 38) (ty := .int) S X24931 (Nat.le_of_ble_eq_true rfl) rfl lk12_167_10 (fun _ => ⟨_, rfl, Nat.le_of_ble_eq_true rfl, rfl⟩) (fun _ _ _ h => by cases h; exact ⟨rfl, rfl⟩) rfl rfl dX12_skip_150 (fun t24934 H lc M24935 X24936 => ?_)
                      have I24937 := Inv_mu I24932 M24935 (R_any v314)
                      have F24938 : Fr [(131, 4), (131, 11), (131, 12), (131, 13), (131, 14)] [331] τ t24934 := Fr_mu F24933 M24935 (by decide)
                      refine r_aload_n S dX12_skip_153 rfl (lv_at hl 1 rfl) ?_
                      refine r_dup S dX12_skip_154 rfl ?_
                      refine r_geti (K := 38) S X24936 (Nat.le_of_ble_eq_true rfl) rfl lk12_21_10 (fun _ => ⟨_, rfl, rfl⟩) ((M24935.2 131 4 (Or.inr (by decide))).trans ((M24930.2 131 4 (Or.inr (by decide))).trans ((M285.2 131 4 (Or.inr (by decide))).trans ((M277.2 131 4 (Or.inr (by decide))).trans z225)))) dX12_skip_155 ?_
                      refine r_iconst S dX12_skip_158 (by decide) (fun v24939 z24940 => ?_)
                      have r24941 := R_eq z24940
                      refine r_iadd S dX12_skip_159 (fun v24942 z24943 => ?_)
                      obtain ⟨e24944, r24945⟩ := i_add (lo := 1) (hi := 940) z24943 r24925 r24941 rfl
                      refine r_put (K := 38) (ty := .int) S X24936 (Nat.le_of_ble_eq_true rfl) rfl lk12_21_10 (fun _ => ⟨_, rfl, Nat.le_of_ble_eq_true rfl, rfl⟩) (fun _ _ _ h => by cases h; exact ⟨rfl, rfl⟩) rfl rfl dX12_skip_160 (fun t24946 H lc M24947 X24948 => ?_)
                      have I24949 := Inv_mu I24937 M24947 (show Rg (kd 131) 4 v24942 from (R_of (lo := 0) (hi := 940) r24945 rfl))
                      have F24950 : Fr [(131, 4), (131, 11), (131, 12), (131, 13), (131, 14)] [331] τ t24946 := Fr_mu F24938 M24947 (by decide)
                      exact r_vret S hr hlk X24948 ⟨I24949, F24950, (by rw [M24947.1]; exact R_of r24945 rfl), (by rw [((M24947.2 131 11 (Or.inr (by decide))).trans ((M24935.2 131 11 (Or.inr (by decide))).trans M24930.1))]; exact R_of r24928 rfl), (by have h1_0 := congrArg Int32.toInt M24947.1; have h2_0 := congrArg Int32.toInt z2; omega), (by have h1_0 := congrArg Int32.toInt M24947.1; have h2_0 := congrArg Int32.toInt z2; have h1_1 := congrArg Int32.toInt ((M24947.2 131 11 (Or.inr (by decide))).trans ((M24935.2 131 11 (Or.inr (by decide))).trans M24930.1)); omega), (MT_sign (A := f223.toInt.toNat) (MB_eq hB (F24950 131 3 (by simp [fz])) (F24950 131 5 (by simp [fz])) (fun j => F24950 132 j (by simp [fz]))) ⟨by omega, by omega, x229, fun _ => by omega⟩ (by omega) (NLp_u y309 (by omega)) (by omega) (by omega) (by have q := congrArg Int32.toInt ((M24947.2 131 12 (Or.inr (by decide))).trans ((M24935.2 131 12 (Or.inr (by decide))).trans ((M24930.2 131 12 (Or.inr (by decide))).trans ((M285.2 131 12 (Or.inr (by decide))).trans M277.1)))); omega) (by have q := congrArg Int32.toInt M24947.1; omega) (by have q := congrArg Int32.toInt ((M24947.2 131 11 (Or.inr (by decide))).trans ((M24935.2 131 11 (Or.inr (by decide))).trans M24930.1)); omega) (by have q := congrArg Int32.toInt ((M24947.2 131 14 (Or.inr (by decide))).trans M24935.1); omega))⟩ dX12_skip_163
                    ·
                      refine r_iload_n S dX12_skip_122 rfl (lv_at hl 0 rfl) ?_
                      refine r_bipush S dX12_skip_123 (by decide) (fun v24951 z24952 => ?_)
                      have r24953 := R_eq z24952
                      refine r_icmp_eq (tgt := 140) S dX12_skip_125 (by decide) (fun c24954 => ?_) (fun c24954 => ?_)
                      ·
                        have r24955 : R (41) (41) v314 := ⟨by omega, by omega⟩
                        have p24956 := q317 (by omega)
                        have r24957 : R (0) (939) f223 := ((M285.2 131 4 (Or.inr (by decide))).trans ((M277.2 131 4 (Or.inr (by decide))).trans z225)) ▸ p24956
                        have r24958 : R (0) (939) f223 := ⟨by omega, by omega⟩
                        refine r_iconst S dX12_skip_140 (by decide) (fun v24959 z24960 => ?_)
                        have r24961 := R_eq z24960
                        refine r_goto (tgt := 145) S dX12_skip_141 (by decide) ?_
                        refine r_put (K := 38) (ty := .int) S X12635 (Nat.le_of_ble_eq_true rfl) rfl lk12_157_10 (fun _ => ⟨_, rfl, Nat.le_of_ble_eq_true rfl, rfl⟩) (fun _ _ _ h => by cases h; exact ⟨rfl, rfl⟩) rfl rfl dX12_skip_145 (fun t24962 H lc M24963 X24964 => ?_)
                        have I24965 := Inv_mu I287 M24963 (show Rg (kd 131) 11 v24959 from (R_of (lo := 0) (hi := 4) r24961 rfl))
                        have F24966 : Fr [(131, 4), (131, 11), (131, 12), (131, 13), (131, 14)] [331] τ t24962 := Fr_mu F288 M24963 (by decide)
                        refine r_aload_n S dX12_skip_148 rfl (lv_at hl 1 rfl) ?_
                        refine r_iload_n S dX12_skip_149 rfl (lv_at hl 0 rfl) ?_
                        refine r_put (K := 38) (ty := .int) S X24964 (Nat.le_of_ble_eq_true rfl) rfl lk12_167_10 (fun _ => ⟨_, rfl, Nat.le_of_ble_eq_true rfl, rfl⟩) (fun _ _ _ h => by cases h; exact ⟨rfl, rfl⟩) rfl rfl dX12_skip_150 (fun t24967 H lc M24968 X24969 => ?_)
                        have I24970 := Inv_mu I24965 M24968 (R_any v314)
                        have F24971 : Fr [(131, 4), (131, 11), (131, 12), (131, 13), (131, 14)] [331] τ t24967 := Fr_mu F24966 M24968 (by decide)
                        refine r_aload_n S dX12_skip_153 rfl (lv_at hl 1 rfl) ?_
                        refine r_dup S dX12_skip_154 rfl ?_
                        refine r_geti (K := 38) S X24969 (Nat.le_of_ble_eq_true rfl) rfl lk12_21_10 (fun _ => ⟨_, rfl, rfl⟩) ((M24968.2 131 4 (Or.inr (by decide))).trans ((M24963.2 131 4 (Or.inr (by decide))).trans ((M285.2 131 4 (Or.inr (by decide))).trans ((M277.2 131 4 (Or.inr (by decide))).trans z225)))) dX12_skip_155 ?_
                        refine r_iconst S dX12_skip_158 (by decide) (fun v24972 z24973 => ?_)
                        have r24974 := R_eq z24973
                        refine r_iadd S dX12_skip_159 (fun v24975 z24976 => ?_)
                        obtain ⟨e24977, r24978⟩ := i_add (lo := 1) (hi := 940) z24976 r24958 r24974 rfl
                        refine r_put (K := 38) (ty := .int) S X24969 (Nat.le_of_ble_eq_true rfl) rfl lk12_21_10 (fun _ => ⟨_, rfl, Nat.le_of_ble_eq_true rfl, rfl⟩) (fun _ _ _ h => by cases h; exact ⟨rfl, rfl⟩) rfl rfl dX12_skip_160 (fun t24979 H lc M24980 X24981 => ?_)
                        have I24982 := Inv_mu I24970 M24980 (show Rg (kd 131) 4 v24975 from (R_of (lo := 0) (hi := 940) r24978 rfl))
                        have F24983 : Fr [(131, 4), (131, 11), (131, 12), (131, 13), (131, 14)] [331] τ t24979 := Fr_mu F24971 M24980 (by decide)
                        exact r_vret S hr hlk X24981 ⟨I24982, F24983, (by rw [M24980.1]; exact R_of r24978 rfl), (by rw [((M24980.2 131 11 (Or.inr (by decide))).trans ((M24968.2 131 11 (Or.inr (by decide))).trans M24963.1))]; exact R_of r24961 rfl), (by have h1_0 := congrArg Int32.toInt M24980.1; have h2_0 := congrArg Int32.toInt z2; omega), (by have h1_0 := congrArg Int32.toInt M24980.1; have h2_0 := congrArg Int32.toInt z2; have h1_1 := congrArg Int32.toInt ((M24980.2 131 11 (Or.inr (by decide))).trans ((M24968.2 131 11 (Or.inr (by decide))).trans M24963.1)); omega), (MT_sign (A := f223.toInt.toNat) (MB_eq hB (F24983 131 3 (by simp [fz])) (F24983 131 5 (by simp [fz])) (fun j => F24983 132 j (by simp [fz]))) ⟨by omega, by omega, x229, fun _ => by omega⟩ (by omega) (NLp_u y309 (by omega)) (by omega) (by omega) (by have q := congrArg Int32.toInt ((M24980.2 131 12 (Or.inr (by decide))).trans ((M24968.2 131 12 (Or.inr (by decide))).trans ((M24963.2 131 12 (Or.inr (by decide))).trans ((M285.2 131 12 (Or.inr (by decide))).trans M277.1)))); omega) (by have q := congrArg Int32.toInt M24980.1; omega) (by have q := congrArg Int32.toInt ((M24980.2 131 11 (Or.inr (by decide))).trans ((M24968.2 131 11 (Or.inr (by decide))).trans M24963.1)); omega) (by have q := congrArg Int32.toInt ((M24980.2 131 14 (Or.inr (by decide))).trans M24968.1); omega))⟩ dX12_skip_163
                      ·
                        refine r_iload_n S dX12_skip_128 rfl (lv_at hl 0 rfl) ?_
                        refine r_bipush S dX12_skip_129 (by decide) (fun v24984 z24985 => ?_)
                        have r24986 := R_eq z24985
                        refine r_icmp_lt (tgt := 144) S dX12_skip_131 (by decide) (fun c24987 => ?_) (fun c24987 => ?_)
                        ·
                          have r24988 : R (0) (59) v314 := ⟨by omega, by omega⟩
                          have p24989 := q317 (by omega)
                          have r24990 : R (0) (939) f223 := ((M285.2 131 4 (Or.inr (by decide))).trans ((M277.2 131 4 (Or.inr (by decide))).trans z225)) ▸ p24989
                          have r24991 : R (0) (939) f223 := ⟨by omega, by omega⟩
                          refine r_iconst S dX12_skip_144 (by decide) (fun v24992 z24993 => ?_)
                          have r24994 := R_eq z24993
                          refine r_put (K := 38) (ty := .int) S X12635 (Nat.le_of_ble_eq_true rfl) rfl lk12_157_10 (fun _ => ⟨_, rfl, Nat.le_of_ble_eq_true rfl, rfl⟩) (fun _ _ _ h => by cases h; exact ⟨rfl, rfl⟩) rfl rfl dX12_skip_145 (fun t24995 H lc M24996 X24997 => ?_)
                          have I24998 := Inv_mu I287 M24996 (show Rg (kd 131) 11 v24992 from (R_of (lo := 0) (hi := 4) r24994 rfl))
                          have F24999 : Fr [(131, 4), (131, 11), (131, 12), (131, 13), (131, 14)] [331] τ t24995 := Fr_mu F288 M24996 (by decide)
                          refine r_aload_n S dX12_skip_148 rfl (lv_at hl 1 rfl) ?_
                          refine r_iload_n S dX12_skip_149 rfl (lv_at hl 0 rfl) ?_
                          refine r_put (K := 38) (ty := .int) S X24997 (Nat.le_of_ble_eq_true rfl) rfl lk12_167_10 (fun _ => ⟨_, rfl, Nat.le_of_ble_eq_true rfl, rfl⟩) (fun _ _ _ h => by cases h; exact ⟨rfl, rfl⟩) rfl rfl dX12_skip_150 (fun t25000 H lc M25001 X25002 => ?_)
                          have I25003 := Inv_mu I24998 M25001 (R_any v314)
                          have F25004 : Fr [(131, 4), (131, 11), (131, 12), (131, 13), (131, 14)] [331] τ t25000 := Fr_mu F24999 M25001 (by decide)
                          refine r_aload_n S dX12_skip_153 rfl (lv_at hl 1 rfl) ?_
                          refine r_dup S dX12_skip_154 rfl ?_
                          refine r_geti (K := 38) S X25002 (Nat.le_of_ble_eq_true rfl) rfl lk12_21_10 (fun _ => ⟨_, rfl, rfl⟩) ((M25001.2 131 4 (Or.inr (by decide))).trans ((M24996.2 131 4 (Or.inr (by decide))).trans ((M285.2 131 4 (Or.inr (by decide))).trans ((M277.2 131 4 (Or.inr (by decide))).trans z225)))) dX12_skip_155 ?_
                          refine r_iconst S dX12_skip_158 (by decide) (fun v25005 z25006 => ?_)
                          have r25007 := R_eq z25006
                          refine r_iadd S dX12_skip_159 (fun v25008 z25009 => ?_)
                          obtain ⟨e25010, r25011⟩ := i_add (lo := 1) (hi := 940) z25009 r24991 r25007 rfl
                          refine r_put (K := 38) (ty := .int) S X25002 (Nat.le_of_ble_eq_true rfl) rfl lk12_21_10 (fun _ => ⟨_, rfl, Nat.le_of_ble_eq_true rfl, rfl⟩) (fun _ _ _ h => by cases h; exact ⟨rfl, rfl⟩) rfl rfl dX12_skip_160 (fun t25012 H lc M25013 X25014 => ?_)
                          have I25015 := Inv_mu I25003 M25013 (show Rg (kd 131) 4 v25008 from (R_of (lo := 0) (hi := 940) r25011 rfl))
                          have F25016 : Fr [(131, 4), (131, 11), (131, 12), (131, 13), (131, 14)] [331] τ t25012 := Fr_mu F25004 M25013 (by decide)
                          exact r_vret S hr hlk X25014 ⟨I25015, F25016, (by rw [M25013.1]; exact R_of r25011 rfl), (by rw [((M25013.2 131 11 (Or.inr (by decide))).trans ((M25001.2 131 11 (Or.inr (by decide))).trans M24996.1))]; exact R_of r24994 rfl), (by have h1_0 := congrArg Int32.toInt M25013.1; have h2_0 := congrArg Int32.toInt z2; omega), (by have h1_0 := congrArg Int32.toInt M25013.1; have h2_0 := congrArg Int32.toInt z2; have h1_1 := congrArg Int32.toInt ((M25013.2 131 11 (Or.inr (by decide))).trans ((M25001.2 131 11 (Or.inr (by decide))).trans M24996.1)); omega), (MT_none (A := f223.toInt.toNat) (MB_eq hB (F25016 131 3 (by simp [fz])) (F25016 131 5 (by simp [fz])) (fun j => F25016 132 j (by simp [fz]))) ⟨by omega, by omega, x229, fun _ => by omega⟩ (by omega) (NLp_u y309 (by omega)) (by omega) (by omega) (by have q := congrArg Int32.toInt ((M25013.2 131 12 (Or.inr (by decide))).trans ((M25001.2 131 12 (Or.inr (by decide))).trans ((M24996.2 131 12 (Or.inr (by decide))).trans ((M285.2 131 12 (Or.inr (by decide))).trans M277.1)))); omega) (by have q := congrArg Int32.toInt ((M25013.2 131 11 (Or.inr (by decide))).trans ((M25001.2 131 11 (Or.inr (by decide))).trans M24996.1)); omega))⟩ dX12_skip_163
                        ·
                          have r25017 : R (60) (255) v314 := ⟨by omega, by omega⟩
                          have p25018 := q317 (by omega)
                          have r25019 : R (0) (939) f223 := ((M285.2 131 4 (Or.inr (by decide))).trans ((M277.2 131 4 (Or.inr (by decide))).trans z225)) ▸ p25018
                          have r25020 : R (0) (939) f223 := ⟨by omega, by omega⟩
                          refine r_iload_n S dX12_skip_134 rfl (lv_at hl 0 rfl) ?_
                          refine r_bipush S dX12_skip_135 (by decide) (fun v25021 z25022 => ?_)
                          have r25023 := R_eq z25022
                          refine r_icmp_gt (tgt := 144) S dX12_skip_137 (by decide) (fun c25024 => ?_) (fun c25024 => ?_)
                          ·
                            have r25025 : R (63) (255) v314 := ⟨by omega, by omega⟩
                            have p25026 := q317 (by omega)
                            have r25027 : R (0) (939) f223 := ((M285.2 131 4 (Or.inr (by decide))).trans ((M277.2 131 4 (Or.inr (by decide))).trans z225)) ▸ p25026
                            have r25028 : R (0) (939) f223 := ⟨by omega, by omega⟩
                            refine r_iconst S dX12_skip_144 (by decide) (fun v25029 z25030 => ?_)
                            have r25031 := R_eq z25030
                            refine r_put (K := 38) (ty := .int) S X12635 (Nat.le_of_ble_eq_true rfl) rfl lk12_157_10 (fun _ => ⟨_, rfl, Nat.le_of_ble_eq_true rfl, rfl⟩) (fun _ _ _ h => by cases h; exact ⟨rfl, rfl⟩) rfl rfl dX12_skip_145 (fun t25032 H lc M25033 X25034 => ?_)
                            have I25035 := Inv_mu I287 M25033 (show Rg (kd 131) 11 v25029 from (R_of (lo := 0) (hi := 4) r25031 rfl))
                            have F25036 : Fr [(131, 4), (131, 11), (131, 12), (131, 13), (131, 14)] [331] τ t25032 := Fr_mu F288 M25033 (by decide)
                            refine r_aload_n S dX12_skip_148 rfl (lv_at hl 1 rfl) ?_
                            refine r_iload_n S dX12_skip_149 rfl (lv_at hl 0 rfl) ?_
                            refine r_put (K := 38) (ty := .int) S X25034 (Nat.le_of_ble_eq_true rfl) rfl lk12_167_10 (fun _ => ⟨_, rfl, Nat.le_of_ble_eq_true rfl, rfl⟩) (fun _ _ _ h => by cases h; exact ⟨rfl, rfl⟩) rfl rfl dX12_skip_150 (fun t25037 H lc M25038 X25039 => ?_)
                            have I25040 := Inv_mu I25035 M25038 (R_any v314)
                            have F25041 : Fr [(131, 4), (131, 11), (131, 12), (131, 13), (131, 14)] [331] τ t25037 := Fr_mu F25036 M25038 (by decide)
                            refine r_aload_n S dX12_skip_153 rfl (lv_at hl 1 rfl) ?_
                            refine r_dup S dX12_skip_154 rfl ?_
                            refine r_geti (K := 38) S X25039 (Nat.le_of_ble_eq_true rfl) rfl lk12_21_10 (fun _ => ⟨_, rfl, rfl⟩) ((M25038.2 131 4 (Or.inr (by decide))).trans ((M25033.2 131 4 (Or.inr (by decide))).trans ((M285.2 131 4 (Or.inr (by decide))).trans ((M277.2 131 4 (Or.inr (by decide))).trans z225)))) dX12_skip_155 ?_
                            refine r_iconst S dX12_skip_158 (by decide) (fun v25042 z25043 => ?_)
                            have r25044 := R_eq z25043
                            refine r_iadd S dX12_skip_159 (fun v25045 z25046 => ?_)
                            obtain ⟨e25047, r25048⟩ := i_add (lo := 1) (hi := 940) z25046 r25028 r25044 rfl
                            refine r_put (K := 38) (ty := .int) S X25039 (Nat.le_of_ble_eq_true rfl) rfl lk12_21_10 (fun _ => ⟨_, rfl, Nat.le_of_ble_eq_true rfl, rfl⟩) (fun _ _ _ h => by cases h; exact ⟨rfl, rfl⟩) rfl rfl dX12_skip_160 (fun t25049 H lc M25050 X25051 => ?_)
                            have I25052 := Inv_mu I25040 M25050 (show Rg (kd 131) 4 v25045 from (R_of (lo := 0) (hi := 940) r25048 rfl))
                            have F25053 : Fr [(131, 4), (131, 11), (131, 12), (131, 13), (131, 14)] [331] τ t25049 := Fr_mu F25041 M25050 (by decide)
                            exact r_vret S hr hlk X25051 ⟨I25052, F25053, (by rw [M25050.1]; exact R_of r25048 rfl), (by rw [((M25050.2 131 11 (Or.inr (by decide))).trans ((M25038.2 131 11 (Or.inr (by decide))).trans M25033.1))]; exact R_of r25031 rfl), (by have h1_0 := congrArg Int32.toInt M25050.1; have h2_0 := congrArg Int32.toInt z2; omega), (by have h1_0 := congrArg Int32.toInt M25050.1; have h2_0 := congrArg Int32.toInt z2; have h1_1 := congrArg Int32.toInt ((M25050.2 131 11 (Or.inr (by decide))).trans ((M25038.2 131 11 (Or.inr (by decide))).trans M25033.1)); omega), (MT_none (A := f223.toInt.toNat) (MB_eq hB (F25053 131 3 (by simp [fz])) (F25053 131 5 (by simp [fz])) (fun j => F25053 132 j (by simp [fz]))) ⟨by omega, by omega, x229, fun _ => by omega⟩ (by omega) (NLp_u y309 (by omega)) (by omega) (by omega) (by have q := congrArg Int32.toInt ((M25050.2 131 12 (Or.inr (by decide))).trans ((M25038.2 131 12 (Or.inr (by decide))).trans ((M25033.2 131 12 (Or.inr (by decide))).trans ((M285.2 131 12 (Or.inr (by decide))).trans M277.1)))); omega) (by have q := congrArg Int32.toInt ((M25050.2 131 11 (Or.inr (by decide))).trans ((M25038.2 131 11 (Or.inr (by decide))).trans M25033.1)); omega))⟩ dX12_skip_163
                          ·
                            have r25054 : R (60) (62) v314 := ⟨by omega, by omega⟩
                            have p25055 := q317 (by omega)
                            have r25056 : R (0) (939) f223 := ((M285.2 131 4 (Or.inr (by decide))).trans ((M277.2 131 4 (Or.inr (by decide))).trans z225)) ▸ p25055
                            have r25057 : R (0) (939) f223 := ⟨by omega, by omega⟩
                            refine r_iconst S dX12_skip_140 (by decide) (fun v25058 z25059 => ?_)
                            have r25060 := R_eq z25059
                            refine r_goto (tgt := 145) S dX12_skip_141 (by decide) ?_
                            refine r_put (K := 38) (ty := .int) S X12635 (Nat.le_of_ble_eq_true rfl) rfl lk12_157_10 (fun _ => ⟨_, rfl, Nat.le_of_ble_eq_true rfl, rfl⟩) (fun _ _ _ h => by cases h; exact ⟨rfl, rfl⟩) rfl rfl dX12_skip_145 (fun t25061 H lc M25062 X25063 => ?_)
                            have I25064 := Inv_mu I287 M25062 (show Rg (kd 131) 11 v25058 from (R_of (lo := 0) (hi := 4) r25060 rfl))
                            have F25065 : Fr [(131, 4), (131, 11), (131, 12), (131, 13), (131, 14)] [331] τ t25061 := Fr_mu F288 M25062 (by decide)
                            refine r_aload_n S dX12_skip_148 rfl (lv_at hl 1 rfl) ?_
                            refine r_iload_n S dX12_skip_149 rfl (lv_at hl 0 rfl) ?_
                            refine r_put (K := 38) (ty := .int) S X25063 (Nat.le_of_ble_eq_true rfl) rfl lk12_167_10 (fun _ => ⟨_, rfl, Nat.le_of_ble_eq_true rfl, rfl⟩) (fun _ _ _ h => by cases h; exact ⟨rfl, rfl⟩) rfl rfl dX12_skip_150 (fun t25066 H lc M25067 X25068 => ?_)
                            have I25069 := Inv_mu I25064 M25067 (R_any v314)
                            have F25070 : Fr [(131, 4), (131, 11), (131, 12), (131, 13), (131, 14)] [331] τ t25066 := Fr_mu F25065 M25067 (by decide)
                            refine r_aload_n S dX12_skip_153 rfl (lv_at hl 1 rfl) ?_
                            refine r_dup S dX12_skip_154 rfl ?_
                            refine r_geti (K := 38) S X25068 (Nat.le_of_ble_eq_true rfl) rfl lk12_21_10 (fun _ => ⟨_, rfl, rfl⟩) ((M25067.2 131 4 (Or.inr (by decide))).trans ((M25062.2 131 4 (Or.inr (by decide))).trans ((M285.2 131 4 (Or.inr (by decide))).trans ((M277.2 131 4 (Or.inr (by decide))).trans z225)))) dX12_skip_155 ?_
                            refine r_iconst S dX12_skip_158 (by decide) (fun v25071 z25072 => ?_)
                            have r25073 := R_eq z25072
                            refine r_iadd S dX12_skip_159 (fun v25074 z25075 => ?_)
                            obtain ⟨e25076, r25077⟩ := i_add (lo := 1) (hi := 940) z25075 r25057 r25073 rfl
                            refine r_put (K := 38) (ty := .int) S X25068 (Nat.le_of_ble_eq_true rfl) rfl lk12_21_10 (fun _ => ⟨_, rfl, Nat.le_of_ble_eq_true rfl, rfl⟩) (fun _ _ _ h => by cases h; exact ⟨rfl, rfl⟩) rfl rfl dX12_skip_160 (fun t25078 H lc M25079 X25080 => ?_)
                            have I25081 := Inv_mu I25069 M25079 (show Rg (kd 131) 4 v25074 from (R_of (lo := 0) (hi := 940) r25077 rfl))
                            have F25082 : Fr [(131, 4), (131, 11), (131, 12), (131, 13), (131, 14)] [331] τ t25078 := Fr_mu F25070 M25079 (by decide)
                            exact r_vret S hr hlk X25080 ⟨I25081, F25082, (by rw [M25079.1]; exact R_of r25077 rfl), (by rw [((M25079.2 131 11 (Or.inr (by decide))).trans ((M25067.2 131 11 (Or.inr (by decide))).trans M25062.1))]; exact R_of r25060 rfl), (by have h1_0 := congrArg Int32.toInt M25079.1; have h2_0 := congrArg Int32.toInt z2; omega), (by have h1_0 := congrArg Int32.toInt M25079.1; have h2_0 := congrArg Int32.toInt z2; have h1_1 := congrArg Int32.toInt ((M25079.2 131 11 (Or.inr (by decide))).trans ((M25067.2 131 11 (Or.inr (by decide))).trans M25062.1)); omega), (MT_sign (A := f223.toInt.toNat) (MB_eq hB (F25082 131 3 (by simp [fz])) (F25082 131 5 (by simp [fz])) (fun j => F25082 132 j (by simp [fz]))) ⟨by omega, by omega, x229, fun _ => by omega⟩ (by omega) (NLp_u y309 (by omega)) (by omega) (by omega) (by have q := congrArg Int32.toInt ((M25079.2 131 12 (Or.inr (by decide))).trans ((M25067.2 131 12 (Or.inr (by decide))).trans ((M25062.2 131 12 (Or.inr (by decide))).trans ((M285.2 131 12 (Or.inr (by decide))).trans M277.1)))); omega) (by have q := congrArg Int32.toInt M25079.1; omega) (by have q := congrArg Int32.toInt ((M25079.2 131 11 (Or.inr (by decide))).trans ((M25067.2 131 11 (Or.inr (by decide))).trans M25062.1)); omega) (by have q := congrArg Int32.toInt ((M25079.2 131 14 (Or.inr (by decide))).trans M25067.1); omega))⟩ dX12_skip_163
            ·
              have r25083 : R (-1) (-1) v314 := ⟨by omega, by omega⟩
              have e25084 := PK_out pk319 (by omega)
              refine r_aload_n S dX12_skip_89 rfl (lv_at hl 1 rfl) ?_
              refine r_iconst S dX12_skip_90 (by decide) (fun v25085 z25086 => ?_)
              have r25087 := R_eq z25086
              refine r_put (K := 38) (ty := .int) S X312 (Nat.le_of_ble_eq_true rfl) rfl lk12_157_10 (fun _ => ⟨_, rfl, Nat.le_of_ble_eq_true rfl, rfl⟩) (fun _ _ _ h => by cases h; exact ⟨rfl, rfl⟩) rfl rfl dX12_skip_91 (fun t25088 H lc M25089 X25090 => ?_)
              have I25091 := Inv_mu I287 M25089 (show Rg (kd 131) 11 v25085 from (R_of (lo := 0) (hi := 4) r25087 rfl))
              have F25092 : Fr [(131, 4), (131, 11), (131, 12), (131, 13), (131, 14)] [331] τ t25088 := Fr_mu F288 M25089 (by decide)
              exact r_vret S hr hlk X25090 ⟨I25091, F25092, (by rw [((M25089.2 131 4 (Or.inr (by decide))).trans ((M285.2 131 4 (Or.inr (by decide))).trans ((M277.2 131 4 (Or.inr (by decide))).trans z225)))]; exact R_of r224 rfl), (by rw [M25089.1]; exact R_of r25087 rfl), (by have h1_0 := congrArg Int32.toInt ((M25089.2 131 4 (Or.inr (by decide))).trans ((M285.2 131 4 (Or.inr (by decide))).trans ((M277.2 131 4 (Or.inr (by decide))).trans z225))); have h2_0 := congrArg Int32.toInt z2; omega), (by have h1_0 := congrArg Int32.toInt ((M25089.2 131 4 (Or.inr (by decide))).trans ((M285.2 131 4 (Or.inr (by decide))).trans ((M277.2 131 4 (Or.inr (by decide))).trans z225))); have h2_0 := congrArg Int32.toInt z2; have h1_1 := congrArg Int32.toInt M25089.1; omega), (MT_stop (MB_eq hB (F25092 131 3 (by simp [fz])) (F25092 131 5 (by simp [fz])) (fun j => F25092 132 j (by simp [fz]))) (by omega) (by have q := y309; unfold NLp at q; omega) (fun k h1 h2 => x229 k h1 (by omega)) (by have q := congrArg Int32.toInt ((M25089.2 131 12 (Or.inr (by decide))).trans ((M285.2 131 12 (Or.inr (by decide))).trans M277.1)); omega) (by have q := congrArg Int32.toInt M25089.1; omega))⟩ dX12_skip_94
          refine r_icmp_le (tgt := 80) S dX12_skip_52 (by decide) (fun c25093 => ?_) (fun c25093 => ?_)
          ·
            exact J310 _ _ _ X286 (show NLp lm nb f223 from by unfold NLp; omega) (lv_sub hl [0] rfl)
          ·
            have r25094 : R (0) (939) v7 := ⟨by omega, by omega⟩
            have r25095 : R (1) (940) v4 := ⟨by omega, by omega⟩
            refine r_aload_n S dX12_skip_55 rfl (lv_at hl 0 rfl) ?_
            refine r_geti (K := 38) S X286 (Nat.le_of_ble_eq_true rfl) rfl lk12_21_10 (fun _ => ⟨_, rfl, rfl⟩) ((M285.2 131 4 (Or.inr (by decide))).trans ((M277.2 131 4 (Or.inr (by decide))).trans z225)) dX12_skip_56 ?_
            refine r_aload_n S dX12_skip_59 rfl (lv_at hl 0 rfl) ?_
            refine r_geti (K := 38) S X286 (Nat.le_of_ble_eq_true rfl) rfl lk12_24_10 (fun _ => ⟨_, rfl, rfl⟩) ((M285.2 131 5 (Or.inr (by decide))).trans ((M277.2 131 5 (Or.inr (by decide))).trans z227)) dX12_skip_60 ?_
            refine r_icmp_lt (tgt := 80) S dX12_skip_63 (by decide) (fun c25096 => ?_) (fun c25096 => ?_)
            ·
              have r25097 : R (0) (938) f223 := ⟨by omega, by omega⟩
              have r25098 : R (1) (939) v7 := ⟨by omega, by omega⟩
              exact J310 _ _ _ X286 (show NLp lm nb f223 from by unfold NLp; omega) (lv_sub hl [0] rfl)
            ·
              refine r_aload_n S dX12_skip_66 rfl (lv_at hl 0 rfl) ?_
              refine r_aload_n S dX12_skip_67 rfl (lv_at hl 0 rfl) ?_
              refine r_geti (K := 38) S X286 (Nat.le_of_ble_eq_true rfl) rfl lk12_24_10 (fun _ => ⟨_, rfl, rfl⟩) ((M285.2 131 5 (Or.inr (by decide))).trans ((M277.2 131 5 (Or.inr (by decide))).trans z227)) dX12_skip_68 ?_
              refine r_put (K := 38) (ty := .int) S X286 (Nat.le_of_ble_eq_true rfl) rfl lk12_151_10 (fun _ => ⟨_, rfl, Nat.le_of_ble_eq_true rfl, rfl⟩) (fun _ _ _ h => by cases h; exact ⟨rfl, rfl⟩) rfl rfl dX12_skip_71 (fun t25099 H lc M25100 X25101 => ?_)
              have I25102 := Inv_mu I287 M25100 (show Rg (kd 131) 12 v7 from (R_of (lo := 0) (hi := 940) r25094 rfl))
              have F25103 : Fr [(131, 4), (131, 11), (131, 12), (131, 13), (131, 14)] [331] τ t25099 := Fr_mu F288 M25100 (by decide)
              refine r_aload_n S dX12_skip_74 rfl (lv_at hl 0 rfl) ?_
              refine r_iconst S dX12_skip_75 (by decide) (fun v25104 z25105 => ?_)
              have r25106 := R_eq z25105
              refine r_put (K := 38) (ty := .int) S X25101 (Nat.le_of_ble_eq_true rfl) rfl lk12_157_10 (fun _ => ⟨_, rfl, Nat.le_of_ble_eq_true rfl, rfl⟩) (fun _ _ _ h => by cases h; exact ⟨rfl, rfl⟩) rfl rfl dX12_skip_76 (fun t25107 H lc M25108 X25109 => ?_)
              have I25110 := Inv_mu I25102 M25108 (show Rg (kd 131) 11 v25104 from (R_of (lo := 0) (hi := 4) r25106 rfl))
              have F25111 : Fr [(131, 4), (131, 11), (131, 12), (131, 13), (131, 14)] [331] τ t25107 := Fr_mu F25103 M25108 (by decide)
              exact r_vret S hr hlk X25109 ⟨I25110, F25111, (by rw [((M25108.2 131 4 (Or.inr (by decide))).trans ((M25100.2 131 4 (Or.inr (by decide))).trans ((M285.2 131 4 (Or.inr (by decide))).trans ((M277.2 131 4 (Or.inr (by decide))).trans z225))))]; exact R_of r224 rfl), (by rw [M25108.1]; exact R_of r25106 rfl), (by have h1_0 := congrArg Int32.toInt ((M25108.2 131 4 (Or.inr (by decide))).trans ((M25100.2 131 4 (Or.inr (by decide))).trans ((M285.2 131 4 (Or.inr (by decide))).trans ((M277.2 131 4 (Or.inr (by decide))).trans z225)))); have h2_0 := congrArg Int32.toInt z2; omega), (by have h1_0 := congrArg Int32.toInt ((M25108.2 131 4 (Or.inr (by decide))).trans ((M25100.2 131 4 (Or.inr (by decide))).trans ((M285.2 131 4 (Or.inr (by decide))).trans ((M277.2 131 4 (Or.inr (by decide))).trans z225)))); have h2_0 := congrArg Int32.toInt z2; have h1_1 := congrArg Int32.toInt M25108.1; omega), (MT_over (q := f223) (MB_eq hB (F25111 131 3 (by simp [fz])) (F25111 131 5 (by simp [fz])) (fun j => F25111 132 j (by simp [fz]))) (by omega) (by omega) x229 (by omega) (by have q := congrArg Int32.toInt ((M25108.2 131 12 (Or.inr (by decide))).trans M25100.1); omega) (by have q := congrArg Int32.toInt M25108.1; omega))⟩ dX12_skip_79
        ·
          have r25112 : R (10) (10) v266 := ⟨by omega, by omega⟩
          have p25113 := q269 (by omega)
          have r25114 : R (0) (939) f223 := z225 ▸ p25113
          have r25115 : R (0) (939) f223 := ⟨by omega, by omega⟩
          obtain ⟨e25116, e25117⟩ := PK_in pk271 (by omega)
          refine r_aload_n S dX12_skip_18 rfl (lv_at hl 0 rfl) ?_
          refine r_dup S dX12_skip_19 rfl ?_
          refine r_geti (K := 38) S X264 (Nat.le_of_ble_eq_true rfl) rfl lk12_21_10 (fun _ => ⟨_, rfl, rfl⟩) z225 dX12_skip_20 ?_
          refine r_iconst S dX12_skip_23 (by decide) (fun v25118 z25119 => ?_)
          have r25120 := R_eq z25119
          refine r_iadd S dX12_skip_24 (fun v25121 z25122 => ?_)
          obtain ⟨e25123, r25124⟩ := i_add (lo := 1) (hi := 940) z25122 r25115 r25120 rfl
          refine r_put (K := 38) (ty := .int) S X264 (Nat.le_of_ble_eq_true rfl) rfl lk12_21_10 (fun _ => ⟨_, rfl, Nat.le_of_ble_eq_true rfl, rfl⟩) (fun _ _ _ h => by cases h; exact ⟨rfl, rfl⟩) rfl rfl dX12_skip_25 (fun t25125 H lc M25126 X25127 => ?_)
          have I25128 := Inv_mu I220 M25126 (show Rg (kd 131) 4 v25121 from (R_of (lo := 0) (hi := 940) r25124 rfl))
          have F25129 : Fr [(131, 4), (131, 11), (131, 12), (131, 13), (131, 14)] [331] τ t25125 := Fr_mu F221 M25126 (by decide)
          refine r_goto (tgt := 0) S dX12_skip_28 (by decide) ?_
          exact ih231 t25125 _ _ _ v25121 X25127 I25128 F25129 M25126.1 ⟨by omega, by omega⟩ ((M25126.2 131 3 (Or.inr (by decide))).trans z226) ((M25126.2 131 5 (Or.inr (by decide))).trans z227) (spc_up (i := f223) x229 e25117.symm (by omega) (by omega) (by omega)) ⟨by omega, by omega⟩ (lv_sub hl [0] rfl) (by omega)
  exact L228 _ τ _ _ _ v1 X hI Fr_rfl z2 ⟨by omega, by omega⟩ z5 z8 (fun k h1 h2 => by exfalso; omega) ⟨by omega, by omega⟩ (lv_sub hl [0] rfl) (Nat.lt_succ_self _)
