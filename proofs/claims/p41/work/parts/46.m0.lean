def po_X12_skip_q (τ : Tau)    (bb : Nat → Int) (nb lm pp : Nat) (u : Tau) : Prop := Inv u ∧ Fr [(131, 4), (131, 11), (131, 12), (131, 13), (131, 14)] [331] τ u ∧ R (0) (940) (u 131 4) ∧ R (0) (4) (u 131 11) ∧ (τ 131 4).toInt ≤ (u 131 4).toInt ∧ (1 ≤ (u 131 11).toInt ∧ (u 131 11).toInt ≤ 3 → (τ 131 4).toInt < (u 131 4).toInt) ∧ MT bb nb lm u (lex bb nb lm pp)
set_option maxHeartbeats 4000000 in
set_option maxRecDepth 100000 in
theorem c_X12_skip_q (l : Launch) (G : Gx) (τ : Tau) (hI : Inv τ) (bb : Nat → Int) (nb lm pp : Nat) (hB : MBy bb nb lm τ) (hpp : (τ 131 4).toInt = pp) (hpn : pp ≤ nb) : Cv l G yX12_skip cX12_skip 4 1 20 [.ref (G.2.2.2.1 131)] τ (po_X12_skip_q τ    bb nb lm pp) := by
  unfold Cv
  refine C_of (own := RX12) (by decide) rfl (Nat.le_of_ble_eq_true rfl) ?_
  intro p e s m below meth c ls S hr hlk X hl
  have hl : lv_has ls 4 [(0, .ref (G.2.2.2.1 131))] := hl
  obtain ⟨v1, z2⟩ : ∃ x, τ 131 4 = x := ⟨_, rfl⟩
  have r3 : R (0) (940) v1 := rd hI rfl z2
  obtain ⟨v4, z5⟩ : ∃ x, τ 131 3 = x := ⟨_, rfl⟩
  have r6 : R (0) (940) v4 := rd hI rfl z5
  obtain ⟨v7, z8⟩ : ∃ x, τ 131 5 = x := ⟨_, rfl⟩
  have r9 : R (0) (940) v7 := rd hI rfl z8
  have e10 := hB.1
  have e11 := hB.2.1
  have e12 := hB.2.2.1
  have e13 := congrArg Int32.toInt z5
  have e14 := congrArg Int32.toInt z2
  have e15 := congrArg Int32.toInt z8
  have L228 : ∀ (n : Nat) (t219 : Tau) (H : Heap) (lc : List Loc) (ls : Array Slot) (f223 : Int32), Xd G s H lc t219 → Inv t219 → Fr [(131, 4), (131, 11), (131, 12), (131, 13), (131, 14)] [331] τ t219 → t219 131 4 = f223 → R (0) (940) f223 → t219 131 3 = v4 → t219 131 5 = v7 → (∀ k, pp ≤ k → k < (f223).toInt.toNat → spc (bb k)) → (pp : Int) ≤ (f223).toInt ∧ (f223).toInt ≤ nb → lv_has ls 4 [(0, .ref (G.2.2.2.1 131))] → (940 - f223.toInt).toNat < n → W p l e (Rm 1 20) s m ([.ref (G.2.2.2.1 131)] : List Value).toArray below meth c H lc 0 0 (MQ below (va_Qv (po_X12_skip_q τ    bb nb lm pp) (Bs G) G.2.2.2.2) ([.ref (G.2.2.2.1 131)] : List Value).toArray s 0 0 G.2.2.2.2) (F0 m 0 ls []) := by
    intro n
    induction n with
    | zero => intros; omega
    | succ n ih231 =>
      intro t219 H lc ls f223 X222 I220 F221 z225 r224 z226 z227 x229 x230 hl hm
      refine r_aload_n S dX12_skip_0 rfl (lv_at hl 0 rfl) ?_
      refine r_ki (q_V (As := []) (rest := []) (K := 38) (ci := 10) S X222 (c_X12_peek_x l G t219 I220 ) ck12_147 (Nat.le_of_ble_eq_true rfl) rfl (fun _ => ⟨_, rfl⟩) ⟨_, _, rfl⟩ ⟨Nat.le_of_ble_eq_true rfl, Nat.le_of_ble_eq_true rfl⟩ rfl hl.1 rfl (Nat.le_of_ble_eq_true rfl) dX12_skip_1 ⟨Nat.le_refl 0, Nat.le_refl 0⟩) X222 (fun v235 t234 H lc q232 X233 => ?_)
      unfold po_X12_peek_x at q232
      obtain ⟨q236, q237, q238, q239⟩ := q232
      rw [q236] at X233
      rw [q236] at q238
      rw [q236] at q239
      have pk240 : PKf bb nb f223 v235 := pk_b hB I220 (F221 131 3 (by simp [fz])) (fun j => F221 132 j (by simp [fz])) z225 (by omega) q239
      refine r_bipush S dX12_skip_4 (by decide) (fun v241 z242 => ?_)
      have r243 := R_eq z242
      refine r_icmp_eq (tgt := 18) S dX12_skip_6 (by decide) (fun c244 => ?_) (fun c244 => ?_)
      ·
        have r245 : R (32) (32) v235 := ⟨by omega, by omega⟩
        have p246 := q238 (by omega)
        have r247 : R (0) (939) f223 := z225 ▸ p246
        have r248 : R (0) (939) f223 := ⟨by omega, by omega⟩
        obtain ⟨e249, e250⟩ := PK_in pk240 (by omega)
        refine r_aload_n S dX12_skip_18 rfl (lv_at hl 0 rfl) ?_
        refine r_dup S dX12_skip_19 rfl ?_
        refine r_geti (K := 38) S X233 (Nat.le_of_ble_eq_true rfl) rfl lk12_21_10 (fun _ => ⟨_, rfl, rfl⟩) z225 dX12_skip_20 ?_
        refine r_iconst S dX12_skip_23 (by decide) (fun v251 z252 => ?_)
        have r253 := R_eq z252
        refine r_iadd S dX12_skip_24 (fun v254 z255 => ?_)
        obtain ⟨e256, r257⟩ := i_add (lo := 1) (hi := 940) z255 r248 r253 rfl
        refine r_put (K := 38) (ty := .int) S X233 (Nat.le_of_ble_eq_true rfl) rfl lk12_21_10 (fun _ => ⟨_, rfl, Nat.le_of_ble_eq_true rfl, rfl⟩) (fun _ _ _ h => by cases h; exact ⟨rfl, rfl⟩) rfl rfl dX12_skip_25 (fun t258 H lc M259 X260 => ?_)
        have I261 := Inv_mu I220 M259 (show Rg (kd 131) 4 v254 from (R_of (lo := 0) (hi := 940) r257 rfl))
        have F262 : Fr [(131, 4), (131, 11), (131, 12), (131, 13), (131, 14)] [331] τ t258 := Fr_mu F221 M259 (by decide)
        refine r_goto (tgt := 0) S dX12_skip_28 (by decide) ?_
        exact ih231 t258 _ _ _ v254 X260 I261 F262 M259.1 ⟨by omega, by omega⟩ ((M259.2 131 3 (Or.inr (by decide))).trans z226) ((M259.2 131 5 (Or.inr (by decide))).trans z227) (spc_up (i := f223) x229 e250.symm (by omega) (by omega) (by omega)) ⟨by omega, by omega⟩ (lv_sub hl [0] rfl) (by omega)
      ·
        refine r_aload_n S dX12_skip_9 rfl (lv_at hl 0 rfl) ?_
        refine r_ki (q_V (As := []) (rest := []) (K := 38) (ci := 10) S X233 (c_X12_peek_x l G t219 I220 ) ck12_147 (Nat.le_of_ble_eq_true rfl) rfl (fun _ => ⟨_, rfl⟩) ⟨_, _, rfl⟩ ⟨Nat.le_of_ble_eq_true rfl, Nat.le_of_ble_eq_true rfl⟩ rfl hl.1 rfl (Nat.le_of_ble_eq_true rfl) dX12_skip_10 ⟨Nat.le_refl 0, Nat.le_refl 0⟩) X233 (fun v266 t265 H lc q263 X264 => ?_)
        unfold po_X12_peek_x at q263
        obtain ⟨q267, q268, q269, q270⟩ := q263
        rw [q267] at X264
        rw [q267] at q269
        rw [q267] at q270
        have pk271 : PKf bb nb f223 v266 := pk_b hB I220 (F221 131 3 (by simp [fz])) (fun j => F221 132 j (by simp [fz])) z225 (by omega) q270
        refine r_bipush S dX12_skip_13 (by decide) (fun v272 z273 => ?_)
        have r274 := R_eq z273
        refine r_icmp_ne (tgt := 31) S dX12_skip_15 (by decide) (fun c275 => ?_) (fun c275 => ?_)
        ·
          refine r_aload_n S dX12_skip_31 rfl (lv_at hl 0 rfl) ?_
          refine r_aload_n S dX12_skip_32 rfl (lv_at hl 0 rfl) ?_
          refine r_geti (K := 38) S X264 (Nat.le_of_ble_eq_true rfl) rfl lk12_21_10 (fun _ => ⟨_, rfl, rfl⟩) z225 dX12_skip_33 ?_
          refine r_put (K := 38) (ty := .int) S X264 (Nat.le_of_ble_eq_true rfl) rfl lk12_151_10 (fun _ => ⟨_, rfl, Nat.le_of_ble_eq_true rfl, rfl⟩) (fun _ _ _ h => by cases h; exact ⟨rfl, rfl⟩) rfl rfl dX12_skip_36 (fun t276 H lc M277 X278 => ?_)
          have I279 := Inv_mu I220 M277 (show Rg (kd 131) 12 f223 from (R_of (lo := 0) (hi := 940) r224 rfl))
          have F280 : Fr [(131, 4), (131, 11), (131, 12), (131, 13), (131, 14)] [331] τ t276 := Fr_mu F221 M277 (by decide)
          refine r_aload_n S dX12_skip_39 rfl (lv_at hl 0 rfl) ?_
          refine r_iconst S dX12_skip_40 (by decide) (fun v281 z282 => ?_)
          have r283 := R_eq z282
          refine r_put (K := 38) (ty := .int) S X278 (Nat.le_of_ble_eq_true rfl) rfl lk12_154_10 (fun _ => ⟨_, rfl, Nat.le_of_ble_eq_true rfl, rfl⟩) (fun _ _ _ h => by cases h; exact ⟨rfl, rfl⟩) rfl rfl dX12_skip_41 (fun t284 H lc M285 X286 => ?_)
          have I287 := Inv_mu I279 M285 (show Rg (kd 131) 13 v281 from (R_of (lo := 0) (hi := 940) r283 rfl))
          have F288 : Fr [(131, 4), (131, 11), (131, 12), (131, 13), (131, 14)] [331] τ t284 := Fr_mu F280 M285 (by decide)
          refine r_aload_n S dX12_skip_44 rfl (lv_at hl 0 rfl) ?_
          refine r_geti (K := 38) S X286 (Nat.le_of_ble_eq_true rfl) rfl lk12_18_10 (fun _ => ⟨_, rfl, rfl⟩) ((M285.2 131 3 (Or.inr (by decide))).trans ((M277.2 131 3 (Or.inr (by decide))).trans z226)) dX12_skip_45 ?_
          refine r_aload_n S dX12_skip_48 rfl (lv_at hl 0 rfl) ?_
          refine r_geti (K := 38) S X286 (Nat.le_of_ble_eq_true rfl) rfl lk12_24_10 (fun _ => ⟨_, rfl, rfl⟩) ((M285.2 131 5 (Or.inr (by decide))).trans ((M277.2 131 5 (Or.inr (by decide))).trans z227)) dX12_skip_49 ?_
          refine r_icmp_le (tgt := 80) S dX12_skip_52 (by decide) (fun c289 => ?_) (fun c289 => ?_)
          ·
            refine r_aload_n S dX12_skip_80 rfl (lv_at hl 0 rfl) ?_
            refine r_ki (q_V (As := []) (rest := []) (K := 38) (ci := 10) S X286 (c_X12_peek_x l G t284 I287 ) ck12_147 (Nat.le_of_ble_eq_true rfl) rfl (fun _ => ⟨_, rfl⟩) ⟨_, _, rfl⟩ ⟨Nat.le_of_ble_eq_true rfl, Nat.le_of_ble_eq_true rfl⟩ rfl hl.1 rfl (Nat.le_of_ble_eq_true rfl) dX12_skip_81 ⟨Nat.le_refl 0, Nat.le_refl 0⟩) X286 (fun v293 t292 H lc q290 X291 => ?_)
            unfold po_X12_peek_x at q290
            obtain ⟨q294, q295, q296, q297⟩ := q290
            rw [q294] at X291
            rw [q294] at q296
            rw [q294] at q297
            have pk298 : PKf bb nb f223 v293 := pk_b hB I287 (F288 131 3 (by simp [fz])) (fun j => F288 132 j (by simp [fz])) ((M285.2 131 4 (Or.inr (by decide))).trans ((M277.2 131 4 (Or.inr (by decide))).trans z225)) (by omega) q297
            refine r_istore_n (lv' := [(1, .int v293), (0, .ref (G.2.2.2.1 131))]) S dX12_skip_84 rfl hl (by decide) rfl (fun ls hl => ?_)
            refine r_iload_n S dX12_skip_85 rfl (lv_at hl 0 rfl) ?_
            refine r_if_ge (tgt := 95) S dX12_skip_86 (by decide) (fun c299 => ?_) (fun c299 => ?_)
            ·
              have r300 : R (0) (255) v293 := ⟨by omega, by omega⟩
              have p301 := q296 (by omega)
              have r302 : R (0) (939) f223 := ((M285.2 131 4 (Or.inr (by decide))).trans ((M277.2 131 4 (Or.inr (by decide))).trans z225)) ▸ p301
              have r303 : R (0) (939) f223 := ⟨by omega, by omega⟩
              obtain ⟨e304, e305⟩ := PK_in pk298 (by omega)
              obtain ⟨e306, e307, e308⟩ := PK_at pk240 e304
              obtain ⟨e309, e310, e311⟩ := PK_at pk271 e304
              refine r_iload_n S dX12_skip_95 rfl (lv_at hl 0 rfl) ?_
              refine r_ki (q_S (As := [.int v293]) (rest := []) S X291 (c_X12_isSmall_x l G t284 I287 v293 (R_of (lo := -2147483648) (hi := 2147483647) r300 rfl)) ck12_160 ⟨Nat.le_of_ble_eq_true rfl, Nat.le_of_ble_eq_true rfl⟩ rfl hl.1 rfl (Nat.le_of_ble_eq_true rfl) dX12_skip_96 ⟨Nat.le_refl 0, Nat.le_refl 0⟩) X291 (fun v315 t314 H lc q312 X313 => ?_)
              unfold po_X12_isSmall_x at q312
              obtain ⟨q316, q317, q318, q319⟩ := q312
              rw [q316] at X313
              refine r_if_ne (tgt := 164) S dX12_skip_99 (by decide) (fun c320 => ?_) (fun c320 => ?_)
              ·
                have r321 : R (1) (1) v315 := ⟨by omega, by omega⟩
                have p322 := q318 (by omega)
                have r323 : R (97) (122) v293 := ⟨by omega, by omega⟩
                have p324 := q296 (by omega)
                have r325 : R (0) (939) f223 := ((M285.2 131 4 (Or.inr (by decide))).trans ((M277.2 131 4 (Or.inr (by decide))).trans z225)) ▸ p324
                have r326 : R (0) (939) f223 := ⟨by omega, by omega⟩
                refine r_iload_n S dX12_skip_164 rfl (lv_at hl 0 rfl) ?_
                refine r_ki (q_S (As := [.int v293]) (rest := []) S X313 (c_X12_isSmall_x l G t284 I287 v293 (R_of (lo := -2147483648) (hi := 2147483647) r323 rfl)) ck12_160 ⟨Nat.le_of_ble_eq_true rfl, Nat.le_of_ble_eq_true rfl⟩ rfl hl.1 rfl (Nat.le_of_ble_eq_true rfl) dX12_skip_165 ⟨Nat.le_refl 0, Nat.le_refl 0⟩) X313 (fun v330 t329 H lc q327 X328 => ?_)
                unfold po_X12_isSmall_x at q327
                obtain ⟨q331, q332, q333, q334⟩ := q327
                rw [q331] at X328
                refine r_istore_n (lv' := [(2, .int v330), (1, .int v293), (0, .ref (G.2.2.2.1 131))]) S dX12_skip_168 rfl hl (by decide) rfl (fun ls hl => ?_)
                refine r_iconst S dX12_skip_169 (by decide) (fun v335 z336 => ?_)
                have r337 := R_eq z336
                refine r_istore_n (lv' := [(3, .int v335), (2, .int v330), (1, .int v293), (0, .ref (G.2.2.2.1 131))]) S dX12_skip_170 rfl hl (by decide) rfl (fun ls hl => ?_)
                have hs338 : (v330.toInt = 1 ∧ low (bb f223.toInt.toNat)) ∨ (v330.toInt = 0 ∧ dig (bb f223.toInt.toNat)) := by omega
                refine r_aload_n S dX12_skip_171 rfl (lv_at hl 3 rfl) ?_
                refine lv_lconst S.1.1 S.1.2.1 dX12_skip_172 rfl ?_
                refine lv_topl (fun j339 z340 => ?_)
                refine r_putJ (K := 38) S X328 (Nat.le_of_ble_eq_true rfl) rfl lk12_170_10 (fun _ => ⟨_, rfl, Nat.le_of_ble_eq_true rfl, rfl⟩) (fun _ _ _ h => by cases h; exact ⟨rfl, rfl⟩) dX12_skip_173 (fun t342 H lc M343 X341 => ?_)
                have I344 := Inv_ml I287 M343
                have F345 : Fr [(131, 4), (131, 11), (131, 12), (131, 13), (131, 14)] [331] τ t342 := Fr_ml F288 M343 (by decide)
                refine r_aload_n S dX12_skip_176 rfl (lv_at hl 3 rfl) ?_
                refine r_iconst S dX12_skip_177 (by decide) (fun v346 z347 => ?_)
                have r348 := R_eq z347
                refine r_put (K := 38) (ty := .int) S X341 (Nat.le_of_ble_eq_true rfl) rfl lk12_167_10 (fun _ => ⟨_, rfl, Nat.le_of_ble_eq_true rfl, rfl⟩) (fun _ _ _ h => by cases h; exact ⟨rfl, rfl⟩) rfl rfl dX12_skip_178 (fun t349 H lc M350 X351 => ?_)
                have I352 := Inv_mu I344 M350 (R_any v346)
                have F353 : Fr [(131, 4), (131, 11), (131, 12), (131, 13), (131, 14)] [331] τ t349 := Fr_mu F345 M350 (by decide)
                have L31745 : ∀ (n : Nat) (t31729 : Tau) (H : Heap) (lc : List Loc) (ls : Array Slot) (i31727 : Int32) (f31733 : Int32) (f31739 : Int32) (f31742 : Int32), Xd G s H lc t31729 → Inv t31729 → Fr [(131, 4), (131, 11), (131, 12), (131, 13), (131, 14)] [331] τ t31729 → R (0) (1) i31727 → t31729 131 4 = f31733 → R (0) (940) f31733 → t31729 131 3 = v4 → t31729 131 5 = v7 → t31729 131 12 = f223 → t31729 131 13 = f31739 → R (0) (940) f31739 → t31729 131 14 = f31742 → R (-2147483648) (2147483647) f31742 → LM bb (f223).toInt.toNat (f31733).toInt.toNat (v330).toInt (i31727).toInt (f31739).toInt (qof t31729 131 17).toInt (f31742).toInt → (f31733).toInt ≤ nb → lv_has ls 4 [(0, .ref (G.2.2.2.1 131)), (2, .int v330), (3, .int i31727)] → (940 - f31733.toInt).toNat < n → W p l e (Rm 1 20) s m ([.ref (G.2.2.2.1 131)] : List Value).toArray below meth c H lc 0 0 (MQ below (va_Qv (po_X12_skip_q τ    bb nb lm pp) (Bs G) G.2.2.2.2) ([.ref (G.2.2.2.1 131)] : List Value).toArray s 0 0 G.2.2.2.2) (F0 m 181 ls []) := by
                  intro n
                  induction n with
                  | zero => intros; omega
                  | succ n ih31748 =>
                    intro t31729 H lc ls i31727 f31733 f31739 f31742 X31732 I31730 F31731 r31728 z31735 r31734 z31736 z31737 z31738 z31741 r31740 z31744 r31743 x31746 x31747 hl hm
                    obtain ⟨e31749, e31750⟩ := LM_b x31746
                    refine r_aload_n S dX12_skip_181 rfl (lv_at hl 0 rfl) ?_
                    refine r_ki (q_V (As := []) (rest := []) (K := 38) (ci := 10) S X31732 (c_X12_peek_x l G t31729 I31730 ) ck12_147 (Nat.le_of_ble_eq_true rfl) rfl (fun _ => ⟨_, rfl⟩) ⟨_, _, rfl⟩ ⟨Nat.le_of_ble_eq_true rfl, Nat.le_of_ble_eq_true rfl⟩ rfl hl.1 rfl (Nat.le_of_ble_eq_true rfl) dX12_skip_182 ⟨Nat.le_refl 0, Nat.le_refl 0⟩) X31732 (fun v31754 t31753 H lc q31751 X31752 => ?_)
                    unfold po_X12_peek_x at q31751
                    obtain ⟨q31755, q31756, q31757, q31758⟩ := q31751
                    rw [q31755] at X31752
                    rw [q31755] at q31757
                    rw [q31755] at q31758
                    have pk31759 : PKf bb nb f31733 v31754 := pk_b hB I31730 (F31731 131 3 (by simp [fz])) (fun j => F31731 132 j (by simp [fz])) z31735 (by omega) q31758
                    refine r_ki (q_S (As := [.int v31754]) (rest := []) S X31752 (c_X12_isSmall_x l G t31729 I31730 v31754 (R_of (lo := -2147483648) (hi := 2147483647) q31756 rfl)) ck12_160 ⟨Nat.le_of_ble_eq_true rfl, Nat.le_of_ble_eq_true rfl⟩ rfl hl.1 rfl (Nat.le_of_ble_eq_true rfl) dX12_skip_185 ⟨Nat.le_refl 0, Nat.le_refl 0⟩) X31752 (fun v31763 t31762 H lc q31760 X31761 => ?_)
                    unfold po_X12_isSmall_x at q31760
                    obtain ⟨q31764, q31765, q31766, q31767⟩ := q31760
                    rw [q31764] at X31761
                    refine r_if_ne (tgt := 201) S dX12_skip_188 (by decide) (fun c31768 => ?_) (fun c31768 => ?_)
                    ·
                      have r31769 : R (1) (1) v31763 := ⟨by omega, by omega⟩
                      have p31770 := q31766 (by omega)
                      have r31771 : R (97) (122) v31754 := ⟨by omega, by omega⟩
                      have p31772 := q31757 (by omega)
                      have r31773 : R (0) (939) f31733 := z31735 ▸ p31772
                      have r31774 : R (0) (939) f31733 := ⟨by omega, by omega⟩
                      obtain ⟨e31775, e31776⟩ := PK_in pk31759 (by omega)
                      obtain ⟨e31777, e31778, e31779⟩ := PK_at pk31759 e31775
                      refine r_iload_n S dX12_skip_201 rfl (lv_at hl 2 rfl) ?_
                      refine r_if_eq (tgt := 220) S dX12_skip_202 (by decide) (fun c31780 => ?_) (fun c31780 => ?_)
                      ·
                        have r31781 : R (0) (0) i31727 := ⟨by omega, by omega⟩
                        refine r_iconst S dX12_skip_220 (by decide) (fun v31782 z31783 => ?_)
                        have r31784 := R_eq z31783
                        refine r_istore_n (lv' := [(3, .int v31782), (0, .ref (G.2.2.2.1 131)), (2, .int v330)]) S dX12_skip_221 rfl hl (by decide) rfl (fun ls hl => ?_)
                        refine r_aload_n S dX12_skip_222 rfl (lv_at hl 1 rfl) ?_
                        refine r_geti (K := 38) S X31761 (Nat.le_of_ble_eq_true rfl) rfl lk12_154_10 (fun _ => ⟨_, rfl, rfl⟩) z31741 dX12_skip_223 ?_
                        refine r_bipush S dX12_skip_226 (by decide) (fun v31785 z31786 => ?_)
                        have r31787 := R_eq z31786
                        refine r_icmp_ge (tgt := 248) S dX12_skip_228 (by decide) (fun c31788 => ?_) (fun c31788 => ?_)
                        ·
                          have r31789 : R (7) (940) f31739 := ⟨by omega, by omega⟩
                          refine r_aload_n S dX12_skip_248 rfl (lv_at hl 1 rfl) ?_
                          refine r_geti (K := 38) S X31761 (Nat.le_of_ble_eq_true rfl) rfl lk12_154_10 (fun _ => ⟨_, rfl, rfl⟩) z31741 dX12_skip_249 ?_
                          refine r_iconst S dX12_skip_252 (by decide) (fun v31790 z31791 => ?_)
                          have r31792 := R_eq z31791
                          refine r_icmp_ge (tgt := 275) S dX12_skip_253 (by decide) (fun c31793 => ?_) (fun c31793 => ?_)
                          ·
                            refine r_aload_n S dX12_skip_275 rfl (lv_at hl 1 rfl) ?_
                            refine r_dup S dX12_skip_276 rfl ?_
                            refine r_geti (K := 38) S X31761 (Nat.le_of_ble_eq_true rfl) rfl lk12_154_10 (fun _ => ⟨_, rfl, rfl⟩) z31741 dX12_skip_277 ?_
                            refine r_iconst S dX12_skip_280 (by decide) (fun v31794 z31795 => ?_)
                            have r31796 := R_eq z31795
                            refine r_iadd S dX12_skip_281 (fun v31797 z31798 => ?_)
                            obtain ⟨e31799, r31800⟩ := i_add (lo := 8) (hi := 941) z31798 r31789 r31796 rfl
                            refine r_put (K := 38) (ty := .int) S X31761 (Nat.le_of_ble_eq_true rfl) rfl lk12_154_10 (fun _ => ⟨_, rfl, Nat.le_of_ble_eq_true rfl, rfl⟩) (fun _ _ _ h => by cases h; exact ⟨rfl, rfl⟩) rfl rfl dX12_skip_282 (fun t31801 H lc M31802 X31803 => ?_)
                            have I31804 := Inv_mu I31730 M31802 (show Rg (kd 131) 13 v31797 from (show R (0) (940) v31797 from ⟨by omega, by omega⟩))
                            have F31805 : Fr [(131, 4), (131, 11), (131, 12), (131, 13), (131, 14)] [331] τ t31801 := Fr_mu F31731 M31802 (by decide)
                            have r31806 : R (8) (940) v31797 := ⟨by omega, by omega⟩
                            refine r_aload_n S dX12_skip_285 rfl (lv_at hl 1 rfl) ?_
                            refine r_dup S dX12_skip_286 rfl ?_
                            refine r_geti (K := 38) S X31803 (Nat.le_of_ble_eq_true rfl) rfl lk12_21_10 (fun _ => ⟨_, rfl, rfl⟩) ((M31802.2 131 4 (Or.inr (by decide))).trans z31735) dX12_skip_287 ?_
                            refine r_iconst S dX12_skip_290 (by decide) (fun v31807 z31808 => ?_)
                            have r31809 := R_eq z31808
                            refine r_iadd S dX12_skip_291 (fun v31810 z31811 => ?_)
                            obtain ⟨e31812, r31813⟩ := i_add (lo := 1) (hi := 940) z31811 r31774 r31809 rfl
                            refine r_put (K := 38) (ty := .int) S X31803 (Nat.le_of_ble_eq_true rfl) rfl lk12_21_10 (fun _ => ⟨_, rfl, Nat.le_of_ble_eq_true rfl, rfl⟩) (fun _ _ _ h => by cases h; exact ⟨rfl, rfl⟩) rfl rfl dX12_skip_292 (fun t31814 H lc M31815 X31816 => ?_)
                            have I31817 := Inv_mu I31804 M31815 (show Rg (kd 131) 4 v31810 from (R_of (lo := 0) (hi := 940) r31813 rfl))
                            have F31818 : Fr [(131, 4), (131, 11), (131, 12), (131, 13), (131, 14)] [331] τ t31814 := Fr_mu F31805 M31815 (by decide)
                            refine r_goto (tgt := 181) S dX12_skip_295 (by decide) ?_
                            exact ih31748 t31814 _ _ _ v31782 v31810 v31797 f31742 X31816 I31817 F31818 (R_of r31784 rfl) M31815.1 ⟨by omega, by omega⟩ ((M31815.2 131 3 (Or.inr (by decide))).trans ((M31802.2 131 3 (Or.inr (by decide))).trans z31736)) ((M31815.2 131 5 (Or.inr (by decide))).trans ((M31802.2 131 5 (Or.inr (by decide))).trans z31737)) ((M31815.2 131 12 (Or.inr (by decide))).trans ((M31802.2 131 12 (Or.inr (by decide))).trans z31738)) ((M31815.2 131 13 (Or.inr (by decide))).trans M31802.1) ⟨by omega, by omega⟩ ((M31815.2 131 14 (Or.inr (by decide))).trans ((M31802.2 131 14 (Or.inr (by decide))).trans z31744)) ⟨by omega, by omega⟩ (by rw [(qof_of (k := 131) (fun j => ((M31815.2 331 j (Or.inl (by decide))).trans ((M31802.2 331 j (Or.inl (by decide))).trans rfl))) 17)]; exact LM_upq (i := f31733) (sp := f31739) (al := i31727) x31746 hs338 (by omega) (by omega) (fun _ _ h => by exfalso; omega) (fun _ _ h => by exfalso; omega) (by omega) (by omega) (by omega)) (by omega) (lv_sub hl [1, 2, 0] rfl) (by omega)
                          ·
                            exfalso; omega
                        ·
                          have r31819 : R (0) (6) f31739 := ⟨by omega, by omega⟩
                          refine r_aload_n S dX12_skip_231 rfl (lv_at hl 1 rfl) ?_
                          refine r_aload_n S dX12_skip_232 rfl (lv_at hl 1 rfl) ?_
                          refine r_getJ (K := 38) S X31761 (Nat.le_of_ble_eq_true rfl) rfl lk12_170_10 (fun _ => ⟨_, rfl, rfl⟩) dX12_skip_233 (fun j31820 z31821 => ?_)
                          refine r_bipush S dX12_skip_236 (by decide) (fun v31822 z31823 => ?_)
                          have r31824 := R_eq z31823
                          refine lv_lshl S.1.1 S.1.2.1 dX12_skip_238 rfl ?_
                          refine lv_topl (fun j31825 z31826 => ?_)
                          refine r_aload_n S dX12_skip_239 rfl (lv_at hl 1 rfl) ?_
                          refine r_ki (q_V (As := []) (rest := [.long j31825, .ref (G.2.2.2.1 131)]) (K := 38) (ci := 10) S X31761 (c_X12_peek_x l G t31729 I31730 ) ck12_147 (Nat.le_of_ble_eq_true rfl) rfl (fun _ => ⟨_, rfl⟩) ⟨_, _, rfl⟩ ⟨Nat.le_of_ble_eq_true rfl, Nat.le_of_ble_eq_true rfl⟩ rfl hl.1 rfl (Nat.le_of_ble_eq_true rfl) dX12_skip_240 ⟨Nat.le_refl 0, Nat.le_refl 0⟩) X31761 (fun v31830 t31829 H lc q31827 X31828 => ?_)
                          unfold po_X12_peek_x at q31827
                          obtain ⟨q31831, q31832, q31833, q31834⟩ := q31827
                          rw [q31831] at X31828
                          rw [q31831] at q31833
                          rw [q31831] at q31834
                          have pk31835 : PKf bb nb f31733 v31830 := pk_b hB I31730 (F31731 131 3 (by simp [fz])) (fun j => F31731 132 j (by simp [fz])) z31735 (by omega) q31834
                          obtain ⟨e31836, e31837, e31838⟩ := PK_at pk31835 (by omega)
                          refine lv_i2l S.1.1 S.1.2.1 dX12_skip_243 rfl ?_
                          refine lv_topl (fun j31839 z31840 => ?_)
                          refine lv_lor S.1.1 S.1.2.1 dX12_skip_244 ?_
                          refine lv_topl (fun j31841 z31842 => ?_)
                          refine r_putJ (K := 38) S X31828 (Nat.le_of_ble_eq_true rfl) rfl lk12_170_10 (fun _ => ⟨_, rfl, Nat.le_of_ble_eq_true rfl, rfl⟩) (fun _ _ _ h => by cases h; exact ⟨rfl, rfl⟩) dX12_skip_245 (fun t31844 H lc M31845 X31843 => ?_)
                          have I31846 := Inv_ml I31730 M31845
                          have F31847 : Fr [(131, 4), (131, 11), (131, 12), (131, 13), (131, 14)] [331] τ t31844 := Fr_ml F31731 M31845 (by decide)
                          refine r_aload_n S dX12_skip_248 rfl (lv_at hl 1 rfl) ?_
                          refine r_geti (K := 38) S X31843 (Nat.le_of_ble_eq_true rfl) rfl lk12_154_10 (fun _ => ⟨_, rfl, rfl⟩) ((M31845.1 131 (by decide) 13).trans z31741) dX12_skip_249 ?_
                          refine r_iconst S dX12_skip_252 (by decide) (fun v31848 z31849 => ?_)
                          have r31850 := R_eq z31849
                          refine r_icmp_ge (tgt := 275) S dX12_skip_253 (by decide) (fun c31851 => ?_) (fun c31851 => ?_)
                          ·
                            have r31852 : R (2) (6) f31739 := ⟨by omega, by omega⟩
                            refine r_aload_n S dX12_skip_275 rfl (lv_at hl 1 rfl) ?_
                            refine r_dup S dX12_skip_276 rfl ?_
                            refine r_geti (K := 38) S X31843 (Nat.le_of_ble_eq_true rfl) rfl lk12_154_10 (fun _ => ⟨_, rfl, rfl⟩) ((M31845.1 131 (by decide) 13).trans z31741) dX12_skip_277 ?_
                            refine r_iconst S dX12_skip_280 (by decide) (fun v31853 z31854 => ?_)
                            have r31855 := R_eq z31854
                            refine r_iadd S dX12_skip_281 (fun v31856 z31857 => ?_)
                            obtain ⟨e31858, r31859⟩ := i_add (lo := 3) (hi := 7) z31857 r31852 r31855 rfl
                            refine r_put (K := 38) (ty := .int) S X31843 (Nat.le_of_ble_eq_true rfl) rfl lk12_154_10 (fun _ => ⟨_, rfl, Nat.le_of_ble_eq_true rfl, rfl⟩) (fun _ _ _ h => by cases h; exact ⟨rfl, rfl⟩) rfl rfl dX12_skip_282 (fun t31860 H lc M31861 X31862 => ?_)
                            have I31863 := Inv_mu I31846 M31861 (show Rg (kd 131) 13 v31856 from (R_of (lo := 0) (hi := 940) r31859 rfl))
                            have F31864 : Fr [(131, 4), (131, 11), (131, 12), (131, 13), (131, 14)] [331] τ t31860 := Fr_mu F31847 M31861 (by decide)
                            refine r_aload_n S dX12_skip_285 rfl (lv_at hl 1 rfl) ?_
                            refine r_dup S dX12_skip_286 rfl ?_
                            refine r_geti (K := 38) S X31862 (Nat.le_of_ble_eq_true rfl) rfl lk12_21_10 (fun _ => ⟨_, rfl, rfl⟩) ((M31861.2 131 4 (Or.inr (by decide))).trans ((M31845.1 131 (by decide) 4).trans z31735)) dX12_skip_287 ?_
                            refine r_iconst S dX12_skip_290 (by decide) (fun v31865 z31866 => ?_)
                            have r31867 := R_eq z31866
                            refine r_iadd S dX12_skip_291 (fun v31868 z31869 => ?_)
                            obtain ⟨e31870, r31871⟩ := i_add (lo := 1) (hi := 940) z31869 r31774 r31867 rfl
                            refine r_put (K := 38) (ty := .int) S X31862 (Nat.le_of_ble_eq_true rfl) rfl lk12_21_10 (fun _ => ⟨_, rfl, Nat.le_of_ble_eq_true rfl, rfl⟩) (fun _ _ _ h => by cases h; exact ⟨rfl, rfl⟩) rfl rfl dX12_skip_292 (fun t31872 H lc M31873 X31874 => ?_)
                            have I31875 := Inv_mu I31863 M31873 (show Rg (kd 131) 4 v31868 from (R_of (lo := 0) (hi := 940) r31871 rfl))
                            have F31876 : Fr [(131, 4), (131, 11), (131, 12), (131, 13), (131, 14)] [331] τ t31872 := Fr_mu F31864 M31873 (by decide)
                            refine r_goto (tgt := 181) S dX12_skip_295 (by decide) ?_
                            exact ih31748 t31872 _ _ _ v31782 v31868 v31856 f31742 X31874 I31875 F31876 (R_of r31784 rfl) M31873.1 ⟨by omega, by omega⟩ ((M31873.2 131 3 (Or.inr (by decide))).trans ((M31861.2 131 3 (Or.inr (by decide))).trans ((M31845.1 131 (by decide) 3).trans z31736))) ((M31873.2 131 5 (Or.inr (by decide))).trans ((M31861.2 131 5 (Or.inr (by decide))).trans ((M31845.1 131 (by decide) 5).trans z31737))) ((M31873.2 131 12 (Or.inr (by decide))).trans ((M31861.2 131 12 (Or.inr (by decide))).trans ((M31845.1 131 (by decide) 12).trans z31738))) ((M31873.2 131 13 (Or.inr (by decide))).trans M31861.1) ⟨by omega, by omega⟩ ((M31873.2 131 14 (Or.inr (by decide))).trans ((M31861.2 131 14 (Or.inr (by decide))).trans ((M31845.1 131 (by decide) 14).trans z31744))) ⟨by omega, by omega⟩ (LM_upq (i := f31733) (sp := f31739) (al := i31727) x31746 hs338 (by omega) (by omega) (LM_hw (x := v31830) (y := v31822) x31746 z31821 (by omega) (by rw [z31842, z31826, z31840]) ((qof_of (k := 131) (fun j => ((M31873.2 331 j (Or.inl (by decide))).trans ((M31861.2 331 j (Or.inl (by decide))).trans rfl))) 17).trans (Ml_upd M31845)) (by omega) (by omega)) (fun _ _ h => by exfalso; omega) (by omega) (by omega) (by omega)) (by omega) (lv_sub hl [1, 2, 0] rfl) (by omega)
                          ·
                            have r31877 : R (0) (1) f31739 := ⟨by omega, by omega⟩
                            refine r_aload_n S dX12_skip_256 rfl (lv_at hl 1 rfl) ?_
                            refine r_bipush S dX12_skip_257 (by decide) (fun v31878 z31879 => ?_)
                            have r31880 := R_eq z31879
                            refine r_aload_n S dX12_skip_259 rfl (lv_at hl 1 rfl) ?_
                            refine r_geti (K := 38) S X31843 (Nat.le_of_ble_eq_true rfl) rfl lk12_167_10 (fun _ => ⟨_, rfl, rfl⟩) ((M31845.1 131 (by decide) 14).trans z31744) dX12_skip_260 ?_
                            refine r_imul S dX12_skip_263 (fun v31881 z31882 => ?_)
                            have r31883 := R_any v31881
                            refine r_aload_n S dX12_skip_264 rfl (lv_at hl 1 rfl) ?_
                            refine r_ki (q_V (As := []) (rest := [.int v31881, .ref (G.2.2.2.1 131)]) (K := 38) (ci := 10) S X31843 (c_X12_peek_x l G t31844 I31846 ) ck12_147 (Nat.le_of_ble_eq_true rfl) rfl (fun _ => ⟨_, rfl⟩) ⟨_, _, rfl⟩ ⟨Nat.le_of_ble_eq_true rfl, Nat.le_of_ble_eq_true rfl⟩ rfl hl.1 rfl (Nat.le_of_ble_eq_true rfl) dX12_skip_265 ⟨Nat.le_refl 0, Nat.le_refl 0⟩) X31843 (fun v31887 t31886 H lc q31884 X31885 => ?_)
                            unfold po_X12_peek_x at q31884
                            obtain ⟨q31888, q31889, q31890, q31891⟩ := q31884
                            rw [q31888] at X31885
                            rw [q31888] at q31890
                            rw [q31888] at q31891
                            have pk31892 : PKf bb nb f31733 v31887 := pk_b hB I31846 (F31847 131 3 (by simp [fz])) (fun j => F31847 132 j (by simp [fz])) ((M31845.1 131 (by decide) 4).trans z31735) (by omega) q31891
                            obtain ⟨e31893, e31894, e31895⟩ := PK_at pk31892 (by omega)
                            refine r_iadd S dX12_skip_268 (fun v31896 z31897 => ?_)
                            have r31898 := R_any v31896
                            refine r_bipush S dX12_skip_269 (by decide) (fun v31899 z31900 => ?_)
                            have r31901 := R_eq z31900
                            refine r_isub S dX12_skip_271 (fun v31902 z31903 => ?_)
                            have r31904 := R_any v31902
                            refine r_put (K := 38) (ty := .int) S X31885 (Nat.le_of_ble_eq_true rfl) rfl lk12_167_10 (fun _ => ⟨_, rfl, Nat.le_of_ble_eq_true rfl, rfl⟩) (fun _ _ _ h => by cases h; exact ⟨rfl, rfl⟩) rfl rfl dX12_skip_272 (fun t31905 H lc M31906 X31907 => ?_)
                            have I31908 := Inv_mu I31846 M31906 (R_any v31902)
                            have F31909 : Fr [(131, 4), (131, 11), (131, 12), (131, 13), (131, 14)] [331] τ t31905 := Fr_mu F31847 M31906 (by decide)
                            refine r_aload_n S dX12_skip_275 rfl (lv_at hl 1 rfl) ?_
                            refine r_dup S dX12_skip_276 rfl ?_
                            refine r_geti (K := 38) S X31907 (Nat.le_of_ble_eq_true rfl) rfl lk12_154_10 (fun _ => ⟨_, rfl, rfl⟩) ((M31906.2 131 13 (Or.inr (by decide))).trans ((M31845.1 131 (by decide) 13).trans z31741)) dX12_skip_277 ?_
                            refine r_iconst S dX12_skip_280 (by decide) (fun v31910 z31911 => ?_)
                            have r31912 := R_eq z31911
                            refine r_iadd S dX12_skip_281 (fun v31913 z31914 => ?_)
                            obtain ⟨e31915, r31916⟩ := i_add (lo := 1) (hi := 2) z31914 r31877 r31912 rfl
                            refine r_put (K := 38) (ty := .int) S X31907 (Nat.le_of_ble_eq_true rfl) rfl lk12_154_10 (fun _ => ⟨_, rfl, Nat.le_of_ble_eq_true rfl, rfl⟩) (fun _ _ _ h => by cases h; exact ⟨rfl, rfl⟩) rfl rfl dX12_skip_282 (fun t31917 H lc M31918 X31919 => ?_)
                            have I31920 := Inv_mu I31908 M31918 (show Rg (kd 131) 13 v31913 from (R_of (lo := 0) (hi := 940) r31916 rfl))
                            have F31921 : Fr [(131, 4), (131, 11), (131, 12), (131, 13), (131, 14)] [331] τ t31917 := Fr_mu F31909 M31918 (by decide)
                            refine r_aload_n S dX12_skip_285 rfl (lv_at hl 1 rfl) ?_
                            refine r_dup S dX12_skip_286 rfl ?_
                            refine r_geti (K := 38) S X31919 (Nat.le_of_ble_eq_true rfl) rfl lk12_21_10 (fun _ => ⟨_, rfl, rfl⟩) ((M31918.2 131 4 (Or.inr (by decide))).trans ((M31906.2 131 4 (Or.inr (by decide))).trans ((M31845.1 131 (by decide) 4).trans z31735))) dX12_skip_287 ?_
                            refine r_iconst S dX12_skip_290 (by decide) (fun v31922 z31923 => ?_)
                            have r31924 := R_eq z31923
                            refine r_iadd S dX12_skip_291 (fun v31925 z31926 => ?_)
                            obtain ⟨e31927, r31928⟩ := i_add (lo := 1) (hi := 940) z31926 r31774 r31924 rfl
                            refine r_put (K := 38) (ty := .int) S X31919 (Nat.le_of_ble_eq_true rfl) rfl lk12_21_10 (fun _ => ⟨_, rfl, Nat.le_of_ble_eq_true rfl, rfl⟩) (fun _ _ _ h => by cases h; exact ⟨rfl, rfl⟩) rfl rfl dX12_skip_292 (fun t31929 H lc M31930 X31931 => ?_)
                            have I31932 := Inv_mu I31920 M31930 (show Rg (kd 131) 4 v31925 from (R_of (lo := 0) (hi := 940) r31928 rfl))
                            have F31933 : Fr [(131, 4), (131, 11), (131, 12), (131, 13), (131, 14)] [331] τ t31929 := Fr_mu F31921 M31930 (by decide)
                            refine r_goto (tgt := 181) S dX12_skip_295 (by decide) ?_
                            exact ih31748 t31929 _ _ _ v31782 v31925 v31913 v31902 X31931 I31932 F31933 (R_of r31784 rfl) M31930.1 ⟨by omega, by omega⟩ ((M31930.2 131 3 (Or.inr (by decide))).trans ((M31918.2 131 3 (Or.inr (by decide))).trans ((M31906.2 131 3 (Or.inr (by decide))).trans ((M31845.1 131 (by decide) 3).trans z31736)))) ((M31930.2 131 5 (Or.inr (by decide))).trans ((M31918.2 131 5 (Or.inr (by decide))).trans ((M31906.2 131 5 (Or.inr (by decide))).trans ((M31845.1 131 (by decide) 5).trans z31737)))) ((M31930.2 131 12 (Or.inr (by decide))).trans ((M31918.2 131 12 (Or.inr (by decide))).trans ((M31906.2 131 12 (Or.inr (by decide))).trans ((M31845.1 131 (by decide) 12).trans z31738)))) ((M31930.2 131 13 (Or.inr (by decide))).trans M31918.1) ⟨by omega, by omega⟩ ((M31930.2 131 14 (Or.inr (by decide))).trans ((M31918.2 131 14 (Or.inr (by decide))).trans M31906.1)) ⟨by omega, by omega⟩ (LM_upq (i := f31733) (sp := f31739) (al := i31727) x31746 hs338 (by omega) (by omega) (LM_hw (x := v31830) (y := v31822) x31746 z31821 (by omega) (by rw [z31842, z31826, z31840]) ((qof_of (k := 131) (fun j => ((M31930.2 331 j (Or.inl (by decide))).trans ((M31918.2 331 j (Or.inl (by decide))).trans ((M31906.2 331 j (Or.inl (by decide))).trans rfl)))) 17).trans (Ml_upd M31845)) (by omega) (by omega)) (LM_hn (c := v31878) (x := v31887) (d := v31899) x31746 (by omega) z31882 z31897 (by omega) z31903 (by omega) (by omega)) (by omega) (by omega) (by omega)) (by omega) (lv_sub hl [1, 2, 0] rfl) (by omega)
                      ·
                        have r31934 : R (1) (1) i31727 := ⟨by omega, by omega⟩
                        refine r_aload_n S dX12_skip_205 rfl (lv_at hl 0 rfl) ?_
                        refine r_ki (q_V (As := []) (rest := []) (K := 38) (ci := 10) S X31761 (c_X12_peek_x l G t31729 I31730 ) ck12_147 (Nat.le_of_ble_eq_true rfl) rfl (fun _ => ⟨_, rfl⟩) ⟨_, _, rfl⟩ ⟨Nat.le_of_ble_eq_true rfl, Nat.le_of_ble_eq_true rfl⟩ rfl hl.1 rfl (Nat.le_of_ble_eq_true rfl) dX12_skip_206 ⟨Nat.le_refl 0, Nat.le_refl 0⟩) X31761 (fun v31938 t31937 H lc q31935 X31936 => ?_)
                        unfold po_X12_peek_x at q31935
                        obtain ⟨q31939, q31940, q31941, q31942⟩ := q31935
                        rw [q31939] at X31936
                        rw [q31939] at q31941
                        rw [q31939] at q31942
                        have pk31943 : PKf bb nb f31733 v31938 := pk_b hB I31730 (F31731 131 3 (by simp [fz])) (fun j => F31731 132 j (by simp [fz])) z31735 (by omega) q31942
                        obtain ⟨e31944, e31945, e31946⟩ := PK_at pk31943 (by omega)
                        refine r_ki (q_S (As := [.int v31938]) (rest := []) S X31936 (c_X12_isSmall_x l G t31729 I31730 v31938 (R_of (lo := -2147483648) (hi := 2147483647) q31940 rfl)) ck12_160 ⟨Nat.le_of_ble_eq_true rfl, Nat.le_of_ble_eq_true rfl⟩ rfl hl.1 rfl (Nat.le_of_ble_eq_true rfl) dX12_skip_209 ⟨Nat.le_refl 0, Nat.le_refl 0⟩) X31936 (fun v31950 t31949 H lc q31947 X31948 => ?_)
                        unfold po_X12_isSmall_x at q31947
                        obtain ⟨q31951, q31952, q31953, q31954⟩ := q31947
                        rw [q31951] at X31948
                        refine r_iload_n S dX12_skip_212 rfl (lv_at hl 1 rfl) ?_
                        refine r_icmp_ne (tgt := 220) S dX12_skip_213 (by decide) (fun c31955 => ?_) (fun c31955 => ?_)
                        ·
                          refine r_iconst S dX12_skip_220 (by decide) (fun v31956 z31957 => ?_)
                          have r31958 := R_eq z31957
                          refine r_istore_n (lv' := [(3, .int v31956), (0, .ref (G.2.2.2.1 131)), (2, .int v330)]) S dX12_skip_221 rfl hl (by decide) rfl (fun ls hl => ?_)
                          refine r_aload_n S dX12_skip_222 rfl (lv_at hl 1 rfl) ?_
                          refine r_geti (K := 38) S X31948 (Nat.le_of_ble_eq_true rfl) rfl lk12_154_10 (fun _ => ⟨_, rfl, rfl⟩) z31741 dX12_skip_223 ?_
                          refine r_bipush S dX12_skip_226 (by decide) (fun v31959 z31960 => ?_)
                          have r31961 := R_eq z31960
                          refine r_icmp_ge (tgt := 248) S dX12_skip_228 (by decide) (fun c31962 => ?_) (fun c31962 => ?_)
                          ·
                            have r31963 : R (7) (940) f31739 := ⟨by omega, by omega⟩
                            refine r_aload_n S dX12_skip_248 rfl (lv_at hl 1 rfl) ?_
                            refine r_geti (K := 38) S X31948 (Nat.le_of_ble_eq_true rfl) rfl lk12_154_10 (fun _ => ⟨_, rfl, rfl⟩) z31741 dX12_skip_249 ?_
                            refine r_iconst S dX12_skip_252 (by decide) (fun v31964 z31965 => ?_)
                            have r31966 := R_eq z31965
                            refine r_icmp_ge (tgt := 275) S dX12_skip_253 (by decide) (fun c31967 => ?_) (fun c31967 => ?_)
                            ·
                              refine r_aload_n S dX12_skip_275 rfl (lv_at hl 1 rfl) ?_
                              refine r_dup S dX12_skip_276 rfl ?_
                              refine r_geti (K := 38) S X31948 (Nat.le_of_ble_eq_true rfl) rfl lk12_154_10 (fun _ => ⟨_, rfl, rfl⟩) z31741 dX12_skip_277 ?_
                              refine r_iconst S dX12_skip_280 (by decide) (fun v31968 z31969 => ?_)
                              have r31970 := R_eq z31969
                              refine r_iadd S dX12_skip_281 (fun v31971 z31972 => ?_)
                              obtain ⟨e31973, r31974⟩ := i_add (lo := 8) (hi := 941) z31972 r31963 r31970 rfl
                              refine r_put (K := 38) (ty := .int) S X31948 (Nat.le_of_ble_eq_true rfl) rfl lk12_154_10 (fun _ => ⟨_, rfl, Nat.le_of_ble_eq_true rfl, rfl⟩) (fun _ _ _ h => by cases h; exact ⟨rfl, rfl⟩) rfl rfl dX12_skip_282 (fun t31975 H lc M31976 X31977 => ?_)
                              have I31978 := Inv_mu I31730 M31976 (show Rg (kd 131) 13 v31971 from (show R (0) (940) v31971 from ⟨by omega, by omega⟩))
                              have F31979 : Fr [(131, 4), (131, 11), (131, 12), (131, 13), (131, 14)] [331] τ t31975 := Fr_mu F31731 M31976 (by decide)
                              have r31980 : R (8) (940) v31971 := ⟨by omega, by omega⟩
                              refine r_aload_n S dX12_skip_285 rfl (lv_at hl 1 rfl) ?_
                              refine r_dup S dX12_skip_286 rfl ?_
                              refine r_geti (K := 38) S X31977 (Nat.le_of_ble_eq_true rfl) rfl lk12_21_10 (fun _ => ⟨_, rfl, rfl⟩) ((M31976.2 131 4 (Or.inr (by decide))).trans z31735) dX12_skip_287 ?_
                              refine r_iconst S dX12_skip_290 (by decide) (fun v31981 z31982 => ?_)
                              have r31983 := R_eq z31982
                              refine r_iadd S dX12_skip_291 (fun v31984 z31985 => ?_)
                              obtain ⟨e31986, r31987⟩ := i_add (lo := 1) (hi := 940) z31985 r31774 r31983 rfl
                              refine r_put (K := 38) (ty := .int) S X31977 (Nat.le_of_ble_eq_true rfl) rfl lk12_21_10 (fun _ => ⟨_, rfl, Nat.le_of_ble_eq_true rfl, rfl⟩) (fun _ _ _ h => by cases h; exact ⟨rfl, rfl⟩) rfl rfl dX12_skip_292 (fun t31988 H lc M31989 X31990 => ?_)
                              have I31991 := Inv_mu I31978 M31989 (show Rg (kd 131) 4 v31984 from (R_of (lo := 0) (hi := 940) r31987 rfl))
                              have F31992 : Fr [(131, 4), (131, 11), (131, 12), (131, 13), (131, 14)] [331] τ t31988 := Fr_mu F31979 M31989 (by decide)
                              refine r_goto (tgt := 181) S dX12_skip_295 (by decide) ?_
                              exact ih31748 t31988 _ _ _ v31956 v31984 v31971 f31742 X31990 I31991 F31992 (R_of r31958 rfl) M31989.1 ⟨by omega, by omega⟩ ((M31989.2 131 3 (Or.inr (by decide))).trans ((M31976.2 131 3 (Or.inr (by decide))).trans z31736)) ((M31989.2 131 5 (Or.inr (by decide))).trans ((M31976.2 131 5 (Or.inr (by decide))).trans z31737)) ((M31989.2 131 12 (Or.inr (by decide))).trans ((M31976.2 131 12 (Or.inr (by decide))).trans z31738)) ((M31989.2 131 13 (Or.inr (by decide))).trans M31976.1) ⟨by omega, by omega⟩ ((M31989.2 131 14 (Or.inr (by decide))).trans ((M31976.2 131 14 (Or.inr (by decide))).trans z31744)) ⟨by omega, by omega⟩ (by rw [(qof_of (k := 131) (fun j => ((M31989.2 331 j (Or.inl (by decide))).trans ((M31976.2 331 j (Or.inl (by decide))).trans rfl))) 17)]; exact LM_upq (i := f31733) (sp := f31739) (al := i31727) x31746 hs338 (by omega) (by omega) (fun _ _ h => by exfalso; omega) (fun _ _ h => by exfalso; omega) (by omega) (by omega) (by omega)) (by omega) (lv_sub hl [1, 2, 0] rfl) (by omega)
                            ·
                              exfalso; omega
                          ·
                            have r31993 : R (0) (6) f31739 := ⟨by omega, by omega⟩
                            refine r_aload_n S dX12_skip_231 rfl (lv_at hl 1 rfl) ?_
                            refine r_aload_n S dX12_skip_232 rfl (lv_at hl 1 rfl) ?_
                            refine r_getJ (K := 38) S X31948 (Nat.le_of_ble_eq_true rfl) rfl lk12_170_10 (fun _ => ⟨_, rfl, rfl⟩) dX12_skip_233 (fun j31994 z31995 => ?_)
                            refine r_bipush S dX12_skip_236 (by decide) (fun v31996 z31997 => ?_)
                            have r31998 := R_eq z31997
                            refine lv_lshl S.1.1 S.1.2.1 dX12_skip_238 rfl ?_
                            refine lv_topl (fun j31999 z32000 => ?_)
                            refine r_aload_n S dX12_skip_239 rfl (lv_at hl 1 rfl) ?_
                            refine r_ki (q_V (As := []) (rest := [.long j31999, .ref (G.2.2.2.1 131)]) (K := 38) (ci := 10) S X31948 (c_X12_peek_x l G t31729 I31730 ) ck12_147 (Nat.le_of_ble_eq_true rfl) rfl (fun _ => ⟨_, rfl⟩) ⟨_, _, rfl⟩ ⟨Nat.le_of_ble_eq_true rfl, Nat.le_of_ble_eq_true rfl⟩ rfl hl.1 rfl (Nat.le_of_ble_eq_true rfl) dX12_skip_240 ⟨Nat.le_refl 0, Nat.le_refl 0⟩) X31948 (fun v32004 t32003 H lc q32001 X32002 => ?_)
                            unfold po_X12_peek_x at q32001
                            obtain ⟨q32005, q32006, q32007, q32008⟩ := q32001
                            rw [q32005] at X32002
                            rw [q32005] at q32007
                            rw [q32005] at q32008
                            have pk32009 : PKf bb nb f31733 v32004 := pk_b hB I31730 (F31731 131 3 (by simp [fz])) (fun j => F31731 132 j (by simp [fz])) z31735 (by omega) q32008
                            obtain ⟨e32010, e32011, e32012⟩ := PK_at pk32009 (by omega)
                            refine lv_i2l S.1.1 S.1.2.1 dX12_skip_243 rfl ?_
                            refine lv_topl (fun j32013 z32014 => ?_)
                            refine lv_lor S.1.1 S.1.2.1 dX12_skip_244 ?_
                            refine lv_topl (fun j32015 z32016 => ?_)
                            refine r_putJ (K := 38) S X32002 (Nat.le_of_ble_eq_true rfl) rfl lk12_170_10 (fun _ => ⟨_, rfl, Nat.le_of_ble_eq_true rfl, rfl⟩) (fun _ _ _ h => by cases h; exact ⟨rfl, rfl⟩) dX12_skip_245 (fun t32018 H lc M32019 X32017 => ?_)
                            have I32020 := Inv_ml I31730 M32019
                            have F32021 : Fr [(131, 4), (131, 11), (131, 12), (131, 13), (131, 14)] [331] τ t32018 := Fr_ml F31731 M32019 (by decide)
                            refine r_aload_n S dX12_skip_248 rfl (lv_at hl 1 rfl) ?_
                            refine r_geti (K := 38) S X32017 (Nat.le_of_ble_eq_true rfl) rfl lk12_154_10 (fun _ => ⟨_, rfl, rfl⟩) ((M32019.1 131 (by decide) 13).trans z31741) dX12_skip_249 ?_
                            refine r_iconst S dX12_skip_252 (by decide) (fun v32022 z32023 => ?_)
                            have r32024 := R_eq z32023
                            refine r_icmp_ge (tgt := 275) S dX12_skip_253 (by decide) (fun c32025 => ?_) (fun c32025 => ?_)
                            ·
                              have r32026 : R (2) (6) f31739 := ⟨by omega, by omega⟩
                              refine r_aload_n S dX12_skip_275 rfl (lv_at hl 1 rfl) ?_
                              refine r_dup S dX12_skip_276 rfl ?_
                              refine r_geti (K := 38) S X32017 (Nat.le_of_ble_eq_true rfl) rfl lk12_154_10 (fun _ => ⟨_, rfl, rfl⟩) ((M32019.1 131 (by decide) 13).trans z31741) dX12_skip_277 ?_
                              refine r_iconst S dX12_skip_280 (by decide) (fun v32027 z32028 => ?_)
                              have r32029 := R_eq z32028
                              refine r_iadd S dX12_skip_281 (fun v32030 z32031 => ?_)
                              obtain ⟨e32032, r32033⟩ := i_add (lo := 3) (hi := 7) z32031 r32026 r32029 rfl
                              refine r_put (K := 38) (ty := .int) S X32017 (Nat.le_of_ble_eq_true rfl) rfl lk12_154_10 (fun _ => ⟨_, rfl, Nat.le_of_ble_eq_true rfl, rfl⟩) (fun _ _ _ h => by cases h; exact ⟨rfl, rfl⟩) rfl rfl dX12_skip_282 (fun t32034 H lc M32035 X32036 => ?_)
                              have I32037 := Inv_mu I32020 M32035 (show Rg (kd 131) 13 v32030 from (R_of (lo := 0) (hi := 940) r32033 rfl))
                              have F32038 : Fr [(131, 4), (131, 11), (131, 12), (131, 13), (131, 14)] [331] τ t32034 := Fr_mu F32021 M32035 (by decide)
                              refine r_aload_n S dX12_skip_285 rfl (lv_at hl 1 rfl) ?_
                              refine r_dup S dX12_skip_286 rfl ?_
                              refine r_geti (K := 38) S X32036 (Nat.le_of_ble_eq_true rfl) rfl lk12_21_10 (fun _ => ⟨_, rfl, rfl⟩) ((M32035.2 131 4 (Or.inr (by decide))).trans ((M32019.1 131 (by decide) 4).trans z31735)) dX12_skip_287 ?_
                              refine r_iconst S dX12_skip_290 (by decide) (fun v32039 z32040 => ?_)
                              have r32041 := R_eq z32040
                              refine r_iadd S dX12_skip_291 (fun v32042 z32043 => ?_)
                              obtain ⟨e32044, r32045⟩ := i_add (lo := 1) (hi := 940) z32043 r31774 r32041 rfl
                              refine r_put (K := 38) (ty := .int) S X32036 (Nat.le_of_ble_eq_true rfl) rfl lk12_21_10 (fun _ => ⟨_, rfl, Nat.le_of_ble_eq_true rfl, rfl⟩) (fun _ _ _ h => by cases h; exact ⟨rfl, rfl⟩) rfl rfl dX12_skip_292 (fun t32046 H lc M32047 X32048 => ?_)
                              have I32049 := Inv_mu I32037 M32047 (show Rg (kd 131) 4 v32042 from (R_of (lo := 0) (hi := 940) r32045 rfl))
                              have F32050 : Fr [(131, 4), (131, 11), (131, 12), (131, 13), (131, 14)] [331] τ t32046 := Fr_mu F32038 M32047 (by decide)
                              refine r_goto (tgt := 181) S dX12_skip_295 (by decide) ?_
                              exact ih31748 t32046 _ _ _ v31956 v32042 v32030 f31742 X32048 I32049 F32050 (R_of r31958 rfl) M32047.1 ⟨by omega, by omega⟩ ((M32047.2 131 3 (Or.inr (by decide))).trans ((M32035.2 131 3 (Or.inr (by decide))).trans ((M32019.1 131 (by decide) 3).trans z31736))) ((M32047.2 131 5 (Or.inr (by decide))).trans ((M32035.2 131 5 (Or.inr (by decide))).trans ((M32019.1 131 (by decide) 5).trans z31737))) ((M32047.2 131 12 (Or.inr (by decide))).trans ((M32035.2 131 12 (Or.inr (by decide))).trans ((M32019.1 131 (by decide) 12).trans z31738))) ((M32047.2 131 13 (Or.inr (by decide))).trans M32035.1) ⟨by omega, by omega⟩ ((M32047.2 131 14 (Or.inr (by decide))).trans ((M32035.2 131 14 (Or.inr (by decide))).trans ((M32019.1 131 (by decide) 14).trans z31744))) ⟨by omega, by omega⟩ (LM_upq (i := f31733) (sp := f31739) (al := i31727) x31746 hs338 (by omega) (by omega) (LM_hw (x := v32004) (y := v31996) x31746 z31995 (by omega) (by rw [z32016, z32000, z32014]) ((qof_of (k := 131) (fun j => ((M32047.2 331 j (Or.inl (by decide))).trans ((M32035.2 331 j (Or.inl (by decide))).trans rfl))) 17).trans (Ml_upd M32019)) (by omega) (by omega)) (fun _ _ h => by exfalso; omega) (by omega) (by omega) (by omega)) (by omega) (lv_sub hl [1, 2, 0] rfl) (by omega)
                            ·
                              have r32051 : R (0) (1) f31739 := ⟨by omega, by omega⟩
                              refine r_aload_n S dX12_skip_256 rfl (lv_at hl 1 rfl) ?_
                              refine r_bipush S dX12_skip_257 (by decide) (fun v32052 z32053 => ?_)
                              have r32054 := R_eq z32053
                              refine r_aload_n S dX12_skip_259 rfl (lv_at hl 1 rfl) ?_
                              refine r_geti (K := 38) S X32017 (Nat.le_of_ble_eq_true rfl) rfl lk12_167_10 (fun _ => ⟨_, rfl, rfl⟩) ((M32019.1 131 (by decide) 14).trans z31744) dX12_skip_260 ?_
                              refine r_imul S dX12_skip_263 (fun v32055 z32056 => ?_)
                              have r32057 := R_any v32055
                              refine r_aload_n S dX12_skip_264 rfl (lv_at hl 1 rfl) ?_
                              refine r_ki (q_V (As := []) (rest := [.int v32055, .ref (G.2.2.2.1 131)]) (K := 38) (ci := 10) S X32017 (c_X12_peek_x l G t32018 I32020 ) ck12_147 (Nat.le_of_ble_eq_true rfl) rfl (fun _ => ⟨_, rfl⟩) ⟨_, _, rfl⟩ ⟨Nat.le_of_ble_eq_true rfl, Nat.le_of_ble_eq_true rfl⟩ rfl hl.1 rfl (Nat.le_of_ble_eq_true rfl) dX12_skip_265 ⟨Nat.le_refl 0, Nat.le_refl 0⟩) X32017 (fun v32061 t32060 H lc q32058 X32059 => ?_)
                              unfold po_X12_peek_x at q32058
                              obtain ⟨q32062, q32063, q32064, q32065⟩ := q32058
                              rw [q32062] at X32059
                              rw [q32062] at q32064
                              rw [q32062] at q32065
                              have pk32066 : PKf bb nb f31733 v32061 := pk_b hB I32020 (F32021 131 3 (by simp [fz])) (fun j => F32021 132 j (by simp [fz])) ((M32019.1 131 (by decide) 4).trans z31735) (by omega) q32065
                              obtain ⟨e32067, e32068, e32069⟩ := PK_at pk32066 (by omega)
                              refine r_iadd S dX12_skip_268 (fun v32070 z32071 => ?_)
                              have r32072 := R_any v32070
                              refine r_bipush S dX12_skip_269 (by decide) (fun v32073 z32074 => ?_)
                              have r32075 := R_eq z32074
                              refine r_isub S dX12_skip_271 (fun v32076 z32077 => ?_)
                              have r32078 := R_any v32076
                              refine r_put (K := 38) (ty := .int) S X32059 (Nat.le_of_ble_eq_true rfl) rfl lk12_167_10 (fun _ => ⟨_, rfl, Nat.le_of_ble_eq_true rfl, rfl⟩) (fun _ _ _ h => by cases h; exact ⟨rfl, rfl⟩) rfl rfl dX12_skip_272 (fun t32079 H lc M32080 X32081 => ?_)
                              have I32082 := Inv_mu I32020 M32080 (R_any v32076)
                              have F32083 : Fr [(131, 4), (131, 11), (131, 12), (131, 13), (131, 14)] [331] τ t32079 := Fr_mu F32021 M32080 (by decide)
                              refine r_aload_n S dX12_skip_275 rfl (lv_at hl 1 rfl) ?_
                              refine r_dup S dX12_skip_276 rfl ?_
                              refine r_geti (K := 38) S X32081 (Nat.le_of_ble_eq_true rfl) rfl lk12_154_10 (fun _ => ⟨_, rfl, rfl⟩) ((M32080.2 131 13 (Or.inr (by decide))).trans ((M32019.1 131 (by decide) 13).trans z31741)) dX12_skip_277 ?_
                              refine r_iconst S dX12_skip_280 (by decide) (fun v32084 z32085 => ?_)
                              have r32086 := R_eq z32085
                              refine r_iadd S dX12_skip_281 (fun v32087 z32088 => ?_)
                              obtain ⟨e32089, r32090⟩ := i_add (lo := 1) (hi := 2) z32088 r32051 r32086 rfl
                              refine r_put (K := 38) (ty := .int) S X32081 (Nat.le_of_ble_eq_true rfl) rfl lk12_154_10 (fun _ => ⟨_, rfl, Nat.le_of_ble_eq_true rfl, rfl⟩) (fun _ _ _ h => by cases h; exact ⟨rfl, rfl⟩) rfl rfl dX12_skip_282 (fun t32091 H lc M32092 X32093 => ?_)
                              have I32094 := Inv_mu I32082 M32092 (show Rg (kd 131) 13 v32087 from (R_of (lo := 0) (hi := 940) r32090 rfl))
                              have F32095 : Fr [(131, 4), (131, 11), (131, 12), (131, 13), (131, 14)] [331] τ t32091 := Fr_mu F32083 M32092 (by decide)
                              refine r_aload_n S dX12_skip_285 rfl (lv_at hl 1 rfl) ?_
                              refine r_dup S dX12_skip_286 rfl ?_
                              refine r_geti (K := 38) S X32093 (Nat.le_of_ble_eq_true rfl) rfl lk12_21_10 (fun _ => ⟨_, rfl, rfl⟩) ((M32092.2 131 4 (Or.inr (by decide))).trans ((M32080.2 131 4 (Or.inr (by decide))).trans ((M32019.1 131 (by decide) 4).trans z31735))) dX12_skip_287 ?_
                              refine r_iconst S dX12_skip_290 (by decide) (fun v32096 z32097 => ?_)
                              have r32098 := R_eq z32097
                              refine r_iadd S dX12_skip_291 (fun v32099 z32100 => ?_)
                              obtain ⟨e32101, r32102⟩ := i_add (lo := 1) (hi := 940) z32100 r31774 r32098 rfl
                              refine r_put (K := 38) (ty := .int) S X32093 (Nat.le_of_ble_eq_true rfl) rfl lk12_21_10 (fun _ => ⟨_, rfl, Nat.le_of_ble_eq_true rfl, rfl⟩) (fun _ _ _ h => by cases h; exact ⟨rfl, rfl⟩) rfl rfl dX12_skip_292 (fun t32103 H lc M32104 X32105 => ?_)
                              have I32106 := Inv_mu I32094 M32104 (show Rg (kd 131) 4 v32099 from (R_of (lo := 0) (hi := 940) r32102 rfl))
                              have F32107 : Fr [(131, 4), (131, 11), (131, 12), (131, 13), (131, 14)] [331] τ t32103 := Fr_mu F32095 M32104 (by decide)
                              refine r_goto (tgt := 181) S dX12_skip_295 (by decide) ?_
                              exact ih31748 t32103 _ _ _ v31956 v32099 v32087 v32076 X32105 I32106 F32107 (R_of r31958 rfl) M32104.1 ⟨by omega, by omega⟩ ((M32104.2 131 3 (Or.inr (by decide))).trans ((M32092.2 131 3 (Or.inr (by decide))).trans ((M32080.2 131 3 (Or.inr (by decide))).trans ((M32019.1 131 (by decide) 3).trans z31736)))) ((M32104.2 131 5 (Or.inr (by decide))).trans ((M32092.2 131 5 (Or.inr (by decide))).trans ((M32080.2 131 5 (Or.inr (by decide))).trans ((M32019.1 131 (by decide) 5).trans z31737)))) ((M32104.2 131 12 (Or.inr (by decide))).trans ((M32092.2 131 12 (Or.inr (by decide))).trans ((M32080.2 131 12 (Or.inr (by decide))).trans ((M32019.1 131 (by decide) 12).trans z31738)))) ((M32104.2 131 13 (Or.inr (by decide))).trans M32092.1) ⟨by omega, by omega⟩ ((M32104.2 131 14 (Or.inr (by decide))).trans ((M32092.2 131 14 (Or.inr (by decide))).trans M32080.1)) ⟨by omega, by omega⟩ (LM_upq (i := f31733) (sp := f31739) (al := i31727) x31746 hs338 (by omega) (by omega) (LM_hw (x := v32004) (y := v31996) x31746 z31995 (by omega) (by rw [z32016, z32000, z32014]) ((qof_of (k := 131) (fun j => ((M32104.2 331 j (Or.inl (by decide))).trans ((M32092.2 331 j (Or.inl (by decide))).trans ((M32080.2 331 j (Or.inl (by decide))).trans rfl)))) 17).trans (Ml_upd M32019)) (by omega) (by omega)) (LM_hn (c := v32052) (x := v32061) (d := v32073) x31746 (by omega) z32056 z32071 (by omega) z32077 (by omega) (by omega)) (by omega) (by omega) (by omega)) (by omega) (lv_sub hl [1, 2, 0] rfl) (by omega)
                        ·
                          refine r_iconst S dX12_skip_216 (by decide) (fun v32108 z32109 => ?_)
                          have r32110 := R_eq z32109
                          refine r_goto (tgt := 221) S dX12_skip_217 (by decide) ?_
                          refine r_istore_n (lv' := [(3, .int v32108), (0, .ref (G.2.2.2.1 131)), (2, .int v330)]) S dX12_skip_221 rfl hl (by decide) rfl (fun ls hl => ?_)
                          refine r_aload_n S dX12_skip_222 rfl (lv_at hl 1 rfl) ?_
                          refine r_geti (K := 38) S X31948 (Nat.le_of_ble_eq_true rfl) rfl lk12_154_10 (fun _ => ⟨_, rfl, rfl⟩) z31741 dX12_skip_223 ?_
                          refine r_bipush S dX12_skip_226 (by decide) (fun v32111 z32112 => ?_)
                          have r32113 := R_eq z32112
                          refine r_icmp_ge (tgt := 248) S dX12_skip_228 (by decide) (fun c32114 => ?_) (fun c32114 => ?_)
                          ·
                            have r32115 : R (7) (940) f31739 := ⟨by omega, by omega⟩
                            refine r_aload_n S dX12_skip_248 rfl (lv_at hl 1 rfl) ?_
                            refine r_geti (K := 38) S X31948 (Nat.le_of_ble_eq_true rfl) rfl lk12_154_10 (fun _ => ⟨_, rfl, rfl⟩) z31741 dX12_skip_249 ?_
                            refine r_iconst S dX12_skip_252 (by decide) (fun v32116 z32117 => ?_)
                            have r32118 := R_eq z32117
                            refine r_icmp_ge (tgt := 275) S dX12_skip_253 (by decide) (fun c32119 => ?_) (fun c32119 => ?_)
                            ·
                              refine r_aload_n S dX12_skip_275 rfl (lv_at hl 1 rfl) ?_
                              refine r_dup S dX12_skip_276 rfl ?_
                              refine r_geti (K := 38) S X31948 (Nat.le_of_ble_eq_true rfl) rfl lk12_154_10 (fun _ => ⟨_, rfl, rfl⟩) z31741 dX12_skip_277 ?_
                              refine r_iconst S dX12_skip_280 (by decide) (fun v32120 z32121 => ?_)
                              have r32122 := R_eq z32121
                              refine r_iadd S dX12_skip_281 (fun v32123 z32124 => ?_)
                              obtain ⟨e32125, r32126⟩ := i_add (lo := 8) (hi := 941) z32124 r32115 r32122 rfl
                              refine r_put (K := 38) (ty := .int) S X31948 (Nat.le_of_ble_eq_true rfl) rfl lk12_154_10 (fun _ => ⟨_, rfl, Nat.le_of_ble_eq_true rfl, rfl⟩) (fun _ _ _ h => by cases h; exact ⟨rfl, rfl⟩) rfl rfl dX12_skip_282 (fun t32127 H lc M32128 X32129 => ?_)
                              have I32130 := Inv_mu I31730 M32128 (show Rg (kd 131) 13 v32123 from (show R (0) (940) v32123 from ⟨by omega, by omega⟩))
                              have F32131 : Fr [(131, 4), (131, 11), (131, 12), (131, 13), (131, 14)] [331] τ t32127 := Fr_mu F31731 M32128 (by decide)
                              have r32132 : R (8) (940) v32123 := ⟨by omega, by omega⟩
                              refine r_aload_n S dX12_skip_285 rfl (lv_at hl 1 rfl) ?_
                              refine r_dup S dX12_skip_286 rfl ?_
                              refine r_geti (K := 38) S X32129 (Nat.le_of_ble_eq_true rfl) rfl lk12_21_10 (fun _ => ⟨_, rfl, rfl⟩) ((M32128.2 131 4 (Or.inr (by decide))).trans z31735) dX12_skip_287 ?_
                              refine r_iconst S dX12_skip_290 (by decide) (fun v32133 z32134 => ?_)
                              have r32135 := R_eq z32134
                              refine r_iadd S dX12_skip_291 (fun v32136 z32137 => ?_)
                              obtain ⟨e32138, r32139⟩ := i_add (lo := 1) (hi := 940) z32137 r31774 r32135 rfl
                              refine r_put (K := 38) (ty := .int) S X32129 (Nat.le_of_ble_eq_true rfl) rfl lk12_21_10 (fun _ => ⟨_, rfl, Nat.le_of_ble_eq_true rfl, rfl⟩) (fun _ _ _ h => by cases h; exact ⟨rfl, rfl⟩) rfl rfl dX12_skip_292 (fun t32140 H lc M32141 X32142 => ?_)
                              have I32143 := Inv_mu I32130 M32141 (show Rg (kd 131) 4 v32136 from (R_of (lo := 0) (hi := 940) r32139 rfl))
                              have F32144 : Fr [(131, 4), (131, 11), (131, 12), (131, 13), (131, 14)] [331] τ t32140 := Fr_mu F32131 M32141 (by decide)
                              refine r_goto (tgt := 181) S dX12_skip_295 (by decide) ?_
                              exact ih31748 t32140 _ _ _ v32108 v32136 v32123 f31742 X32142 I32143 F32144 (R_of r32110 rfl) M32141.1 ⟨by omega, by omega⟩ ((M32141.2 131 3 (Or.inr (by decide))).trans ((M32128.2 131 3 (Or.inr (by decide))).trans z31736)) ((M32141.2 131 5 (Or.inr (by decide))).trans ((M32128.2 131 5 (Or.inr (by decide))).trans z31737)) ((M32141.2 131 12 (Or.inr (by decide))).trans ((M32128.2 131 12 (Or.inr (by decide))).trans z31738)) ((M32141.2 131 13 (Or.inr (by decide))).trans M32128.1) ⟨by omega, by omega⟩ ((M32141.2 131 14 (Or.inr (by decide))).trans ((M32128.2 131 14 (Or.inr (by decide))).trans z31744)) ⟨by omega, by omega⟩ (by rw [(qof_of (k := 131) (fun j => ((M32141.2 331 j (Or.inl (by decide))).trans ((M32128.2 331 j (Or.inl (by decide))).trans rfl))) 17)]; exact LM_upq (i := f31733) (sp := f31739) (al := i31727) x31746 hs338 (by omega) (by omega) (fun _ _ h => by exfalso; omega) (fun _ _ h => by exfalso; omega) (by omega) (by omega) (by omega)) (by omega) (lv_sub hl [1, 2, 0] rfl) (by omega)
                            ·
                              exfalso; omega
                          ·
                            have r32145 : R (0) (6) f31739 := ⟨by omega, by omega⟩
                            refine r_aload_n S dX12_skip_231 rfl (lv_at hl 1 rfl) ?_
                            refine r_aload_n S dX12_skip_232 rfl (lv_at hl 1 rfl) ?_
                            refine r_getJ (K := 38) S X31948 (Nat.le_of_ble_eq_true rfl) rfl lk12_170_10 (fun _ => ⟨_, rfl, rfl⟩) dX12_skip_233 (fun j32146 z32147 => ?_)
                            refine r_bipush S dX12_skip_236 (by decide) (fun v32148 z32149 => ?_)
                            have r32150 := R_eq z32149
                            refine lv_lshl S.1.1 S.1.2.1 dX12_skip_238 rfl ?_
                            refine lv_topl (fun j32151 z32152 => ?_)
                            refine r_aload_n S dX12_skip_239 rfl (lv_at hl 1 rfl) ?_
                            refine r_ki (q_V (As := []) (rest := [.long j32151, .ref (G.2.2.2.1 131)]) (K := 38) (ci := 10) S X31948 (c_X12_peek_x l G t31729 I31730 ) ck12_147 (Nat.le_of_ble_eq_true rfl) rfl (fun _ => ⟨_, rfl⟩) ⟨_, _, rfl⟩ ⟨Nat.le_of_ble_eq_true rfl, Nat.le_of_ble_eq_true rfl⟩ rfl hl.1 rfl (Nat.le_of_ble_eq_true rfl) dX12_skip_240 ⟨Nat.le_refl 0, Nat.le_refl 0⟩) X31948 (fun v32156 t32155 H lc q32153 X32154 => ?_)
                            unfold po_X12_peek_x at q32153
                            obtain ⟨q32157, q32158, q32159, q32160⟩ := q32153
                            rw [q32157] at X32154
                            rw [q32157] at q32159
                            rw [q32157] at q32160
                            have pk32161 : PKf bb nb f31733 v32156 := pk_b hB I31730 (F31731 131 3 (by simp [fz])) (fun j => F31731 132 j (by simp [fz])) z31735 (by omega) q32160
                            obtain ⟨e32162, e32163, e32164⟩ := PK_at pk32161 (by omega)
                            refine lv_i2l S.1.1 S.1.2.1 dX12_skip_243 rfl ?_
                            refine lv_topl (fun j32165 z32166 => ?_)
                            refine lv_lor S.1.1 S.1.2.1 dX12_skip_244 ?_
                            refine lv_topl (fun j32167 z32168 => ?_)
                            refine r_putJ (K := 38) S X32154 (Nat.le_of_ble_eq_true rfl) rfl lk12_170_10 (fun _ => ⟨_, rfl, Nat.le_of_ble_eq_true rfl, rfl⟩) (fun _ _ _ h => by cases h; exact ⟨rfl, rfl⟩) dX12_skip_245 (fun t32170 H lc M32171 X32169 => ?_)
                            have I32172 := Inv_ml I31730 M32171
                            have F32173 : Fr [(131, 4), (131, 11), (131, 12), (131, 13), (131, 14)] [331] τ t32170 := Fr_ml F31731 M32171 (by decide)
                            refine r_aload_n S dX12_skip_248 rfl (lv_at hl 1 rfl) ?_
                            refine r_geti (K := 38) S X32169 (Nat.le_of_ble_eq_true rfl) rfl lk12_154_10 (fun _ => ⟨_, rfl, rfl⟩) ((M32171.1 131 (by decide) 13).trans z31741) dX12_skip_249 ?_
                            refine r_iconst S dX12_skip_252 (by decide) (fun v32174 z32175 => ?_)
                            have r32176 := R_eq z32175
                            refine r_icmp_ge (tgt := 275) S dX12_skip_253 (by decide) (fun c32177 => ?_) (fun c32177 => ?_)
                            ·
                              have r32178 : R (2) (6) f31739 := ⟨by omega, by omega⟩
                              refine r_aload_n S dX12_skip_275 rfl (lv_at hl 1 rfl) ?_
                              refine r_dup S dX12_skip_276 rfl ?_
                              refine r_geti (K := 38) S X32169 (Nat.le_of_ble_eq_true rfl) rfl lk12_154_10 (fun _ => ⟨_, rfl, rfl⟩) ((M32171.1 131 (by decide) 13).trans z31741) dX12_skip_277 ?_
                              refine r_iconst S dX12_skip_280 (by decide) (fun v32179 z32180 => ?_)
                              have r32181 := R_eq z32180
                              refine r_iadd S dX12_skip_281 (fun v32182 z32183 => ?_)
                              obtain ⟨e32184, r32185⟩ := i_add (lo := 3) (hi := 7) z32183 r32178 r32181 rfl
                              refine r_put (K := 38) (ty := .int) S X32169 (Nat.le_of_ble_eq_true rfl) rfl lk12_154_10 (fun _ => ⟨_, rfl, Nat.le_of_ble_eq_true rfl, rfl⟩) (fun _ _ _ h => by cases h; exact ⟨rfl, rfl⟩) rfl rfl dX12_skip_282 (fun t32186 H lc M32187 X32188 => ?_)
                              have I32189 := Inv_mu I32172 M32187 (show Rg (kd 131) 13 v32182 from (R_of (lo := 0) (hi := 940) r32185 rfl))
                              have F32190 : Fr [(131, 4), (131, 11), (131, 12), (131, 13), (131, 14)] [331] τ t32186 := Fr_mu F32173 M32187 (by decide)
                              refine r_aload_n S dX12_skip_285 rfl (lv_at hl 1 rfl) ?_
                              refine r_dup S dX12_skip_286 rfl ?_
                              refine r_geti (K := 38) S X32188 (Nat.le_of_ble_eq_true rfl) rfl lk12_21_10 (fun _ => ⟨_, rfl, rfl⟩) ((M32187.2 131 4 (Or.inr (by decide))).trans ((M32171.1 131 (by decide) 4).trans z31735)) dX12_skip_287 ?_
                              refine r_iconst S dX12_skip_290 (by decide) (fun v32191 z32192 => ?_)
                              have r32193 := R_eq z32192
                              refine r_iadd S dX12_skip_291 (fun v32194 z32195 => ?_)
                              obtain ⟨e32196, r32197⟩ := i_add (lo := 1) (hi := 940) z32195 r31774 r32193 rfl
                              refine r_put (K := 38) (ty := .int) S X32188 (Nat.le_of_ble_eq_true rfl) rfl lk12_21_10 (fun _ => ⟨_, rfl, Nat.le_of_ble_eq_true rfl, rfl⟩) (fun _ _ _ h => by cases h; exact ⟨rfl, rfl⟩) rfl rfl dX12_skip_292 (fun t32198 H lc M32199 X32200 => ?_)
                              have I32201 := Inv_mu I32189 M32199 (show Rg (kd 131) 4 v32194 from (R_of (lo := 0) (hi := 940) r32197 rfl))
                              have F32202 : Fr [(131, 4), (131, 11), (131, 12), (131, 13), (131, 14)] [331] τ t32198 := Fr_mu F32190 M32199 (by decide)
                              refine r_goto (tgt := 181) S dX12_skip_295 (by decide) ?_
                              exact ih31748 t32198 _ _ _ v32108 v32194 v32182 f31742 X32200 I32201 F32202 (R_of r32110 rfl) M32199.1 ⟨by omega, by omega⟩ ((M32199.2 131 3 (Or.inr (by decide))).trans ((M32187.2 131 3 (Or.inr (by decide))).trans ((M32171.1 131 (by decide) 3).trans z31736))) ((M32199.2 131 5 (Or.inr (by decide))).trans ((M32187.2 131 5 (Or.inr (by decide))).trans ((M32171.1 131 (by decide) 5).trans z31737))) ((M32199.2 131 12 (Or.inr (by decide))).trans ((M32187.2 131 12 (Or.inr (by decide))).trans ((M32171.1 131 (by decide) 12).trans z31738))) ((M32199.2 131 13 (Or.inr (by decide))).trans M32187.1) ⟨by omega, by omega⟩ ((M32199.2 131 14 (Or.inr (by decide))).trans ((M32187.2 131 14 (Or.inr (by decide))).trans ((M32171.1 131 (by decide) 14).trans z31744))) ⟨by omega, by omega⟩ (LM_upq (i := f31733) (sp := f31739) (al := i31727) x31746 hs338 (by omega) (by omega) (LM_hw (x := v32156) (y := v32148) x31746 z32147 (by omega) (by rw [z32168, z32152, z32166]) ((qof_of (k := 131) (fun j => ((M32199.2 331 j (Or.inl (by decide))).trans ((M32187.2 331 j (Or.inl (by decide))).trans rfl))) 17).trans (Ml_upd M32171)) (by omega) (by omega)) (fun _ _ h => by exfalso; omega) (by omega) (by omega) (by omega)) (by omega) (lv_sub hl [1, 2, 0] rfl) (by omega)
                            ·
                              have r32203 : R (0) (1) f31739 := ⟨by omega, by omega⟩
                              refine r_aload_n S dX12_skip_256 rfl (lv_at hl 1 rfl) ?_
                              refine r_bipush S dX12_skip_257 (by decide) (fun v32204 z32205 => ?_)
                              have r32206 := R_eq z32205
                              refine r_aload_n S dX12_skip_259 rfl (lv_at hl 1 rfl) ?_
                              refine r_geti (K := 38) S X32169 (Nat.le_of_ble_eq_true rfl) rfl lk12_167_10 (fun _ => ⟨_, rfl, rfl⟩) ((M32171.1 131 (by decide) 14).trans z31744) dX12_skip_260 ?_
                              refine r_imul S dX12_skip_263 (fun v32207 z32208 => ?_)
                              have r32209 := R_any v32207
                              refine r_aload_n S dX12_skip_264 rfl (lv_at hl 1 rfl) ?_
                              refine r_ki (q_V (As := []) (rest := [.int v32207, .ref (G.2.2.2.1 131)]) (K := 38) (ci := 10) S X32169 (c_X12_peek_x l G t32170 I32172 ) ck12_147 (Nat.le_of_ble_eq_true rfl) rfl (fun _ => ⟨_, rfl⟩) ⟨_, _, rfl⟩ ⟨Nat.le_of_ble_eq_true rfl, Nat.le_of_ble_eq_true rfl⟩ rfl hl.1 rfl (Nat.le_of_ble_eq_true rfl) dX12_skip_265 ⟨Nat.le_refl 0, Nat.le_refl 0⟩) X32169 (fun v32213 t32212 H lc q32210 X32211 => ?_)
                              unfold po_X12_peek_x at q32210
                              obtain ⟨q32214, q32215, q32216, q32217⟩ := q32210
                              rw [q32214] at X32211
                              rw [q32214] at q32216
                              rw [q32214] at q32217
                              have pk32218 : PKf bb nb f31733 v32213 := pk_b hB I32172 (F32173 131 3 (by simp [fz])) (fun j => F32173 132 j (by simp [fz])) ((M32171.1 131 (by decide) 4).trans z31735) (by omega) q32217
                              obtain ⟨e32219, e32220, e32221⟩ := PK_at pk32218 (by omega)
                              refine r_iadd S dX12_skip_268 (fun v32222 z32223 => ?_)
                              have r32224 := R_any v32222
                              refine r_bipush S dX12_skip_269 (by decide) (fun v32225 z32226 => ?_)
                              have r32227 := R_eq z32226
                              refine r_isub S dX12_skip_271 (fun v32228 z32229 => ?_)
                              have r32230 := R_any v32228
                              refine r_put (K := 38) (ty := .int) S X32211 (Nat.le_of_ble_eq_true rfl) rfl lk12_167_10 (fun _ => ⟨_, rfl, Nat.le_of_ble_eq_true rfl, rfl⟩) (fun _ _ _ h => by cases h; exact ⟨rfl, rfl⟩) rfl rfl dX12_skip_272 (fun t32231 H lc M32232 X32233 => ?_)
                              have I32234 := Inv_mu I32172 M32232 (R_any v32228)
                              have F32235 : Fr [(131, 4), (131, 11), (131, 12), (131, 13), (131, 14)] [331] τ t32231 := Fr_mu F32173 M32232 (by decide)
                              refine r_aload_n S dX12_skip_275 rfl (lv_at hl 1 rfl) ?_
                              refine r_dup S dX12_skip_276 rfl ?_
                              refine r_geti (K := 38) S X32233 (Nat.le_of_ble_eq_true rfl) rfl lk12_154_10 (fun _ => ⟨_, rfl, rfl⟩) ((M32232.2 131 13 (Or.inr (by decide))).trans ((M32171.1 131 (by decide) 13).trans z31741)) dX12_skip_277 ?_
                              refine r_iconst S dX12_skip_280 (by decide) (fun v32236 z32237 => ?_)
                              have r32238 := R_eq z32237
                              refine r_iadd S dX12_skip_281 (fun v32239 z32240 => ?_)
                              obtain ⟨e32241, r32242⟩ := i_add (lo := 1) (hi := 2) z32240 r32203 r32238 rfl
                              refine r_put (K := 38) (ty := .int) S X32233 (Nat.le_of_ble_eq_true rfl) rfl lk12_154_10 (fun _ => ⟨_, rfl, Nat.le_of_ble_eq_true rfl, rfl⟩) (fun _ _ _ h => by cases h; exact ⟨rfl, rfl⟩) rfl rfl dX12_skip_282 (fun t32243 H lc M32244 X32245 => ?_)
                              have I32246 := Inv_mu I32234 M32244 (show Rg (kd 131) 13 v32239 from (R_of (lo := 0) (hi := 940) r32242 rfl))
                              have F32247 : Fr [(131, 4), (131, 11), (131, 12), (131, 13), (131, 14)] [331] τ t32243 := Fr_mu F32235 M32244 (by decide)
                              refine r_aload_n S dX12_skip_285 rfl (lv_at hl 1 rfl) ?_
                              refine r_dup S dX12_skip_286 rfl ?_
                              refine r_geti (K := 38) S X32245 (Nat.le_of_ble_eq_true rfl) rfl lk12_21_10 (fun _ => ⟨_, rfl, rfl⟩) ((M32244.2 131 4 (Or.inr (by decide))).trans ((M32232.2 131 4 (Or.inr (by decide))).trans ((M32171.1 131 (by decide) 4).trans z31735))) dX12_skip_287 ?_
                              refine r_iconst S dX12_skip_290 (by decide) (fun v32248 z32249 => ?_)
                              have r32250 := R_eq z32249
                              refine r_iadd S dX12_skip_291 (fun v32251 z32252 => ?_)
                              obtain ⟨e32253, r32254⟩ := i_add (lo := 1) (hi := 940) z32252 r31774 r32250 rfl
                              refine r_put (K := 38) (ty := .int) S X32245 (Nat.le_of_ble_eq_true rfl) rfl lk12_21_10 (fun _ => ⟨_, rfl, Nat.le_of_ble_eq_true rfl, rfl⟩) (fun _ _ _ h => by cases h; exact ⟨rfl, rfl⟩) rfl rfl dX12_skip_292 (fun t32255 H lc M32256 X32257 => ?_)
                              have I32258 := Inv_mu I32246 M32256 (show Rg (kd 131) 4 v32251 from (R_of (lo := 0) (hi := 940) r32254 rfl))
                              have F32259 : Fr [(131, 4), (131, 11), (131, 12), (131, 13), (131, 14)] [331] τ t32255 := Fr_mu F32247 M32256 (by decide)
                              refine r_goto (tgt := 181) S dX12_skip_295 (by decide) ?_
                              exact ih31748 t32255 _ _ _ v32108 v32251 v32239 v32228 X32257 I32258 F32259 (R_of r32110 rfl) M32256.1 ⟨by omega, by omega⟩ ((M32256.2 131 3 (Or.inr (by decide))).trans ((M32244.2 131 3 (Or.inr (by decide))).trans ((M32232.2 131 3 (Or.inr (by decide))).trans ((M32171.1 131 (by decide) 3).trans z31736)))) ((M32256.2 131 5 (Or.inr (by decide))).trans ((M32244.2 131 5 (Or.inr (by decide))).trans ((M32232.2 131 5 (Or.inr (by decide))).trans ((M32171.1 131 (by decide) 5).trans z31737)))) ((M32256.2 131 12 (Or.inr (by decide))).trans ((M32244.2 131 12 (Or.inr (by decide))).trans ((M32232.2 131 12 (Or.inr (by decide))).trans ((M32171.1 131 (by decide) 12).trans z31738)))) ((M32256.2 131 13 (Or.inr (by decide))).trans M32244.1) ⟨by omega, by omega⟩ ((M32256.2 131 14 (Or.inr (by decide))).trans ((M32244.2 131 14 (Or.inr (by decide))).trans M32232.1)) ⟨by omega, by omega⟩ (LM_upq (i := f31733) (sp := f31739) (al := i31727) x31746 hs338 (by omega) (by omega) (LM_hw (x := v32156) (y := v32148) x31746 z32147 (by omega) (by rw [z32168, z32152, z32166]) ((qof_of (k := 131) (fun j => ((M32256.2 331 j (Or.inl (by decide))).trans ((M32244.2 331 j (Or.inl (by decide))).trans ((M32232.2 331 j (Or.inl (by decide))).trans rfl)))) 17).trans (Ml_upd M32171)) (by omega) (by omega)) (LM_hn (c := v32204) (x := v32213) (d := v32225) x31746 (by omega) z32208 z32223 (by omega) z32229 (by omega) (by omega)) (by omega) (by omega) (by omega)) (by omega) (lv_sub hl [1, 2, 0] rfl) (by omega)
                    ·
                      have r32260 : R (0) (0) v31763 := ⟨by omega, by omega⟩
                      refine r_aload_n S dX12_skip_191 rfl (lv_at hl 0 rfl) ?_
                      refine r_ki (q_V (As := []) (rest := []) (K := 38) (ci := 10) S X31761 (c_X12_peek_x l G t31729 I31730 ) ck12_147 (Nat.le_of_ble_eq_true rfl) rfl (fun _ => ⟨_, rfl⟩) ⟨_, _, rfl⟩ ⟨Nat.le_of_ble_eq_true rfl, Nat.le_of_ble_eq_true rfl⟩ rfl hl.1 rfl (Nat.le_of_ble_eq_true rfl) dX12_skip_192 ⟨Nat.le_refl 0, Nat.le_refl 0⟩) X31761 (fun v32264 t32263 H lc q32261 X32262 => ?_)
                      unfold po_X12_peek_x at q32261
                      obtain ⟨q32265, q32266, q32267, q32268⟩ := q32261
                      rw [q32265] at X32262
                      rw [q32265] at q32267
                      rw [q32265] at q32268
                      have pk32269 : PKf bb nb f31733 v32264 := pk_b hB I31730 (F31731 131 3 (by simp [fz])) (fun j => F31731 132 j (by simp [fz])) z31735 (by omega) q32268
                      refine r_ki (q_S (As := [.int v32264]) (rest := []) S X32262 (c_X12_isDigit_x l G t31729 I31730 v32264 (R_of (lo := -2147483648) (hi := 2147483647) q32266 rfl)) ck12_164 ⟨Nat.le_of_ble_eq_true rfl, Nat.le_of_ble_eq_true rfl⟩ rfl hl.1 rfl (Nat.le_of_ble_eq_true rfl) dX12_skip_195 ⟨Nat.le_refl 0, Nat.le_refl 0⟩) X32262 (fun v32273 t32272 H lc q32270 X32271 => ?_)
                      unfold po_X12_isDigit_x at q32270
                      obtain ⟨q32274, q32275, q32276, q32277⟩ := q32270
                      rw [q32274] at X32271
                      refine r_if_eq (tgt := 298) S dX12_skip_198 (by decide) (fun c32278 => ?_) (fun c32278 => ?_)
                      ·
                        have r32279 : R (0) (0) v32273 := ⟨by omega, by omega⟩
                        have he32280 : f31733.toInt.toNat < nb → ¬ aln (bb f31733.toInt.toNat) := fun h => by have q0 := PK_at pk31759 (by omega); have q1 := PK_at pk32269 (by omega); omega
                        have e32281 : 0 < f31739.toInt := LM_pos x31746 hs338 he32280 (by omega)
                        refine r_aload_n S dX12_skip_298 rfl (lv_at hl 0 rfl) ?_
                        refine r_iload_n S dX12_skip_299 rfl (lv_at hl 2 rfl) ?_
                        refine r_if_eq (tgt := 320) S dX12_skip_300 (by decide) (fun c32282 => ?_) (fun c32282 => ?_)
                        ·
                          have r32283 : R (0) (0) i31727 := ⟨by omega, by omega⟩
                          refine r_iconst S dX12_skip_320 (by decide) (fun v32284 z32285 => ?_)
                          have r32286 := R_eq z32285
                          refine r_goto (tgt := 333) S dX12_skip_321 (by decide) ?_
                          refine r_put (K := 38) (ty := .int) S X32271 (Nat.le_of_ble_eq_true rfl) rfl lk12_157_10 (fun _ => ⟨_, rfl, Nat.le_of_ble_eq_true rfl, rfl⟩) (fun _ _ _ h => by cases h; exact ⟨rfl, rfl⟩) rfl rfl dX12_skip_333 (fun t32287 H lc M32288 X32289 => ?_)
                          have I32290 := Inv_mu I31730 M32288 (show Rg (kd 131) 11 v32284 from (R_of (lo := 0) (hi := 4) r32286 rfl))
                          have F32291 : Fr [(131, 4), (131, 11), (131, 12), (131, 13), (131, 14)] [331] τ t32287 := Fr_mu F31731 M32288 (by decide)
                          exact r_vret S hr hlk X32289 ⟨I32290, F32291, (by rw [((M32288.2 131 4 (Or.inr (by decide))).trans z31735)]; exact R_of r31734 rfl), (by rw [M32288.1]; exact R_of r32286 rfl), (by have h1_0 := congrArg Int32.toInt ((M32288.2 131 4 (Or.inr (by decide))).trans z31735); have h2_0 := congrArg Int32.toInt z2; omega), (by have h1_0 := congrArg Int32.toInt ((M32288.2 131 4 (Or.inr (by decide))).trans z31735); have h2_0 := congrArg Int32.toInt z2; have h1_1 := congrArg Int32.toInt M32288.1; omega), (MT_odd (A := f223.toInt.toNat) (i := f31733.toInt.toNat) (sm := v330.toInt) (al := i31727.toInt) (sp := f31739.toInt) x31746 (MB_eq hB (F32291 131 3 (by simp [fz])) (F32291 131 5 (by simp [fz])) (fun j => F32291 132 j (by simp [fz]))) ⟨by omega, by omega, x229, fun _ => by omega⟩ (by omega) (by omega) he32280 hs338 (by omega) (by omega) (by have q := congrArg Int32.toInt ((M32288.2 131 12 (Or.inr (by decide))).trans z31738); omega) (by have q := congrArg Int32.toInt M32288.1; omega))⟩ dX12_skip_336
                        ·
                          have r32292 : R (1) (1) i31727 := ⟨by omega, by omega⟩
                          refine r_aload_n S dX12_skip_303 rfl (lv_at hl 0 rfl) ?_
                          refine r_geti (K := 38) S X32271 (Nat.le_of_ble_eq_true rfl) rfl lk12_154_10 (fun _ => ⟨_, rfl, rfl⟩) z31741 dX12_skip_304 ?_
                          refine r_iload_n S dX12_skip_307 rfl (lv_at hl 1 rfl) ?_
                          refine r_if_eq (tgt := 316) S dX12_skip_308 (by decide) (fun c32293 => ?_) (fun c32293 => ?_)
                          ·
                            have r32294 : R (0) (0) v330 := ⟨by omega, by omega⟩
                            refine r_iconst S dX12_skip_316 (by decide) (fun v32295 z32296 => ?_)
                            have r32297 := R_eq z32296
                            refine r_icmp_le (tgt := 324) S dX12_skip_317 (by decide) (fun c32298 => ?_) (fun c32298 => ?_)
                            ·
                              have r32299 : R (0) (2) f31739 := ⟨by omega, by omega⟩
                              refine r_iload_n S dX12_skip_324 rfl (lv_at hl 1 rfl) ?_
                              refine r_if_eq (tgt := 332) S dX12_skip_325 (by decide) (fun c32300 => ?_) (fun c32300 => ?_)
                              ·
                                refine r_iconst S dX12_skip_332 (by decide) (fun v32301 z32302 => ?_)
                                have r32303 := R_eq z32302
                                refine r_put (K := 38) (ty := .int) S X32271 (Nat.le_of_ble_eq_true rfl) rfl lk12_157_10 (fun _ => ⟨_, rfl, Nat.le_of_ble_eq_true rfl, rfl⟩) (fun _ _ _ h => by cases h; exact ⟨rfl, rfl⟩) rfl rfl dX12_skip_333 (fun t32304 H lc M32305 X32306 => ?_)
                                have I32307 := Inv_mu I31730 M32305 (show Rg (kd 131) 11 v32301 from (R_of (lo := 0) (hi := 4) r32303 rfl))
                                have F32308 : Fr [(131, 4), (131, 11), (131, 12), (131, 13), (131, 14)] [331] τ t32304 := Fr_mu F31731 M32305 (by decide)
                                exact r_vret S hr hlk X32306 ⟨I32307, F32308, (by rw [((M32305.2 131 4 (Or.inr (by decide))).trans z31735)]; exact R_of r31734 rfl), (by rw [M32305.1]; exact R_of r32303 rfl), (by have h1_0 := congrArg Int32.toInt ((M32305.2 131 4 (Or.inr (by decide))).trans z31735); have h2_0 := congrArg Int32.toInt z2; omega), (by have h1_0 := congrArg Int32.toInt ((M32305.2 131 4 (Or.inr (by decide))).trans z31735); have h2_0 := congrArg Int32.toInt z2; have h1_1 := congrArg Int32.toInt M32305.1; omega), (MT_nbr (A := f223.toInt.toNat) (i := f31733.toInt.toNat) (sm := v330.toInt) (al := i31727.toInt) (sp := f31739.toInt) (wd := (qof t31729 131 17).toInt) (by rw [((M32305.2 131 14 (Or.inr (by decide))).trans z31744)]; exact x31746) (MB_eq hB (F32308 131 3 (by simp [fz])) (F32308 131 5 (by simp [fz])) (fun j => F32308 132 j (by simp [fz]))) ⟨by omega, by omega, x229, fun _ => by omega⟩ (by omega) (by omega) he32280 (by omega) (by omega) (by omega) (by have q := congrArg Int32.toInt ((M32305.2 131 12 (Or.inr (by decide))).trans z31738); omega) (by have q := congrArg Int32.toInt ((M32305.2 131 4 (Or.inr (by decide))).trans z31735); omega) (by have q := congrArg Int32.toInt M32305.1; omega))⟩ dX12_skip_336
                              ·
                                exfalso; omega
                            ·
                              have r32309 : R (3) (940) f31739 := ⟨by omega, by omega⟩
                              refine r_iconst S dX12_skip_320 (by decide) (fun v32310 z32311 => ?_)
                              have r32312 := R_eq z32311
                              refine r_goto (tgt := 333) S dX12_skip_321 (by decide) ?_
                              refine r_put (K := 38) (ty := .int) S X32271 (Nat.le_of_ble_eq_true rfl) rfl lk12_157_10 (fun _ => ⟨_, rfl, Nat.le_of_ble_eq_true rfl, rfl⟩) (fun _ _ _ h => by cases h; exact ⟨rfl, rfl⟩) rfl rfl dX12_skip_333 (fun t32313 H lc M32314 X32315 => ?_)
                              have I32316 := Inv_mu I31730 M32314 (show Rg (kd 131) 11 v32310 from (R_of (lo := 0) (hi := 4) r32312 rfl))
                              have F32317 : Fr [(131, 4), (131, 11), (131, 12), (131, 13), (131, 14)] [331] τ t32313 := Fr_mu F31731 M32314 (by decide)
                              exact r_vret S hr hlk X32315 ⟨I32316, F32317, (by rw [((M32314.2 131 4 (Or.inr (by decide))).trans z31735)]; exact R_of r31734 rfl), (by rw [M32314.1]; exact R_of r32312 rfl), (by have h1_0 := congrArg Int32.toInt ((M32314.2 131 4 (Or.inr (by decide))).trans z31735); have h2_0 := congrArg Int32.toInt z2; omega), (by have h1_0 := congrArg Int32.toInt ((M32314.2 131 4 (Or.inr (by decide))).trans z31735); have h2_0 := congrArg Int32.toInt z2; have h1_1 := congrArg Int32.toInt M32314.1; omega), (MT_odd (A := f223.toInt.toNat) (i := f31733.toInt.toNat) (sm := v330.toInt) (al := i31727.toInt) (sp := f31739.toInt) x31746 (MB_eq hB (F32317 131 3 (by simp [fz])) (F32317 131 5 (by simp [fz])) (fun j => F32317 132 j (by simp [fz]))) ⟨by omega, by omega, x229, fun _ => by omega⟩ (by omega) (by omega) he32280 hs338 (by omega) (by omega) (by have q := congrArg Int32.toInt ((M32314.2 131 12 (Or.inr (by decide))).trans z31738); omega) (by have q := congrArg Int32.toInt M32314.1; omega))⟩ dX12_skip_336
                          ·
                            have r32318 : R (1) (1) v330 := ⟨by omega, by omega⟩
                            have p32319 := q333 (by omega)
                            have r32320 : R (97) (122) v293 := ⟨by omega, by omega⟩
                            have p32321 := q296 (by omega)
                            refine r_bipush S dX12_skip_311 (by decide) (fun v32322 z32323 => ?_)
                            have r32324 := R_eq z32323
                            refine r_goto (tgt := 317) S dX12_skip_313 (by decide) ?_
                            refine r_icmp_le (tgt := 324) S dX12_skip_317 (by decide) (fun c32325 => ?_) (fun c32325 => ?_)
                            ·
                              have r32326 : R (0) (7) f31739 := ⟨by omega, by omega⟩
                              refine r_iload_n S dX12_skip_324 rfl (lv_at hl 1 rfl) ?_
                              refine r_if_eq (tgt := 332) S dX12_skip_325 (by decide) (fun c32327 => ?_) (fun c32327 => ?_)
                              ·
                                exfalso; omega
                              ·
                                refine r_iconst S dX12_skip_328 (by decide) (fun v32328 z32329 => ?_)
                                have r32330 := R_eq z32329
                                refine r_goto (tgt := 333) S dX12_skip_329 (by decide) ?_
                                refine r_put (K := 38) (ty := .int) S X32271 (Nat.le_of_ble_eq_true rfl) rfl lk12_157_10 (fun _ => ⟨_, rfl, Nat.le_of_ble_eq_true rfl, rfl⟩) (fun _ _ _ h => by cases h; exact ⟨rfl, rfl⟩) rfl rfl dX12_skip_333 (fun t32331 H lc M32332 X32333 => ?_)
                                have I32334 := Inv_mu I31730 M32332 (show Rg (kd 131) 11 v32328 from (R_of (lo := 0) (hi := 4) r32330 rfl))
                                have F32335 : Fr [(131, 4), (131, 11), (131, 12), (131, 13), (131, 14)] [331] τ t32331 := Fr_mu F31731 M32332 (by decide)
                                exact r_vret S hr hlk X32333 ⟨I32334, F32335, (by rw [((M32332.2 131 4 (Or.inr (by decide))).trans z31735)]; exact R_of r31734 rfl), (by rw [M32332.1]; exact R_of r32330 rfl), (by have h1_0 := congrArg Int32.toInt ((M32332.2 131 4 (Or.inr (by decide))).trans z31735); have h2_0 := congrArg Int32.toInt z2; omega), (by have h1_0 := congrArg Int32.toInt ((M32332.2 131 4 (Or.inr (by decide))).trans z31735); have h2_0 := congrArg Int32.toInt z2; have h1_1 := congrArg Int32.toInt M32332.1; omega), (MT_word (A := f223.toInt.toNat) (i := f31733.toInt.toNat) (sm := v330.toInt) (al := i31727.toInt) (sp := f31739.toInt) (nu := f31742.toInt) (by rw [(qof_of (k := 131) (fun j => ((M32332.2 331 j (Or.inl (by decide))).trans rfl)) 17)]; exact x31746) (MB_eq hB (F32335 131 3 (by simp [fz])) (F32335 131 5 (by simp [fz])) (fun j => F32335 132 j (by simp [fz]))) ⟨by omega, by omega, x229, fun _ => by omega⟩ (by omega) (by omega) he32280 (by omega) (by omega) (by omega) (by have q := congrArg Int32.toInt ((M32332.2 131 12 (Or.inr (by decide))).trans z31738); omega) (by have q := congrArg Int32.toInt ((M32332.2 131 4 (Or.inr (by decide))).trans z31735); omega) (by have q := congrArg Int32.toInt M32332.1; omega))⟩ dX12_skip_336
                            ·
                              have r32336 : R (8) (940) f31739 := ⟨by omega, by omega⟩
                              refine r_iconst S dX12_skip_320 (by decide) (fun v32337 z32338 => ?_)
                              have r32339 := R_eq z32338
                              refine r_goto (tgt := 333) S dX12_skip_321 (by decide) ?_
                              refine r_put (K := 38) (ty := .int) S X32271 (Nat.le_of_ble_eq_true rfl) rfl lk12_157_10 (fun _ => ⟨_, rfl, Nat.le_of_ble_eq_true rfl, rfl⟩) (fun _ _ _ h => by cases h; exact ⟨rfl, rfl⟩) rfl rfl dX12_skip_333 (fun t32340 H lc M32341 X32342 => ?_)
                              have I32343 := Inv_mu I31730 M32341 (show Rg (kd 131) 11 v32337 from (R_of (lo := 0) (hi := 4) r32339 rfl))
                              have F32344 : Fr [(131, 4), (131, 11), (131, 12), (131, 13), (131, 14)] [331] τ t32340 := Fr_mu F31731 M32341 (by decide)
                              exact r_vret S hr hlk X32342 ⟨I32343, F32344, (by rw [((M32341.2 131 4 (Or.inr (by decide))).trans z31735)]; exact R_of r31734 rfl), (by rw [M32341.1]; exact R_of r32339 rfl), (by have h1_0 := congrArg Int32.toInt ((M32341.2 131 4 (Or.inr (by decide))).trans z31735); have h2_0 := congrArg Int32.toInt z2; omega), (by have h1_0 := congrArg Int32.toInt ((M32341.2 131 4 (Or.inr (by decide))).trans z31735); have h2_0 := congrArg Int32.toInt z2; have h1_1 := congrArg Int32.toInt M32341.1; omega), (MT_odd (A := f223.toInt.toNat) (i := f31733.toInt.toNat) (sm := v330.toInt) (al := i31727.toInt) (sp := f31739.toInt) x31746 (MB_eq hB (F32344 131 3 (by simp [fz])) (F32344 131 5 (by simp [fz])) (fun j => F32344 132 j (by simp [fz]))) ⟨by omega, by omega, x229, fun _ => by omega⟩ (by omega) (by omega) he32280 hs338 (by omega) (by omega) (by have q := congrArg Int32.toInt ((M32341.2 131 12 (Or.inr (by decide))).trans z31738); omega) (by have q := congrArg Int32.toInt M32341.1; omega))⟩ dX12_skip_336
                      ·
                        have r32345 : R (1) (1) v32273 := ⟨by omega, by omega⟩
                        have p32346 := q32276 (by omega)
                        have r32347 : R (48) (57) v32264 := ⟨by omega, by omega⟩
                        have p32348 := q32267 (by omega)
                        have r32349 : R (0) (939) f31733 := z31735 ▸ p32348
                        have r32350 : R (0) (939) f31733 := ⟨by omega, by omega⟩
                        obtain ⟨e32351, e32352⟩ := PK_in pk32269 (by omega)
                        obtain ⟨e32353, e32354, e32355⟩ := PK_at pk32269 e32351
                        refine r_iload_n S dX12_skip_201 rfl (lv_at hl 2 rfl) ?_
                        refine r_if_eq (tgt := 220) S dX12_skip_202 (by decide) (fun c32356 => ?_) (fun c32356 => ?_)
                        ·
                          have r32357 : R (0) (0) i31727 := ⟨by omega, by omega⟩
                          refine r_iconst S dX12_skip_220 (by decide) (fun v32358 z32359 => ?_)
                          have r32360 := R_eq z32359
                          refine r_istore_n (lv' := [(3, .int v32358), (0, .ref (G.2.2.2.1 131)), (2, .int v330)]) S dX12_skip_221 rfl hl (by decide) rfl (fun ls hl => ?_)
                          refine r_aload_n S dX12_skip_222 rfl (lv_at hl 1 rfl) ?_
                          refine r_geti (K := 38) S X32271 (Nat.le_of_ble_eq_true rfl) rfl lk12_154_10 (fun _ => ⟨_, rfl, rfl⟩) z31741 dX12_skip_223 ?_
                          refine r_bipush S dX12_skip_226 (by decide) (fun v32361 z32362 => ?_)
                          have r32363 := R_eq z32362
                          refine r_icmp_ge (tgt := 248) S dX12_skip_228 (by decide) (fun c32364 => ?_) (fun c32364 => ?_)
                          ·
                            have r32365 : R (7) (940) f31739 := ⟨by omega, by omega⟩
                            refine r_aload_n S dX12_skip_248 rfl (lv_at hl 1 rfl) ?_
                            refine r_geti (K := 38) S X32271 (Nat.le_of_ble_eq_true rfl) rfl lk12_154_10 (fun _ => ⟨_, rfl, rfl⟩) z31741 dX12_skip_249 ?_
                            refine r_iconst S dX12_skip_252 (by decide) (fun v32366 z32367 => ?_)
                            have r32368 := R_eq z32367
                            refine r_icmp_ge (tgt := 275) S dX12_skip_253 (by decide) (fun c32369 => ?_) (fun c32369 => ?_)
                            ·
                              refine r_aload_n S dX12_skip_275 rfl (lv_at hl 1 rfl) ?_
                              refine r_dup S dX12_skip_276 rfl ?_
                              refine r_geti (K := 38) S X32271 (Nat.le_of_ble_eq_true rfl) rfl lk12_154_10 (fun _ => ⟨_, rfl, rfl⟩) z31741 dX12_skip_277 ?_
                              refine r_iconst S dX12_skip_280 (by decide) (fun v32370 z32371 => ?_)
                              have r32372 := R_eq z32371
                              refine r_iadd S dX12_skip_281 (fun v32373 z32374 => ?_)
                              obtain ⟨e32375, r32376⟩ := i_add (lo := 8) (hi := 941) z32374 r32365 r32372 rfl
                              refine r_put (K := 38) (ty := .int) S X32271 (Nat.le_of_ble_eq_true rfl) rfl lk12_154_10 (fun _ => ⟨_, rfl, Nat.le_of_ble_eq_true rfl, rfl⟩) (fun _ _ _ h => by cases h; exact ⟨rfl, rfl⟩) rfl rfl dX12_skip_282 (fun t32377 H lc M32378 X32379 => ?_)
                              have I32380 := Inv_mu I31730 M32378 (show Rg (kd 131) 13 v32373 from (show R (0) (940) v32373 from ⟨by omega, by omega⟩))
                              have F32381 : Fr [(131, 4), (131, 11), (131, 12), (131, 13), (131, 14)] [331] τ t32377 := Fr_mu F31731 M32378 (by decide)
                              have r32382 : R (8) (940) v32373 := ⟨by omega, by omega⟩
                              refine r_aload_n S dX12_skip_285 rfl (lv_at hl 1 rfl) ?_
                              refine r_dup S dX12_skip_286 rfl ?_
                              refine r_geti (K := 38) S X32379 (Nat.le_of_ble_eq_true rfl) rfl lk12_21_10 (fun _ => ⟨_, rfl, rfl⟩) ((M32378.2 131 4 (Or.inr (by decide))).trans z31735) dX12_skip_287 ?_
                              refine r_iconst S dX12_skip_290 (by decide) (fun v32383 z32384 => ?_)
                              have r32385 := R_eq z32384
                              refine r_iadd S dX12_skip_291 (fun v32386 z32387 => ?_)
                              obtain ⟨e32388, r32389⟩ := i_add (lo := 1) (hi := 940) z32387 r32350 r32385 rfl
                              refine r_put (K := 38) (ty := .int) S X32379 (Nat.le_of_ble_eq_true rfl) rfl lk12_21_10 (fun _ => ⟨_, rfl, Nat.le_of_ble_eq_true rfl, rfl⟩) (fun _ _ _ h => by cases h; exact ⟨rfl, rfl⟩) rfl rfl dX12_skip_292 (fun t32390 H lc M32391 X32392 => ?_)
                              have I32393 := Inv_mu I32380 M32391 (show Rg (kd 131) 4 v32386 from (R_of (lo := 0) (hi := 940) r32389 rfl))
                              have F32394 : Fr [(131, 4), (131, 11), (131, 12), (131, 13), (131, 14)] [331] τ t32390 := Fr_mu F32381 M32391 (by decide)
                              refine r_goto (tgt := 181) S dX12_skip_295 (by decide) ?_
                              exact ih31748 t32390 _ _ _ v32358 v32386 v32373 f31742 X32392 I32393 F32394 (R_of r32360 rfl) M32391.1 ⟨by omega, by omega⟩ ((M32391.2 131 3 (Or.inr (by decide))).trans ((M32378.2 131 3 (Or.inr (by decide))).trans z31736)) ((M32391.2 131 5 (Or.inr (by decide))).trans ((M32378.2 131 5 (Or.inr (by decide))).trans z31737)) ((M32391.2 131 12 (Or.inr (by decide))).trans ((M32378.2 131 12 (Or.inr (by decide))).trans z31738)) ((M32391.2 131 13 (Or.inr (by decide))).trans M32378.1) ⟨by omega, by omega⟩ ((M32391.2 131 14 (Or.inr (by decide))).trans ((M32378.2 131 14 (Or.inr (by decide))).trans z31744)) ⟨by omega, by omega⟩ (by rw [(qof_of (k := 131) (fun j => ((M32391.2 331 j (Or.inl (by decide))).trans ((M32378.2 331 j (Or.inl (by decide))).trans rfl))) 17)]; exact LM_upq (i := f31733) (sp := f31739) (al := i31727) x31746 hs338 (by omega) (by omega) (fun _ _ h => by exfalso; omega) (fun _ _ h => by exfalso; omega) (by omega) (by omega) (by omega)) (by omega) (lv_sub hl [1, 2, 0] rfl) (by omega)
                            ·
                              exfalso; omega
                          ·
                            have r32395 : R (0) (6) f31739 := ⟨by omega, by omega⟩
                            refine r_aload_n S dX12_skip_231 rfl (lv_at hl 1 rfl) ?_
                            refine r_aload_n S dX12_skip_232 rfl (lv_at hl 1 rfl) ?_
                            refine r_getJ (K := 38) S X32271 (Nat.le_of_ble_eq_true rfl) rfl lk12_170_10 (fun _ => ⟨_, rfl, rfl⟩) dX12_skip_233 (fun j32396 z32397 => ?_)
                            refine r_bipush S dX12_skip_236 (by decide) (fun v32398 z32399 => ?_)
                            have r32400 := R_eq z32399
                            refine lv_lshl S.1.1 S.1.2.1 dX12_skip_238 rfl ?_
                            refine lv_topl (fun j32401 z32402 => ?_)
                            refine r_aload_n S dX12_skip_239 rfl (lv_at hl 1 rfl) ?_
                            refine r_ki (q_V (As := []) (rest := [.long j32401, .ref (G.2.2.2.1 131)]) (K := 38) (ci := 10) S X32271 (c_X12_peek_x l G t31729 I31730 ) ck12_147 (Nat.le_of_ble_eq_true rfl) rfl (fun _ => ⟨_, rfl⟩) ⟨_, _, rfl⟩ ⟨Nat.le_of_ble_eq_true rfl, Nat.le_of_ble_eq_true rfl⟩ rfl hl.1 rfl (Nat.le_of_ble_eq_true rfl) dX12_skip_240 ⟨Nat.le_refl 0, Nat.le_refl 0⟩) X32271 (fun v32406 t32405 H lc q32403 X32404 => ?_)
                            unfold po_X12_peek_x at q32403
                            obtain ⟨q32407, q32408, q32409, q32410⟩ := q32403
                            rw [q32407] at X32404
                            rw [q32407] at q32409
                            rw [q32407] at q32410
                            have pk32411 : PKf bb nb f31733 v32406 := pk_b hB I31730 (F31731 131 3 (by simp [fz])) (fun j => F31731 132 j (by simp [fz])) z31735 (by omega) q32410
                            obtain ⟨e32412, e32413, e32414⟩ := PK_at pk32411 (by omega)
                            refine lv_i2l S.1.1 S.1.2.1 dX12_skip_243 rfl ?_
                            refine lv_topl (fun j32415 z32416 => ?_)
                            refine lv_lor S.1.1 S.1.2.1 dX12_skip_244 ?_
                            refine lv_topl (fun j32417 z32418 => ?_)
                            refine r_putJ (K := 38) S X32404 (Nat.le_of_ble_eq_true rfl) rfl lk12_170_10 (fun _ => ⟨_, rfl, Nat.le_of_ble_eq_true rfl, rfl⟩) (fun _ _ _ h => by cases h; exact ⟨rfl, rfl⟩) dX12_skip_245 (fun t32420 H lc M32421 X32419 => ?_)
                            have I32422 := Inv_ml I31730 M32421
                            have F32423 : Fr [(131, 4), (131, 11), (131, 12), (131, 13), (131, 14)] [331] τ t32420 := Fr_ml F31731 M32421 (by decide)
                            refine r_aload_n S dX12_skip_248 rfl (lv_at hl 1 rfl) ?_
                            refine r_geti (K := 38) S X32419 (Nat.le_of_ble_eq_true rfl) rfl lk12_154_10 (fun _ => ⟨_, rfl, rfl⟩) ((M32421.1 131 (by decide) 13).trans z31741) dX12_skip_249 ?_
                            refine r_iconst S dX12_skip_252 (by decide) (fun v32424 z32425 => ?_)
                            have r32426 := R_eq z32425
                            refine r_icmp_ge (tgt := 275) S dX12_skip_253 (by decide) (fun c32427 => ?_) (fun c32427 => ?_)
                            ·
                              have r32428 : R (2) (6) f31739 := ⟨by omega, by omega⟩
                              refine r_aload_n S dX12_skip_275 rfl (lv_at hl 1 rfl) ?_
                              refine r_dup S dX12_skip_276 rfl ?_
                              refine r_geti (K := 38) S X32419 (Nat.le_of_ble_eq_true rfl) rfl lk12_154_10 (fun _ => ⟨_, rfl, rfl⟩) ((M32421.1 131 (by decide) 13).trans z31741) dX12_skip_277 ?_
                              refine r_iconst S dX12_skip_280 (by decide) (fun v32429 z32430 => ?_)
                              have r32431 := R_eq z32430
                              refine r_iadd S dX12_skip_281 (fun v32432 z32433 => ?_)
                              obtain ⟨e32434, r32435⟩ := i_add (lo := 3) (hi := 7) z32433 r32428 r32431 rfl
                              refine r_put (K := 38) (ty := .int) S X32419 (Nat.le_of_ble_eq_true rfl) rfl lk12_154_10 (fun _ => ⟨_, rfl, Nat.le_of_ble_eq_true rfl, rfl⟩) (fun _ _ _ h => by cases h; exact ⟨rfl, rfl⟩) rfl rfl dX12_skip_282 (fun t32436 H lc M32437 X32438 => ?_)
                              have I32439 := Inv_mu I32422 M32437 (show Rg (kd 131) 13 v32432 from (R_of (lo := 0) (hi := 940) r32435 rfl))
                              have F32440 : Fr [(131, 4), (131, 11), (131, 12), (131, 13), (131, 14)] [331] τ t32436 := Fr_mu F32423 M32437 (by decide)
                              refine r_aload_n S dX12_skip_285 rfl (lv_at hl 1 rfl) ?_
                              refine r_dup S dX12_skip_286 rfl ?_
                              refine r_geti (K := 38) S X32438 (Nat.le_of_ble_eq_true rfl) rfl lk12_21_10 (fun _ => ⟨_, rfl, rfl⟩) ((M32437.2 131 4 (Or.inr (by decide))).trans ((M32421.1 131 (by decide) 4).trans z31735)) dX12_skip_287 ?_
                              refine r_iconst S dX12_skip_290 (by decide) (fun v32441 z32442 => ?_)
                              have r32443 := R_eq z32442
                              refine r_iadd S dX12_skip_291 (fun v32444 z32445 => ?_)
                              obtain ⟨e32446, r32447⟩ := i_add (lo := 1) (hi := 940) z32445 r32350 r32443 rfl
                              refine r_put (K := 38) (ty := .int) S X32438 (Nat.le_of_ble_eq_true rfl) rfl lk12_21_10 (fun _ => ⟨_, rfl, Nat.le_of_ble_eq_true rfl, rfl⟩) (fun _ _ _ h => by cases h; exact ⟨rfl, rfl⟩) rfl rfl dX12_skip_292 (fun t32448 H lc M32449 X32450 => ?_)
                              have I32451 := Inv_mu I32439 M32449 (show Rg (kd 131) 4 v32444 from (R_of (lo := 0) (hi := 940) r32447 rfl))
                              have F32452 : Fr [(131, 4), (131, 11), (131, 12), (131, 13), (131, 14)] [331] τ t32448 := Fr_mu F32440 M32449 (by decide)
                              refine r_goto (tgt := 181) S dX12_skip_295 (by decide) ?_
                              exact ih31748 t32448 _ _ _ v32358 v32444 v32432 f31742 X32450 I32451 F32452 (R_of r32360 rfl) M32449.1 ⟨by omega, by omega⟩ ((M32449.2 131 3 (Or.inr (by decide))).trans ((M32437.2 131 3 (Or.inr (by decide))).trans ((M32421.1 131 (by decide) 3).trans z31736))) ((M32449.2 131 5 (Or.inr (by decide))).trans ((M32437.2 131 5 (Or.inr (by decide))).trans ((M32421.1 131 (by decide) 5).trans z31737))) ((M32449.2 131 12 (Or.inr (by decide))).trans ((M32437.2 131 12 (Or.inr (by decide))).trans ((M32421.1 131 (by decide) 12).trans z31738))) ((M32449.2 131 13 (Or.inr (by decide))).trans M32437.1) ⟨by omega, by omega⟩ ((M32449.2 131 14 (Or.inr (by decide))).trans ((M32437.2 131 14 (Or.inr (by decide))).trans ((M32421.1 131 (by decide) 14).trans z31744))) ⟨by omega, by omega⟩ (LM_upq (i := f31733) (sp := f31739) (al := i31727) x31746 hs338 (by omega) (by omega) (LM_hw (x := v32406) (y := v32398) x31746 z32397 (by omega) (by rw [z32418, z32402, z32416]) ((qof_of (k := 131) (fun j => ((M32449.2 331 j (Or.inl (by decide))).trans ((M32437.2 331 j (Or.inl (by decide))).trans rfl))) 17).trans (Ml_upd M32421)) (by omega) (by omega)) (fun _ _ h => by exfalso; omega) (by omega) (by omega) (by omega)) (by omega) (lv_sub hl [1, 2, 0] rfl) (by omega)
                            ·
                              have r32453 : R (0) (1) f31739 := ⟨by omega, by omega⟩
                              refine r_aload_n S dX12_skip_256 rfl (lv_at hl 1 rfl) ?_
                              refine r_bipush S dX12_skip_257 (by decide) (fun v32454 z32455 => ?_)
                              have r32456 := R_eq z32455
                              refine r_aload_n S dX12_skip_259 rfl (lv_at hl 1 rfl) ?_
                              refine r_geti (K := 38) S X32419 (Nat.le_of_ble_eq_true rfl) rfl lk12_167_10 (fun _ => ⟨_, rfl, rfl⟩) ((M32421.1 131 (by decide) 14).trans z31744) dX12_skip_260 ?_
                              refine r_imul S dX12_skip_263 (fun v32457 z32458 => ?_)
                              have r32459 := R_any v32457
                              refine r_aload_n S dX12_skip_264 rfl (lv_at hl 1 rfl) ?_
                              refine r_ki (q_V (As := []) (rest := [.int v32457, .ref (G.2.2.2.1 131)]) (K := 38) (ci := 10) S X32419 (c_X12_peek_x l G t32420 I32422 ) ck12_147 (Nat.le_of_ble_eq_true rfl) rfl (fun _ => ⟨_, rfl⟩) ⟨_, _, rfl⟩ ⟨Nat.le_of_ble_eq_true rfl, Nat.le_of_ble_eq_true rfl⟩ rfl hl.1 rfl (Nat.le_of_ble_eq_true rfl) dX12_skip_265 ⟨Nat.le_refl 0, Nat.le_refl 0⟩) X32419 (fun v32463 t32462 H lc q32460 X32461 => ?_)
                              unfold po_X12_peek_x at q32460
                              obtain ⟨q32464, q32465, q32466, q32467⟩ := q32460
                              rw [q32464] at X32461
                              rw [q32464] at q32466
                              rw [q32464] at q32467
                              have pk32468 : PKf bb nb f31733 v32463 := pk_b hB I32422 (F32423 131 3 (by simp [fz])) (fun j => F32423 132 j (by simp [fz])) ((M32421.1 131 (by decide) 4).trans z31735) (by omega) q32467
                              obtain ⟨e32469, e32470, e32471⟩ := PK_at pk32468 (by omega)
                              refine r_iadd S dX12_skip_268 (fun v32472 z32473 => ?_)
                              have r32474 := R_any v32472
                              refine r_bipush S dX12_skip_269 (by decide) (fun v32475 z32476 => ?_)
                              have r32477 := R_eq z32476
                              refine r_isub S dX12_skip_271 (fun v32478 z32479 => ?_)
                              have r32480 := R_any v32478
                              refine r_put (K := 38) (ty := .int) S X32461 (Nat.le_of_ble_eq_true rfl) rfl lk12_167_10 (fun _ => ⟨_, rfl, Nat.le_of_ble_eq_true rfl, rfl⟩) (fun _ _ _ h => by cases h; exact ⟨rfl, rfl⟩) rfl rfl dX12_skip_272 (fun t32481 H lc M32482 X32483 => ?_)
                              have I32484 := Inv_mu I32422 M32482 (R_any v32478)
                              have F32485 : Fr [(131, 4), (131, 11), (131, 12), (131, 13), (131, 14)] [331] τ t32481 := Fr_mu F32423 M32482 (by decide)
                              refine r_aload_n S dX12_skip_275 rfl (lv_at hl 1 rfl) ?_
                              refine r_dup S dX12_skip_276 rfl ?_
                              refine r_geti (K := 38) S X32483 (Nat.le_of_ble_eq_true rfl) rfl lk12_154_10 (fun _ => ⟨_, rfl, rfl⟩) ((M32482.2 131 13 (Or.inr (by decide))).trans ((M32421.1 131 (by decide) 13).trans z31741)) dX12_skip_277 ?_
                              refine r_iconst S dX12_skip_280 (by decide) (fun v32486 z32487 => ?_)
                              have r32488 := R_eq z32487
                              refine r_iadd S dX12_skip_281 (fun v32489 z32490 => ?_)
                              obtain ⟨e32491, r32492⟩ := i_add (lo := 1) (hi := 2) z32490 r32453 r32488 rfl
                              refine r_put (K := 38) (ty := .int) S X32483 (Nat.le_of_ble_eq_true rfl) rfl lk12_154_10 (fun _ => ⟨_, rfl, Nat.le_of_ble_eq_true rfl, rfl⟩) (fun _ _ _ h => by cases h; exact ⟨rfl, rfl⟩) rfl rfl dX12_skip_282 (fun t32493 H lc M32494 X32495 => ?_)
                              have I32496 := Inv_mu I32484 M32494 (show Rg (kd 131) 13 v32489 from (R_of (lo := 0) (hi := 940) r32492 rfl))
                              have F32497 : Fr [(131, 4), (131, 11), (131, 12), (131, 13), (131, 14)] [331] τ t32493 := Fr_mu F32485 M32494 (by decide)
                              refine r_aload_n S dX12_skip_285 rfl (lv_at hl 1 rfl) ?_
                              refine r_dup S dX12_skip_286 rfl ?_
                              refine r_geti (K := 38) S X32495 (Nat.le_of_ble_eq_true rfl) rfl lk12_21_10 (fun _ => ⟨_, rfl, rfl⟩) ((M32494.2 131 4 (Or.inr (by decide))).trans ((M32482.2 131 4 (Or.inr (by decide))).trans ((M32421.1 131 (by decide) 4).trans z31735))) dX12_skip_287 ?_
                              refine r_iconst S dX12_skip_290 (by decide) (fun v32498 z32499 => ?_)
                              have r32500 := R_eq z32499
                              refine r_iadd S dX12_skip_291 (fun v32501 z32502 => ?_)
                              obtain ⟨e32503, r32504⟩ := i_add (lo := 1) (hi := 940) z32502 r32350 r32500 rfl
                              refine r_put (K := 38) (ty := .int) S X32495 (Nat.le_of_ble_eq_true rfl) rfl lk12_21_10 (fun _ => ⟨_, rfl, Nat.le_of_ble_eq_true rfl, rfl⟩) (fun _ _ _ h => by cases h; exact ⟨rfl, rfl⟩) rfl rfl dX12_skip_292 (fun t32505 H lc M32506 X32507 => ?_)
                              have I32508 := Inv_mu I32496 M32506 (show Rg (kd 131) 4 v32501 from (R_of (lo := 0) (hi := 940) r32504 rfl))
                              have F32509 : Fr [(131, 4), (131, 11), (131, 12), (131, 13), (131, 14)] [331] τ t32505 := Fr_mu F32497 M32506 (by decide)
                              refine r_goto (tgt := 181) S dX12_skip_295 (by decide) ?_
                              exact ih31748 t32505 _ _ _ v32358 v32501 v32489 v32478 X32507 I32508 F32509 (R_of r32360 rfl) M32506.1 ⟨by omega, by omega⟩ ((M32506.2 131 3 (Or.inr (by decide))).trans ((M32494.2 131 3 (Or.inr (by decide))).trans ((M32482.2 131 3 (Or.inr (by decide))).trans ((M32421.1 131 (by decide) 3).trans z31736)))) ((M32506.2 131 5 (Or.inr (by decide))).trans ((M32494.2 131 5 (Or.inr (by decide))).trans ((M32482.2 131 5 (Or.inr (by decide))).trans ((M32421.1 131 (by decide) 5).trans z31737)))) ((M32506.2 131 12 (Or.inr (by decide))).trans ((M32494.2 131 12 (Or.inr (by decide))).trans ((M32482.2 131 12 (Or.inr (by decide))).trans ((M32421.1 131 (by decide) 12).trans z31738)))) ((M32506.2 131 13 (Or.inr (by decide))).trans M32494.1) ⟨by omega, by omega⟩ ((M32506.2 131 14 (Or.inr (by decide))).trans ((M32494.2 131 14 (Or.inr (by decide))).trans M32482.1)) ⟨by omega, by omega⟩ (LM_upq (i := f31733) (sp := f31739) (al := i31727) x31746 hs338 (by omega) (by omega) (LM_hw (x := v32406) (y := v32398) x31746 z32397 (by omega) (by rw [z32418, z32402, z32416]) ((qof_of (k := 131) (fun j => ((M32506.2 331 j (Or.inl (by decide))).trans ((M32494.2 331 j (Or.inl (by decide))).trans ((M32482.2 331 j (Or.inl (by decide))).trans rfl)))) 17).trans (Ml_upd M32421)) (by omega) (by omega)) (LM_hn (c := v32454) (x := v32463) (d := v32475) x31746 (by omega) z32458 z32473 (by omega) z32479 (by omega) (by omega)) (by omega) (by omega) (by omega)) (by omega) (lv_sub hl [1, 2, 0] rfl) (by omega)
                        ·
                          have r32510 : R (1) (1) i31727 := ⟨by omega, by omega⟩
                          refine r_aload_n S dX12_skip_205 rfl (lv_at hl 0 rfl) ?_
                          refine r_ki (q_V (As := []) (rest := []) (K := 38) (ci := 10) S X32271 (c_X12_peek_x l G t31729 I31730 ) ck12_147 (Nat.le_of_ble_eq_true rfl) rfl (fun _ => ⟨_, rfl⟩) ⟨_, _, rfl⟩ ⟨Nat.le_of_ble_eq_true rfl, Nat.le_of_ble_eq_true rfl⟩ rfl hl.1 rfl (Nat.le_of_ble_eq_true rfl) dX12_skip_206 ⟨Nat.le_refl 0, Nat.le_refl 0⟩) X32271 (fun v32514 t32513 H lc q32511 X32512 => ?_)
                          unfold po_X12_peek_x at q32511
                          obtain ⟨q32515, q32516, q32517, q32518⟩ := q32511
                          rw [q32515] at X32512
                          rw [q32515] at q32517
                          rw [q32515] at q32518
                          have pk32519 : PKf bb nb f31733 v32514 := pk_b hB I31730 (F31731 131 3 (by simp [fz])) (fun j => F31731 132 j (by simp [fz])) z31735 (by omega) q32518
                          obtain ⟨e32520, e32521, e32522⟩ := PK_at pk32519 (by omega)
                          refine r_ki (q_S (As := [.int v32514]) (rest := []) S X32512 (c_X12_isSmall_x l G t31729 I31730 v32514 (R_of (lo := -2147483648) (hi := 2147483647) q32516 rfl)) ck12_160 ⟨Nat.le_of_ble_eq_true rfl, Nat.le_of_ble_eq_true rfl⟩ rfl hl.1 rfl (Nat.le_of_ble_eq_true rfl) dX12_skip_209 ⟨Nat.le_refl 0, Nat.le_refl 0⟩) X32512 (fun v32526 t32525 H lc q32523 X32524 => ?_)
                          unfold po_X12_isSmall_x at q32523
                          obtain ⟨q32527, q32528, q32529, q32530⟩ := q32523
                          rw [q32527] at X32524
                          refine r_iload_n S dX12_skip_212 rfl (lv_at hl 1 rfl) ?_
                          refine r_icmp_ne (tgt := 220) S dX12_skip_213 (by decide) (fun c32531 => ?_) (fun c32531 => ?_)
                          ·
                            refine r_iconst S dX12_skip_220 (by decide) (fun v32532 z32533 => ?_)
                            have r32534 := R_eq z32533
                            refine r_istore_n (lv' := [(3, .int v32532), (0, .ref (G.2.2.2.1 131)), (2, .int v330)]) S dX12_skip_221 rfl hl (by decide) rfl (fun ls hl => ?_)
                            refine r_aload_n S dX12_skip_222 rfl (lv_at hl 1 rfl) ?_
                            refine r_geti (K := 38) S X32524 (Nat.le_of_ble_eq_true rfl) rfl lk12_154_10 (fun _ => ⟨_, rfl, rfl⟩) z31741 dX12_skip_223 ?_
                            refine r_bipush S dX12_skip_226 (by decide) (fun v32535 z32536 => ?_)
                            have r32537 := R_eq z32536
                            refine r_icmp_ge (tgt := 248) S dX12_skip_228 (by decide) (fun c32538 => ?_) (fun c32538 => ?_)
                            ·
                              have r32539 : R (7) (940) f31739 := ⟨by omega, by omega⟩
                              refine r_aload_n S dX12_skip_248 rfl (lv_at hl 1 rfl) ?_
                              refine r_geti (K := 38) S X32524 (Nat.le_of_ble_eq_true rfl) rfl lk12_154_10 (fun _ => ⟨_, rfl, rfl⟩) z31741 dX12_skip_249 ?_
                              refine r_iconst S dX12_skip_252 (by decide) (fun v32540 z32541 => ?_)
                              have r32542 := R_eq z32541
                              refine r_icmp_ge (tgt := 275) S dX12_skip_253 (by decide) (fun c32543 => ?_) (fun c32543 => ?_)
                              ·
                                refine r_aload_n S dX12_skip_275 rfl (lv_at hl 1 rfl) ?_
                                refine r_dup S dX12_skip_276 rfl ?_
                                refine r_geti (K := 38) S X32524 (Nat.le_of_ble_eq_true rfl) rfl lk12_154_10 (fun _ => ⟨_, rfl, rfl⟩) z31741 dX12_skip_277 ?_
                                refine r_iconst S dX12_skip_280 (by decide) (fun v32544 z32545 => ?_)
                                have r32546 := R_eq z32545
                                refine r_iadd S dX12_skip_281 (fun v32547 z32548 => ?_)
                                obtain ⟨e32549, r32550⟩ := i_add (lo := 8) (hi := 941) z32548 r32539 r32546 rfl
                                refine r_put (K := 38) (ty := .int) S X32524 (Nat.le_of_ble_eq_true rfl) rfl lk12_154_10 (fun _ => ⟨_, rfl, Nat.le_of_ble_eq_true rfl, rfl⟩) (fun _ _ _ h => by cases h; exact ⟨rfl, rfl⟩) rfl rfl dX12_skip_282 (fun t32551 H lc M32552 X32553 => ?_)
                                have I32554 := Inv_mu I31730 M32552 (show Rg (kd 131) 13 v32547 from (show R (0) (940) v32547 from ⟨by omega, by omega⟩))
                                have F32555 : Fr [(131, 4), (131, 11), (131, 12), (131, 13), (131, 14)] [331] τ t32551 := Fr_mu F31731 M32552 (by decide)
                                have r32556 : R (8) (940) v32547 := ⟨by omega, by omega⟩
                                refine r_aload_n S dX12_skip_285 rfl (lv_at hl 1 rfl) ?_
                                refine r_dup S dX12_skip_286 rfl ?_
                                refine r_geti (K := 38) S X32553 (Nat.le_of_ble_eq_true rfl) rfl lk12_21_10 (fun _ => ⟨_, rfl, rfl⟩) ((M32552.2 131 4 (Or.inr (by decide))).trans z31735) dX12_skip_287 ?_
                                refine r_iconst S dX12_skip_290 (by decide) (fun v32557 z32558 => ?_)
                                have r32559 := R_eq z32558
                                refine r_iadd S dX12_skip_291 (fun v32560 z32561 => ?_)
                                obtain ⟨e32562, r32563⟩ := i_add (lo := 1) (hi := 940) z32561 r32350 r32559 rfl
                                refine r_put (K := 38) (ty := .int) S X32553 (Nat.le_of_ble_eq_true rfl) rfl lk12_21_10 (fun _ => ⟨_, rfl, Nat.le_of_ble_eq_true rfl, rfl⟩) (fun _ _ _ h => by cases h; exact ⟨rfl, rfl⟩) rfl rfl dX12_skip_292 (fun t32564 H lc M32565 X32566 => ?_)
                                have I32567 := Inv_mu I32554 M32565 (show Rg (kd 131) 4 v32560 from (R_of (lo := 0) (hi := 940) r32563 rfl))
                                have F32568 : Fr [(131, 4), (131, 11), (131, 12), (131, 13), (131, 14)] [331] τ t32564 := Fr_mu F32555 M32565 (by decide)
                                refine r_goto (tgt := 181) S dX12_skip_295 (by decide) ?_
                                exact ih31748 t32564 _ _ _ v32532 v32560 v32547 f31742 X32566 I32567 F32568 (R_of r32534 rfl) M32565.1 ⟨by omega, by omega⟩ ((M32565.2 131 3 (Or.inr (by decide))).trans ((M32552.2 131 3 (Or.inr (by decide))).trans z31736)) ((M32565.2 131 5 (Or.inr (by decide))).trans ((M32552.2 131 5 (Or.inr (by decide))).trans z31737)) ((M32565.2 131 12 (Or.inr (by decide))).trans ((M32552.2 131 12 (Or.inr (by decide))).trans z31738)) ((M32565.2 131 13 (Or.inr (by decide))).trans M32552.1) ⟨by omega, by omega⟩ ((M32565.2 131 14 (Or.inr (by decide))).trans ((M32552.2 131 14 (Or.inr (by decide))).trans z31744)) ⟨by omega, by omega⟩ (by rw [(qof_of (k := 131) (fun j => ((M32565.2 331 j (Or.inl (by decide))).trans ((M32552.2 331 j (Or.inl (by decide))).trans rfl))) 17)]; exact LM_upq (i := f31733) (sp := f31739) (al := i31727) x31746 hs338 (by omega) (by omega) (fun _ _ h => by exfalso; omega) (fun _ _ h => by exfalso; omega) (by omega) (by omega) (by omega)) (by omega) (lv_sub hl [1, 2, 0] rfl) (by omega)
                              ·
                                exfalso; omega
                            ·
                              have r32569 : R (0) (6) f31739 := ⟨by omega, by omega⟩
                              refine r_aload_n S dX12_skip_231 rfl (lv_at hl 1 rfl) ?_
                              refine r_aload_n S dX12_skip_232 rfl (lv_at hl 1 rfl) ?_
                              refine r_getJ (K := 38) S X32524 (Nat.le_of_ble_eq_true rfl) rfl lk12_170_10 (fun _ => ⟨_, rfl, rfl⟩) dX12_skip_233 (fun j32570 z32571 => ?_)
                              refine r_bipush S dX12_skip_236 (by decide) (fun v32572 z32573 => ?_)
                              have r32574 := R_eq z32573
                              refine lv_lshl S.1.1 S.1.2.1 dX12_skip_238 rfl ?_
                              refine lv_topl (fun j32575 z32576 => ?_)
                              refine r_aload_n S dX12_skip_239 rfl (lv_at hl 1 rfl) ?_
                              refine r_ki (q_V (As := []) (rest := [.long j32575, .ref (G.2.2.2.1 131)]) (K := 38) (ci := 10) S X32524 (c_X12_peek_x l G t31729 I31730 ) ck12_147 (Nat.le_of_ble_eq_true rfl) rfl (fun _ => ⟨_, rfl⟩) ⟨_, _, rfl⟩ ⟨Nat.le_of_ble_eq_true rfl, Nat.le_of_ble_eq_true rfl⟩ rfl hl.1 rfl (Nat.le_of_ble_eq_true rfl) dX12_skip_240 ⟨Nat.le_refl 0, Nat.le_refl 0⟩) X32524 (fun v32580 t32579 H lc q32577 X32578 => ?_)
                              unfold po_X12_peek_x at q32577
                              obtain ⟨q32581, q32582, q32583, q32584⟩ := q32577
                              rw [q32581] at X32578
                              rw [q32581] at q32583
                              rw [q32581] at q32584
                              have pk32585 : PKf bb nb f31733 v32580 := pk_b hB I31730 (F31731 131 3 (by simp [fz])) (fun j => F31731 132 j (by simp [fz])) z31735 (by omega) q32584
                              obtain ⟨e32586, e32587, e32588⟩ := PK_at pk32585 (by omega)
                              refine lv_i2l S.1.1 S.1.2.1 dX12_skip_243 rfl ?_
                              refine lv_topl (fun j32589 z32590 => ?_)
                              refine lv_lor S.1.1 S.1.2.1 dX12_skip_244 ?_
                              refine lv_topl (fun j32591 z32592 => ?_)
                              refine r_putJ (K := 38) S X32578 (Nat.le_of_ble_eq_true rfl) rfl lk12_170_10 (fun _ => ⟨_, rfl, Nat.le_of_ble_eq_true rfl, rfl⟩) (fun _ _ _ h => by cases h; exact ⟨rfl, rfl⟩) dX12_skip_245 (fun t32594 H lc M32595 X32593 => ?_)
                              have I32596 := Inv_ml I31730 M32595
                              have F32597 : Fr [(131, 4), (131, 11), (131, 12), (131, 13), (131, 14)] [331] τ t32594 := Fr_ml F31731 M32595 (by decide)
                              refine r_aload_n S dX12_skip_248 rfl (lv_at hl 1 rfl) ?_
                              refine r_geti (K := 38) S X32593 (Nat.le_of_ble_eq_true rfl) rfl lk12_154_10 (fun _ => ⟨_, rfl, rfl⟩) ((M32595.1 131 (by decide) 13).trans z31741) dX12_skip_249 ?_
                              refine r_iconst S dX12_skip_252 (by decide) (fun v32598 z32599 => ?_)
                              have r32600 := R_eq z32599
                              refine r_icmp_ge (tgt := 275) S dX12_skip_253 (by decide) (fun c32601 => ?_) (fun c32601 => ?_)
                              ·
                                have r32602 : R (2) (6) f31739 := ⟨by omega, by omega⟩
                                refine r_aload_n S dX12_skip_275 rfl (lv_at hl 1 rfl) ?_
                                refine r_dup S dX12_skip_276 rfl ?_
                                refine r_geti (K := 38) S X32593 (Nat.le_of_ble_eq_true rfl) rfl lk12_154_10 (fun _ => ⟨_, rfl, rfl⟩) ((M32595.1 131 (by decide) 13).trans z31741) dX12_skip_277 ?_
                                refine r_iconst S dX12_skip_280 (by decide) (fun v32603 z32604 => ?_)
                                have r32605 := R_eq z32604
                                refine r_iadd S dX12_skip_281 (fun v32606 z32607 => ?_)
                                obtain ⟨e32608, r32609⟩ := i_add (lo := 3) (hi := 7) z32607 r32602 r32605 rfl
                                refine r_put (K := 38) (ty := .int) S X32593 (Nat.le_of_ble_eq_true rfl) rfl lk12_154_10 (fun _ => ⟨_, rfl, Nat.le_of_ble_eq_true rfl, rfl⟩) (fun _ _ _ h => by cases h; exact ⟨rfl, rfl⟩) rfl rfl dX12_skip_282 (fun t32610 H lc M32611 X32612 => ?_)
                                have I32613 := Inv_mu I32596 M32611 (show Rg (kd 131) 13 v32606 from (R_of (lo := 0) (hi := 940) r32609 rfl))
                                have F32614 : Fr [(131, 4), (131, 11), (131, 12), (131, 13), (131, 14)] [331] τ t32610 := Fr_mu F32597 M32611 (by decide)
                                refine r_aload_n S dX12_skip_285 rfl (lv_at hl 1 rfl) ?_
                                refine r_dup S dX12_skip_286 rfl ?_
                                refine r_geti (K := 38) S X32612 (Nat.le_of_ble_eq_true rfl) rfl lk12_21_10 (fun _ => ⟨_, rfl, rfl⟩) ((M32611.2 131 4 (Or.inr (by decide))).trans ((M32595.1 131 (by decide) 4).trans z31735)) dX12_skip_287 ?_
                                refine r_iconst S dX12_skip_290 (by decide) (fun v32615 z32616 => ?_)
                                have r32617 := R_eq z32616
                                refine r_iadd S dX12_skip_291 (fun v32618 z32619 => ?_)
                                obtain ⟨e32620, r32621⟩ := i_add (lo := 1) (hi := 940) z32619 r32350 r32617 rfl
                                refine r_put (K := 38) (ty := .int) S X32612 (Nat.le_of_ble_eq_true rfl) rfl lk12_21_10 (fun _ => ⟨_, rfl, Nat.le_of_ble_eq_true rfl, rfl⟩) (fun _ _ _ h => by cases h; exact ⟨rfl, rfl⟩) rfl rfl dX12_skip_292 (fun t32622 H lc M32623 X32624 => ?_)
                                have I32625 := Inv_mu I32613 M32623 (show Rg (kd 131) 4 v32618 from (R_of (lo := 0) (hi := 940) r32621 rfl))
                                have F32626 : Fr [(131, 4), (131, 11), (131, 12), (131, 13), (131, 14)] [331] τ t32622 := Fr_mu F32614 M32623 (by decide)
                                refine r_goto (tgt := 181) S dX12_skip_295 (by decide) ?_
                                exact ih31748 t32622 _ _ _ v32532 v32618 v32606 f31742 X32624 I32625 F32626 (R_of r32534 rfl) M32623.1 ⟨by omega, by omega⟩ ((M32623.2 131 3 (Or.inr (by decide))).trans ((M32611.2 131 3 (Or.inr (by decide))).trans ((M32595.1 131 (by decide) 3).trans z31736))) ((M32623.2 131 5 (Or.inr (by decide))).trans ((M32611.2 131 5 (Or.inr (by decide))).trans ((M32595.1 131 (by decide) 5).trans z31737))) ((M32623.2 131 12 (Or.inr (by decide))).trans ((M32611.2 131 12 (Or.inr (by decide))).trans ((M32595.1 131 (by decide) 12).trans z31738))) ((M32623.2 131 13 (Or.inr (by decide))).trans M32611.1) ⟨by omega, by omega⟩ ((M32623.2 131 14 (Or.inr (by decide))).trans ((M32611.2 131 14 (Or.inr (by decide))).trans ((M32595.1 131 (by decide) 14).trans z31744))) ⟨by omega, by omega⟩ (LM_upq (i := f31733) (sp := f31739) (al := i31727) x31746 hs338 (by omega) (by omega) (LM_hw (x := v32580) (y := v32572) x31746 z32571 (by omega) (by rw [z32592, z32576, z32590]) ((qof_of (k := 131) (fun j => ((M32623.2 331 j (Or.inl (by decide))).trans ((M32611.2 331 j (Or.inl (by decide))).trans rfl))) 17).trans (Ml_upd M32595)) (by omega) (by omega)) (fun _ _ h => by exfalso; omega) (by omega) (by omega) (by omega)) (by omega) (lv_sub hl [1, 2, 0] rfl) (by omega)
                              ·
                                have r32627 : R (0) (1) f31739 := ⟨by omega, by omega⟩
                                refine r_aload_n S dX12_skip_256 rfl (lv_at hl 1 rfl) ?_
                                refine r_bipush S dX12_skip_257 (by decide) (fun v32628 z32629 => ?_)
                                have r32630 := R_eq z32629
                                refine r_aload_n S dX12_skip_259 rfl (lv_at hl 1 rfl) ?_
                                refine r_geti (K := 38) S X32593 (Nat.le_of_ble_eq_true rfl) rfl lk12_167_10 (fun _ => ⟨_, rfl, rfl⟩) ((M32595.1 131 (by decide) 14).trans z31744) dX12_skip_260 ?_
                                refine r_imul S dX12_skip_263 (fun v32631 z32632 => ?_)
                                have r32633 := R_any v32631
                                refine r_aload_n S dX12_skip_264 rfl (lv_at hl 1 rfl) ?_
                                refine r_ki (q_V (As := []) (rest := [.int v32631, .ref (G.2.2.2.1 131)]) (K := 38) (ci := 10) S X32593 (c_X12_peek_x l G t32594 I32596 ) ck12_147 (Nat.le_of_ble_eq_true rfl) rfl (fun _ => ⟨_, rfl⟩) ⟨_, _, rfl⟩ ⟨Nat.le_of_ble_eq_true rfl, Nat.le_of_ble_eq_true rfl⟩ rfl hl.1 rfl (Nat.le_of_ble_eq_true rfl) dX12_skip_265 ⟨Nat.le_refl 0, Nat.le_refl 0⟩) X32593 (fun v32637 t32636 H lc q32634 X32635 => ?_)
                                unfold po_X12_peek_x at q32634
                                obtain ⟨q32638, q32639, q32640, q32641⟩ := q32634
                                rw [q32638] at X32635
                                rw [q32638] at q32640
                                rw [q32638] at q32641
                                have pk32642 : PKf bb nb f31733 v32637 := pk_b hB I32596 (F32597 131 3 (by simp [fz])) (fun j => F32597 132 j (by simp [fz])) ((M32595.1 131 (by decide) 4).trans z31735) (by omega) q32641
                                obtain ⟨e32643, e32644, e32645⟩ := PK_at pk32642 (by omega)
                                refine r_iadd S dX12_skip_268 (fun v32646 z32647 => ?_)
                                have r32648 := R_any v32646
                                refine r_bipush S dX12_skip_269 (by decide) (fun v32649 z32650 => ?_)
                                have r32651 := R_eq z32650
                                refine r_isub S dX12_skip_271 (fun v32652 z32653 => ?_)
                                have r32654 := R_any v32652
                                refine r_put (K := 38) (ty := .int) S X32635 (Nat.le_of_ble_eq_true rfl) rfl lk12_167_10 (fun _ => ⟨_, rfl, Nat.le_of_ble_eq_true rfl, rfl⟩) (fun _ _ _ h => by cases h; exact ⟨rfl, rfl⟩) rfl rfl dX12_skip_272 (fun t32655 H lc M32656 X32657 => ?_)
                                have I32658 := Inv_mu I32596 M32656 (R_any v32652)
                                have F32659 : Fr [(131, 4), (131, 11), (131, 12), (131, 13), (131, 14)] [331] τ t32655 := Fr_mu F32597 M32656 (by decide)
                                refine r_aload_n S dX12_skip_275 rfl (lv_at hl 1 rfl) ?_
                                refine r_dup S dX12_skip_276 rfl ?_
                                refine r_geti (K := 38) S X32657 (Nat.le_of_ble_eq_true rfl) rfl lk12_154_10 (fun _ => ⟨_, rfl, rfl⟩) ((M32656.2 131 13 (Or.inr (by decide))).trans ((M32595.1 131 (by decide) 13).trans z31741)) dX12_skip_277 ?_
                                refine r_iconst S dX12_skip_280 (by decide) (fun v32660 z32661 => ?_)
                                have r32662 := R_eq z32661
                                refine r_iadd S dX12_skip_281 (fun v32663 z32664 => ?_)
                                obtain ⟨e32665, r32666⟩ := i_add (lo := 1) (hi := 2) z32664 r32627 r32662 rfl
                                refine r_put (K := 38) (ty := .int) S X32657 (Nat.le_of_ble_eq_true rfl) rfl lk12_154_10 (fun _ => ⟨_, rfl, Nat.le_of_ble_eq_true rfl, rfl⟩) (fun _ _ _ h => by cases h; exact ⟨rfl, rfl⟩) rfl rfl dX12_skip_282 (fun t32667 H lc M32668 X32669 => ?_)
                                have I32670 := Inv_mu I32658 M32668 (show Rg (kd 131) 13 v32663 from (R_of (lo := 0) (hi := 940) r32666 rfl))
                                have F32671 : Fr [(131, 4), (131, 11), (131, 12), (131, 13), (131, 14)] [331] τ t32667 := Fr_mu F32659 M32668 (by decide)
                                refine r_aload_n S dX12_skip_285 rfl (lv_at hl 1 rfl) ?_
                                refine r_dup S dX12_skip_286 rfl ?_
                                refine r_geti (K := 38) S X32669 (Nat.le_of_ble_eq_true rfl) rfl lk12_21_10 (fun _ => ⟨_, rfl, rfl⟩) ((M32668.2 131 4 (Or.inr (by decide))).trans ((M32656.2 131 4 (Or.inr (by decide))).trans ((M32595.1 131 (by decide) 4).trans z31735))) dX12_skip_287 ?_
                                refine r_iconst S dX12_skip_290 (by decide) (fun v32672 z32673 => ?_)
                                have r32674 := R_eq z32673
                                refine r_iadd S dX12_skip_291 (fun v32675 z32676 => ?_)
                                obtain ⟨e32677, r32678⟩ := i_add (lo := 1) (hi := 940) z32676 r32350 r32674 rfl
                                refine r_put (K := 38) (ty := .int) S X32669 (Nat.le_of_ble_eq_true rfl) rfl lk12_21_10 (fun _ => ⟨_, rfl, Nat.le_of_ble_eq_true rfl, rfl⟩) (fun _ _ _ h => by cases h; exact ⟨rfl, rfl⟩) rfl rfl dX12_skip_292 (fun t32679 H lc M32680 X32681 => ?_)
                                have I32682 := Inv_mu I32670 M32680 (show Rg (kd 131) 4 v32675 from (R_of (lo := 0) (hi := 940) r32678 rfl))
                                have F32683 : Fr [(131, 4), (131, 11), (131, 12), (131, 13), (131, 14)] [331] τ t32679 := Fr_mu F32671 M32680 (by decide)
                                refine r_goto (tgt := 181) S dX12_skip_295 (by decide) ?_
                                exact ih31748 t32679 _ _ _ v32532 v32675 v32663 v32652 X32681 I32682 F32683 (R_of r32534 rfl) M32680.1 ⟨by omega, by omega⟩ ((M32680.2 131 3 (Or.inr (by decide))).trans ((M32668.2 131 3 (Or.inr (by decide))).trans ((M32656.2 131 3 (Or.inr (by decide))).trans ((M32595.1 131 (by decide) 3).trans z31736)))) ((M32680.2 131 5 (Or.inr (by decide))).trans ((M32668.2 131 5 (Or.inr (by decide))).trans ((M32656.2 131 5 (Or.inr (by decide))).trans ((M32595.1 131 (by decide) 5).trans z31737)))) ((M32680.2 131 12 (Or.inr (by decide))).trans ((M32668.2 131 12 (Or.inr (by decide))).trans ((M32656.2 131 12 (Or.inr (by decide))).trans ((M32595.1 131 (by decide) 12).trans z31738)))) ((M32680.2 131 13 (Or.inr (by decide))).trans M32668.1) ⟨by omega, by omega⟩ ((M32680.2 131 14 (Or.inr (by decide))).trans ((M32668.2 131 14 (Or.inr (by decide))).trans M32656.1)) ⟨by omega, by omega⟩ (LM_upq (i := f31733) (sp := f31739) (al := i31727) x31746 hs338 (by omega) (by omega) (LM_hw (x := v32580) (y := v32572) x31746 z32571 (by omega) (by rw [z32592, z32576, z32590]) ((qof_of (k := 131) (fun j => ((M32680.2 331 j (Or.inl (by decide))).trans ((M32668.2 331 j (Or.inl (by decide))).trans ((M32656.2 331 j (Or.inl (by decide))).trans rfl)))) 17).trans (Ml_upd M32595)) (by omega) (by omega)) (LM_hn (c := v32628) (x := v32637) (d := v32649) x31746 (by omega) z32632 z32647 (by omega) z32653 (by omega) (by omega)) (by omega) (by omega) (by omega)) (by omega) (lv_sub hl [1, 2, 0] rfl) (by omega)
                          ·
                            refine r_iconst S dX12_skip_216 (by decide) (fun v32684 z32685 => ?_)
                            have r32686 := R_eq z32685
                            refine r_goto (tgt := 221) S dX12_skip_217 (by decide) ?_
                            refine r_istore_n (lv' := [(3, .int v32684), (0, .ref (G.2.2.2.1 131)), (2, .int v330)]) S dX12_skip_221 rfl hl (by decide) rfl (fun ls hl => ?_)
                            refine r_aload_n S dX12_skip_222 rfl (lv_at hl 1 rfl) ?_
                            refine r_geti (K := 38) S X32524 (Nat.le_of_ble_eq_true rfl) rfl lk12_154_10 (fun _ => ⟨_, rfl, rfl⟩) z31741 dX12_skip_223 ?_
                            refine r_bipush S dX12_skip_226 (by decide) (fun v32687 z32688 => ?_)
                            have r32689 := R_eq z32688
                            refine r_icmp_ge (tgt := 248) S dX12_skip_228 (by decide) (fun c32690 => ?_) (fun c32690 => ?_)
                            ·
                              have r32691 : R (7) (940) f31739 := ⟨by omega, by omega⟩
                              refine r_aload_n S dX12_skip_248 rfl (lv_at hl 1 rfl) ?_
                              refine r_geti (K := 38) S X32524 (Nat.le_of_ble_eq_true rfl) rfl lk12_154_10 (fun _ => ⟨_, rfl, rfl⟩) z31741 dX12_skip_249 ?_
                              refine r_iconst S dX12_skip_252 (by decide) (fun v32692 z32693 => ?_)
                              have r32694 := R_eq z32693
                              refine r_icmp_ge (tgt := 275) S dX12_skip_253 (by decide) (fun c32695 => ?_) (fun c32695 => ?_)
                              ·
                                refine r_aload_n S dX12_skip_275 rfl (lv_at hl 1 rfl) ?_
                                refine r_dup S dX12_skip_276 rfl ?_
                                refine r_geti (K := 38) S X32524 (Nat.le_of_ble_eq_true rfl) rfl lk12_154_10 (fun _ => ⟨_, rfl, rfl⟩) z31741 dX12_skip_277 ?_
                                refine r_iconst S dX12_skip_280 (by decide) (fun v32696 z32697 => ?_)
                                have r32698 := R_eq z32697
                                refine r_iadd S dX12_skip_281 (fun v32699 z32700 => ?_)
                                obtain ⟨e32701, r32702⟩ := i_add (lo := 8) (hi := 941) z32700 r32691 r32698 rfl
                                refine r_put (K := 38) (ty := .int) S X32524 (Nat.le_of_ble_eq_true rfl) rfl lk12_154_10 (fun _ => ⟨_, rfl, Nat.le_of_ble_eq_true rfl, rfl⟩) (fun _ _ _ h => by cases h; exact ⟨rfl, rfl⟩) rfl rfl dX12_skip_282 (fun t32703 H lc M32704 X32705 => ?_)
                                have I32706 := Inv_mu I31730 M32704 (show Rg (kd 131) 13 v32699 from (show R (0) (940) v32699 from ⟨by omega, by omega⟩))
                                have F32707 : Fr [(131, 4), (131, 11), (131, 12), (131, 13), (131, 14)] [331] τ t32703 := Fr_mu F31731 M32704 (by decide)
                                have r32708 : R (8) (940) v32699 := ⟨by omega, by omega⟩
                                refine r_aload_n S dX12_skip_285 rfl (lv_at hl 1 rfl) ?_
                                refine r_dup S dX12_skip_286 rfl ?_
                                refine r_geti (K := 38) S X32705 (Nat.le_of_ble_eq_true rfl) rfl lk12_21_10 (fun _ => ⟨_, rfl, rfl⟩) ((M32704.2 131 4 (Or.inr (by decide))).trans z31735) dX12_skip_287 ?_
                                refine r_iconst S dX12_skip_290 (by decide) (fun v32709 z32710 => ?_)
                                have r32711 := R_eq z32710
                                refine r_iadd S dX12_skip_291 (fun v32712 z32713 => ?_)
                                obtain ⟨e32714, r32715⟩ := i_add (lo := 1) (hi := 940) z32713 r32350 r32711 rfl
                                refine r_put (K := 38) (ty := .int) S X32705 (Nat.le_of_ble_eq_true rfl) rfl lk12_21_10 (fun _ => ⟨_, rfl, Nat.le_of_ble_eq_true rfl, rfl⟩) (fun _ _ _ h => by cases h; exact ⟨rfl, rfl⟩) rfl rfl dX12_skip_292 (fun t32716 H lc M32717 X32718 => ?_)
                                have I32719 := Inv_mu I32706 M32717 (show Rg (kd 131) 4 v32712 from (R_of (lo := 0) (hi := 940) r32715 rfl))
                                have F32720 : Fr [(131, 4), (131, 11), (131, 12), (131, 13), (131, 14)] [331] τ t32716 := Fr_mu F32707 M32717 (by decide)
                                refine r_goto (tgt := 181) S dX12_skip_295 (by decide) ?_
                                exact ih31748 t32716 _ _ _ v32684 v32712 v32699 f31742 X32718 I32719 F32720 (R_of r32686 rfl) M32717.1 ⟨by omega, by omega⟩ ((M32717.2 131 3 (Or.inr (by decide))).trans ((M32704.2 131 3 (Or.inr (by decide))).trans z31736)) ((M32717.2 131 5 (Or.inr (by decide))).trans ((M32704.2 131 5 (Or.inr (by decide))).trans z31737)) ((M32717.2 131 12 (Or.inr (by decide))).trans ((M32704.2 131 12 (Or.inr (by decide))).trans z31738)) ((M32717.2 131 13 (Or.inr (by decide))).trans M32704.1) ⟨by omega, by omega⟩ ((M32717.2 131 14 (Or.inr (by decide))).trans ((M32704.2 131 14 (Or.inr (by decide))).trans z31744)) ⟨by omega, by omega⟩ (by rw [(qof_of (k := 131) (fun j => ((M32717.2 331 j (Or.inl (by decide))).trans ((M32704.2 331 j (Or.inl (by decide))).trans rfl))) 17)]; exact LM_upq (i := f31733) (sp := f31739) (al := i31727) x31746 hs338 (by omega) (by omega) (fun _ _ h => by exfalso; omega) (fun _ _ h => by exfalso; omega) (by omega) (by omega) (by omega)) (by omega) (lv_sub hl [1, 2, 0] rfl) (by omega)
                              ·
                                exfalso; omega
                            ·
                              have r32721 : R (0) (6) f31739 := ⟨by omega, by omega⟩
                              refine r_aload_n S dX12_skip_231 rfl (lv_at hl 1 rfl) ?_
                              refine r_aload_n S dX12_skip_232 rfl (lv_at hl 1 rfl) ?_
                              refine r_getJ (K := 38) S X32524 (Nat.le_of_ble_eq_true rfl) rfl lk12_170_10 (fun _ => ⟨_, rfl, rfl⟩) dX12_skip_233 (fun j32722 z32723 => ?_)
                              refine r_bipush S dX12_skip_236 (by decide) (fun v32724 z32725 => ?_)
                              have r32726 := R_eq z32725
                              refine lv_lshl S.1.1 S.1.2.1 dX12_skip_238 rfl ?_
                              refine lv_topl (fun j32727 z32728 => ?_)
                              refine r_aload_n S dX12_skip_239 rfl (lv_at hl 1 rfl) ?_
                              refine r_ki (q_V (As := []) (rest := [.long j32727, .ref (G.2.2.2.1 131)]) (K := 38) (ci := 10) S X32524 (c_X12_peek_x l G t31729 I31730 ) ck12_147 (Nat.le_of_ble_eq_true rfl) rfl (fun _ => ⟨_, rfl⟩) ⟨_, _, rfl⟩ ⟨Nat.le_of_ble_eq_true rfl, Nat.le_of_ble_eq_true rfl⟩ rfl hl.1 rfl (Nat.le_of_ble_eq_true rfl) dX12_skip_240 ⟨Nat.le_refl 0, Nat.le_refl 0⟩) X32524 (fun v32732 t32731 H lc q32729 X32730 => ?_)
                              unfold po_X12_peek_x at q32729
                              obtain ⟨q32733, q32734, q32735, q32736⟩ := q32729
                              rw [q32733] at X32730
                              rw [q32733] at q32735
                              rw [q32733] at q32736
                              have pk32737 : PKf bb nb f31733 v32732 := pk_b hB I31730 (F31731 131 3 (by simp [fz])) (fun j => F31731 132 j (by simp [fz])) z31735 (by omega) q32736
                              obtain ⟨e32738, e32739, e32740⟩ := PK_at pk32737 (by omega)
                              refine lv_i2l S.1.1 S.1.2.1 dX12_skip_243 rfl ?_
                              refine lv_topl (fun j32741 z32742 => ?_)
                              refine lv_lor S.1.1 S.1.2.1 dX12_skip_244 ?_
                              refine lv_topl (fun j32743 z32744 => ?_)
                              refine r_putJ (K := 38) S X32730 (Nat.le_of_ble_eq_true rfl) rfl lk12_170_10 (fun _ => ⟨_, rfl, Nat.le_of_ble_eq_true rfl, rfl⟩) (fun _ _ _ h => by cases h; exact ⟨rfl, rfl⟩) dX12_skip_245 (fun t32746 H lc M32747 X32745 => ?_)
                              have I32748 := Inv_ml I31730 M32747
                              have F32749 : Fr [(131, 4), (131, 11), (131, 12), (131, 13), (131, 14)] [331] τ t32746 := Fr_ml F31731 M32747 (by decide)
                              refine r_aload_n S dX12_skip_248 rfl (lv_at hl 1 rfl) ?_
                              refine r_geti (K := 38) S X32745 (Nat.le_of_ble_eq_true rfl) rfl lk12_154_10 (fun _ => ⟨_, rfl, rfl⟩) ((M32747.1 131 (by decide) 13).trans z31741) dX12_skip_249 ?_
                              refine r_iconst S dX12_skip_252 (by decide) (fun v32750 z32751 => ?_)
                              have r32752 := R_eq z32751
                              refine r_icmp_ge (tgt := 275) S dX12_skip_253 (by decide) (fun c32753 => ?_) (fun c32753 => ?_)
                              ·
                                have r32754 : R (2) (6) f31739 := ⟨by omega, by omega⟩
                                refine r_aload_n S dX12_skip_275 rfl (lv_at hl 1 rfl) ?_
                                refine r_dup S dX12_skip_276 rfl ?_
                                refine r_geti (K := 38) S X32745 (Nat.le_of_ble_eq_true rfl) rfl lk12_154_10 (fun _ => ⟨_, rfl, rfl⟩) ((M32747.1 131 (by decide) 13).trans z31741) dX12_skip_277 ?_
                                refine r_iconst S dX12_skip_280 (by decide) (fun v32755 z32756 => ?_)
                                have r32757 := R_eq z32756
                                refine r_iadd S dX12_skip_281 (fun v32758 z32759 => ?_)
                                obtain ⟨e32760, r32761⟩ := i_add (lo := 3) (hi := 7) z32759 r32754 r32757 rfl
                                refine r_put (K := 38) (ty := .int) S X32745 (Nat.le_of_ble_eq_true rfl) rfl lk12_154_10 (fun _ => ⟨_, rfl, Nat.le_of_ble_eq_true rfl, rfl⟩) (fun _ _ _ h => by cases h; exact ⟨rfl, rfl⟩) rfl rfl dX12_skip_282 (fun t32762 H lc M32763 X32764 => ?_)
                                have I32765 := Inv_mu I32748 M32763 (show Rg (kd 131) 13 v32758 from (R_of (lo := 0) (hi := 940) r32761 rfl))
                                have F32766 : Fr [(131, 4), (131, 11), (131, 12), (131, 13), (131, 14)] [331] τ t32762 := Fr_mu F32749 M32763 (by decide)
                                refine r_aload_n S dX12_skip_285 rfl (lv_at hl 1 rfl) ?_
                                refine r_dup S dX12_skip_286 rfl ?_
                                refine r_geti (K := 38) S X32764 (Nat.le_of_ble_eq_true rfl) rfl lk12_21_10 (fun _ => ⟨_, rfl, rfl⟩) ((M32763.2 131 4 (Or.inr (by decide))).trans ((M32747.1 131 (by decide) 4).trans z31735)) dX12_skip_287 ?_
                                refine r_iconst S dX12_skip_290 (by decide) (fun v32767 z32768 => ?_)
                                have r32769 := R_eq z32768
                                refine r_iadd S dX12_skip_291 (fun v32770 z32771 => ?_)
                                obtain ⟨e32772, r32773⟩ := i_add (lo := 1) (hi := 940) z32771 r32350 r32769 rfl
                                refine r_put (K := 38) (ty := .int) S X32764 (Nat.le_of_ble_eq_true rfl) rfl lk12_21_10 (fun _ => ⟨_, rfl, Nat.le_of_ble_eq_true rfl, rfl⟩) (fun _ _ _ h => by cases h; exact ⟨rfl, rfl⟩) rfl rfl dX12_skip_292 (fun t32774 H lc M32775 X32776 => ?_)
                                have I32777 := Inv_mu I32765 M32775 (show Rg (kd 131) 4 v32770 from (R_of (lo := 0) (hi := 940) r32773 rfl))
                                have F32778 : Fr [(131, 4), (131, 11), (131, 12), (131, 13), (131, 14)] [331] τ t32774 := Fr_mu F32766 M32775 (by decide)
                                refine r_goto (tgt := 181) S dX12_skip_295 (by decide) ?_
                                exact ih31748 t32774 _ _ _ v32684 v32770 v32758 f31742 X32776 I32777 F32778 (R_of r32686 rfl) M32775.1 ⟨by omega, by omega⟩ ((M32775.2 131 3 (Or.inr (by decide))).trans ((M32763.2 131 3 (Or.inr (by decide))).trans ((M32747.1 131 (by decide) 3).trans z31736))) ((M32775.2 131 5 (Or.inr (by decide))).trans ((M32763.2 131 5 (Or.inr (by decide))).trans ((M32747.1 131 (by decide) 5).trans z31737))) ((M32775.2 131 12 (Or.inr (by decide))).trans ((M32763.2 131 12 (Or.inr (by decide))).trans ((M32747.1 131 (by decide) 12).trans z31738))) ((M32775.2 131 13 (Or.inr (by decide))).trans M32763.1) ⟨by omega, by omega⟩ ((M32775.2 131 14 (Or.inr (by decide))).trans ((M32763.2 131 14 (Or.inr (by decide))).trans ((M32747.1 131 (by decide) 14).trans z31744))) ⟨by omega, by omega⟩ (LM_upq (i := f31733) (sp := f31739) (al := i31727) x31746 hs338 (by omega) (by omega) (LM_hw (x := v32732) (y := v32724) x31746 z32723 (by omega) (by rw [z32744, z32728, z32742]) ((qof_of (k := 131) (fun j => ((M32775.2 331 j (Or.inl (by decide))).trans ((M32763.2 331 j (Or.inl (by decide))).trans rfl))) 17).trans (Ml_upd M32747)) (by omega) (by omega)) (fun _ _ h => by exfalso; omega) (by omega) (by omega) (by omega)) (by omega) (lv_sub hl [1, 2, 0] rfl) (by omega)
                              ·
                                have r32779 : R (0) (1) f31739 := ⟨by omega, by omega⟩
                                refine r_aload_n S dX12_skip_256 rfl (lv_at hl 1 rfl) ?_
                                refine r_bipush S dX12_skip_257 (by decide) (fun v32780 z32781 => ?_)
                                have r32782 := R_eq z32781
                                refine r_aload_n S dX12_skip_259 rfl (lv_at hl 1 rfl) ?_
                                refine r_geti (K := 38) S X32745 (Nat.le_of_ble_eq_true rfl) rfl lk12_167_10 (fun _ => ⟨_, rfl, rfl⟩) ((M32747.1 131 (by decide) 14).trans z31744) dX12_skip_260 ?_
                                refine r_imul S dX12_skip_263 (fun v32783 z32784 => ?_)
                                have r32785 := R_any v32783
                                refine r_aload_n S dX12_skip_264 rfl (lv_at hl 1 rfl) ?_
                                refine r_ki (q_V (As := []) (rest := [.int v32783, .ref (G.2.2.2.1 131)]) (K := 38) (ci := 10) S X32745 (c_X12_peek_x l G t32746 I32748 ) ck12_147 (Nat.le_of_ble_eq_true rfl) rfl (fun _ => ⟨_, rfl⟩) ⟨_, _, rfl⟩ ⟨Nat.le_of_ble_eq_true rfl, Nat.le_of_ble_eq_true rfl⟩ rfl hl.1 rfl (Nat.le_of_ble_eq_true rfl) dX12_skip_265 ⟨Nat.le_refl 0, Nat.le_refl 0⟩) X32745 (fun v32789 t32788 H lc q32786 X32787 => ?_)
                                unfold po_X12_peek_x at q32786
                                obtain ⟨q32790, q32791, q32792, q32793⟩ := q32786
                                rw [q32790] at X32787
                                rw [q32790] at q32792
                                rw [q32790] at q32793
                                have pk32794 : PKf bb nb f31733 v32789 := pk_b hB I32748 (F32749 131 3 (by simp [fz])) (fun j => F32749 132 j (by simp [fz])) ((M32747.1 131 (by decide) 4).trans z31735) (by omega) q32793
                                obtain ⟨e32795, e32796, e32797⟩ := PK_at pk32794 (by omega)
                                refine r_iadd S dX12_skip_268 (fun v32798 z32799 => ?_)
                                have r32800 := R_any v32798
                                refine r_bipush S dX12_skip_269 (by decide) (fun v32801 z32802 => ?_)
                                have r32803 := R_eq z32802
                                refine r_isub S dX12_skip_271 (fun v32804 z32805 => ?_)
                                have r32806 := R_any v32804
                                refine r_put (K := 38) (ty := .int) S X32787 (Nat.le_of_ble_eq_true rfl) rfl lk12_167_10 (fun _ => ⟨_, rfl, Nat.le_of_ble_eq_true rfl, rfl⟩) (fun _ _ _ h => by cases h; exact ⟨rfl, rfl⟩) rfl rfl dX12_skip_272 (fun t32807 H lc M32808 X32809 => ?_)
                                have I32810 := Inv_mu I32748 M32808 (R_any v32804)
                                have F32811 : Fr [(131, 4), (131, 11), (131, 12), (131, 13), (131, 14)] [331] τ t32807 := Fr_mu F32749 M32808 (by decide)
                                refine r_aload_n S dX12_skip_275 rfl (lv_at hl 1 rfl) ?_
                                refine r_dup S dX12_skip_276 rfl ?_
                                refine r_geti (K := 38) S X32809 (Nat.le_of_ble_eq_true rfl) rfl lk12_154_10 (fun _ => ⟨_, rfl, rfl⟩) ((M32808.2 131 13 (Or.inr (by decide))).trans ((M32747.1 131 (by decide) 13).trans z31741)) dX12_skip_277 ?_
                                refine r_iconst S dX12_skip_280 (by decide) (fun v32812 z32813 => ?_)
                                have r32814 := R_eq z32813
                                refine r_iadd S dX12_skip_281 (fun v32815 z32816 => ?_)
                                obtain ⟨e32817, r32818⟩ := i_add (lo := 1) (hi := 2) z32816 r32779 r32814 rfl
                                refine r_put (K := 38) (ty := .int) S X32809 (Nat.le_of_ble_eq_true rfl) rfl lk12_154_10 (fun _ => ⟨_, rfl, Nat.le_of_ble_eq_true rfl, rfl⟩) (fun _ _ _ h => by cases h; exact ⟨rfl, rfl⟩) rfl rfl dX12_skip_282 (fun t32819 H lc M32820 X32821 => ?_)
                                have I32822 := Inv_mu I32810 M32820 (show Rg (kd 131) 13 v32815 from (R_of (lo := 0) (hi := 940) r32818 rfl))
                                have F32823 : Fr [(131, 4), (131, 11), (131, 12), (131, 13), (131, 14)] [331] τ t32819 := Fr_mu F32811 M32820 (by decide)
                                refine r_aload_n S dX12_skip_285 rfl (lv_at hl 1 rfl) ?_
                                refine r_dup S dX12_skip_286 rfl ?_
                                refine r_geti (K := 38) S X32821 (Nat.le_of_ble_eq_true rfl) rfl lk12_21_10 (fun _ => ⟨_, rfl, rfl⟩) ((M32820.2 131 4 (Or.inr (by decide))).trans ((M32808.2 131 4 (Or.inr (by decide))).trans ((M32747.1 131 (by decide) 4).trans z31735))) dX12_skip_287 ?_
                                refine r_iconst S dX12_skip_290 (by decide) (fun v32824 z32825 => ?_)
                                have r32826 := R_eq z32825
                                refine r_iadd S dX12_skip_291 (fun v32827 z32828 => ?_)
                                obtain ⟨e32829, r32830⟩ := i_add (lo := 1) (hi := 940) z32828 r32350 r32826 rfl
                                refine r_put (K := 38) (ty := .int) S X32821 (Nat.le_of_ble_eq_true rfl) rfl lk12_21_10 (fun _ => ⟨_, rfl, Nat.le_of_ble_eq_true rfl, rfl⟩) (fun _ _ _ h => by cases h; exact ⟨rfl, rfl⟩) rfl rfl dX12_skip_292 (fun t32831 H lc M32832 X32833 => ?_)
                                have I32834 := Inv_mu I32822 M32832 (show Rg (kd 131) 4 v32827 from (R_of (lo := 0) (hi := 940) r32830 rfl))
                                have F32835 : Fr [(131, 4), (131, 11), (131, 12), (131, 13), (131, 14)] [331] τ t32831 := Fr_mu F32823 M32832 (by decide)
                                refine r_goto (tgt := 181) S dX12_skip_295 (by decide) ?_
                                exact ih31748 t32831 _ _ _ v32684 v32827 v32815 v32804 X32833 I32834 F32835 (R_of r32686 rfl) M32832.1 ⟨by omega, by omega⟩ ((M32832.2 131 3 (Or.inr (by decide))).trans ((M32820.2 131 3 (Or.inr (by decide))).trans ((M32808.2 131 3 (Or.inr (by decide))).trans ((M32747.1 131 (by decide) 3).trans z31736)))) ((M32832.2 131 5 (Or.inr (by decide))).trans ((M32820.2 131 5 (Or.inr (by decide))).trans ((M32808.2 131 5 (Or.inr (by decide))).trans ((M32747.1 131 (by decide) 5).trans z31737)))) ((M32832.2 131 12 (Or.inr (by decide))).trans ((M32820.2 131 12 (Or.inr (by decide))).trans ((M32808.2 131 12 (Or.inr (by decide))).trans ((M32747.1 131 (by decide) 12).trans z31738)))) ((M32832.2 131 13 (Or.inr (by decide))).trans M32820.1) ⟨by omega, by omega⟩ ((M32832.2 131 14 (Or.inr (by decide))).trans ((M32820.2 131 14 (Or.inr (by decide))).trans M32808.1)) ⟨by omega, by omega⟩ (LM_upq (i := f31733) (sp := f31739) (al := i31727) x31746 hs338 (by omega) (by omega) (LM_hw (x := v32732) (y := v32724) x31746 z32723 (by omega) (by rw [z32744, z32728, z32742]) ((qof_of (k := 131) (fun j => ((M32832.2 331 j (Or.inl (by decide))).trans ((M32820.2 331 j (Or.inl (by decide))).trans ((M32808.2 331 j (Or.inl (by decide))).trans rfl)))) 17).trans (Ml_upd M32747)) (by omega) (by omega)) (LM_hn (c := v32780) (x := v32789) (d := v32801) x31746 (by omega) z32784 z32799 (by omega) z32805 (by omega) (by omega)) (by omega) (by omega) (by omega)) (by omega) (lv_sub hl [1, 2, 0] rfl) (by omega)
                exact L31745 _ t349 _ _ _ v335 f223 v281 v346 X351 I352 F353 (R_of r337 rfl) ((M350.2 131 4 (Or.inr (by decide))).trans ((M343.1 131 (by decide) 4).trans ((M285.2 131 4 (Or.inr (by decide))).trans ((M277.2 131 4 (Or.inr (by decide))).trans z225)))) ⟨by omega, by omega⟩ ((M350.2 131 3 (Or.inr (by decide))).trans ((M343.1 131 (by decide) 3).trans ((M285.2 131 3 (Or.inr (by decide))).trans ((M277.2 131 3 (Or.inr (by decide))).trans z226)))) ((M350.2 131 5 (Or.inr (by decide))).trans ((M343.1 131 (by decide) 5).trans ((M285.2 131 5 (Or.inr (by decide))).trans ((M277.2 131 5 (Or.inr (by decide))).trans z227)))) ((M350.2 131 12 (Or.inr (by decide))).trans ((M343.1 131 (by decide) 12).trans ((M285.2 131 12 (Or.inr (by decide))).trans M277.1))) ((M350.2 131 13 (Or.inr (by decide))).trans ((M343.1 131 (by decide) 13).trans M285.1)) ⟨by omega, by omega⟩ M350.1 ⟨by omega, by omega⟩ (LM_0q (by omega) (by omega) (by omega) ((qof_of (k := 131) (fun j => ((M350.2 331 j (Or.inl (by decide))).trans rfl)) 17).trans (Ml_upd M343)) z340) (by omega) (lv_sub hl [3, 1, 0] rfl) (Nat.lt_succ_self _)
              ·
                have r32836 : R (0) (0) v315 := ⟨by omega, by omega⟩
                refine r_iload_n S dX12_skip_102 rfl (lv_at hl 0 rfl) ?_
                refine r_ki (q_S (As := [.int v293]) (rest := []) S X313 (c_X12_isDigit_x l G t284 I287 v293 (R_of (lo := -2147483648) (hi := 2147483647) r300 rfl)) ck12_164 ⟨Nat.le_of_ble_eq_true rfl, Nat.le_of_ble_eq_true rfl⟩ rfl hl.1 rfl (Nat.le_of_ble_eq_true rfl) dX12_skip_103 ⟨Nat.le_refl 0, Nat.le_refl 0⟩) X313 (fun v32840 t32839 H lc q32837 X32838 => ?_)
                unfold po_X12_isDigit_x at q32837
                obtain ⟨q32841, q32842, q32843, q32844⟩ := q32837
                rw [q32841] at X32838
                refine r_if_ne (tgt := 164) S dX12_skip_106 (by decide) (fun c32845 => ?_) (fun c32845 => ?_)
                ·
                  have r32846 : R (1) (1) v32840 := ⟨by omega, by omega⟩
                  have p32847 := q32843 (by omega)
                  have r32848 : R (48) (57) v293 := ⟨by omega, by omega⟩
                  have p32849 := q296 (by omega)
                  have r32850 : R (0) (939) f223 := ((M285.2 131 4 (Or.inr (by decide))).trans ((M277.2 131 4 (Or.inr (by decide))).trans z225)) ▸ p32849
                  have r32851 : R (0) (939) f223 := ⟨by omega, by omega⟩
                  refine r_iload_n S dX12_skip_164 rfl (lv_at hl 0 rfl) ?_
                  refine r_ki (q_S (As := [.int v293]) (rest := []) S X32838 (c_X12_isSmall_x l G t284 I287 v293 (R_of (lo := -2147483648) (hi := 2147483647) r32848 rfl)) ck12_160 ⟨Nat.le_of_ble_eq_true rfl, Nat.le_of_ble_eq_true rfl⟩ rfl hl.1 rfl (Nat.le_of_ble_eq_true rfl) dX12_skip_165 ⟨Nat.le_refl 0, Nat.le_refl 0⟩) X32838 (fun v32855 t32854 H lc q32852 X32853 => ?_)
                  unfold po_X12_isSmall_x at q32852
                  obtain ⟨q32856, q32857, q32858, q32859⟩ := q32852
                  rw [q32856] at X32853
                  refine r_istore_n (lv' := [(2, .int v32855), (1, .int v293), (0, .ref (G.2.2.2.1 131))]) S dX12_skip_168 rfl hl (by decide) rfl (fun ls hl => ?_)
                  refine r_iconst S dX12_skip_169 (by decide) (fun v32860 z32861 => ?_)
                  have r32862 := R_eq z32861
                  refine r_istore_n (lv' := [(3, .int v32860), (2, .int v32855), (1, .int v293), (0, .ref (G.2.2.2.1 131))]) S dX12_skip_170 rfl hl (by decide) rfl (fun ls hl => ?_)
                  have hs32863 : (v32855.toInt = 1 ∧ low (bb f223.toInt.toNat)) ∨ (v32855.toInt = 0 ∧ dig (bb f223.toInt.toNat)) := by omega
                  refine r_aload_n S dX12_skip_171 rfl (lv_at hl 3 rfl) ?_
                  refine lv_lconst S.1.1 S.1.2.1 dX12_skip_172 rfl ?_
                  refine lv_topl (fun j32864 z32865 => ?_)
                  refine r_putJ (K := 38) S X32853 (Nat.le_of_ble_eq_true rfl) rfl lk12_170_10 (fun _ => ⟨_, rfl, Nat.le_of_ble_eq_true rfl, rfl⟩) (fun _ _ _ h => by cases h; exact ⟨rfl, rfl⟩) dX12_skip_173 (fun t32867 H lc M32868 X32866 => ?_)
                  have I32869 := Inv_ml I287 M32868
                  have F32870 : Fr [(131, 4), (131, 11), (131, 12), (131, 13), (131, 14)] [331] τ t32867 := Fr_ml F288 M32868 (by decide)
                  refine r_aload_n S dX12_skip_176 rfl (lv_at hl 3 rfl) ?_
                  refine r_iconst S dX12_skip_177 (by decide) (fun v32871 z32872 => ?_)
                  have r32873 := R_eq z32872
                  refine r_put (K := 38) (ty := .int) S X32866 (Nat.le_of_ble_eq_true rfl) rfl lk12_167_10 (fun _ => ⟨_, rfl, Nat.le_of_ble_eq_true rfl, rfl⟩) (fun _ _ _ h => by cases h; exact ⟨rfl, rfl⟩) rfl rfl dX12_skip_178 (fun t32874 H lc M32875 X32876 => ?_)
                  have I32877 := Inv_mu I32869 M32875 (R_any v32871)
                  have F32878 : Fr [(131, 4), (131, 11), (131, 12), (131, 13), (131, 14)] [331] τ t32874 := Fr_mu F32870 M32875 (by decide)
                  have L64270 : ∀ (n : Nat) (t64254 : Tau) (H : Heap) (lc : List Loc) (ls : Array Slot) (i64252 : Int32) (f64258 : Int32) (f64264 : Int32) (f64267 : Int32), Xd G s H lc t64254 → Inv t64254 → Fr [(131, 4), (131, 11), (131, 12), (131, 13), (131, 14)] [331] τ t64254 → R (0) (1) i64252 → t64254 131 4 = f64258 → R (0) (940) f64258 → t64254 131 3 = v4 → t64254 131 5 = v7 → t64254 131 12 = f223 → t64254 131 13 = f64264 → R (0) (940) f64264 → t64254 131 14 = f64267 → R (-2147483648) (2147483647) f64267 → LM bb (f223).toInt.toNat (f64258).toInt.toNat (v32855).toInt (i64252).toInt (f64264).toInt (qof t64254 131 17).toInt (f64267).toInt → (f64258).toInt ≤ nb → lv_has ls 4 [(0, .ref (G.2.2.2.1 131)), (2, .int v32855), (3, .int i64252)] → (940 - f64258.toInt).toNat < n → W p l e (Rm 1 20) s m ([.ref (G.2.2.2.1 131)] : List Value).toArray below meth c H lc 0 0 (MQ below (va_Qv (po_X12_skip_q τ    bb nb lm pp) (Bs G) G.2.2.2.2) ([.ref (G.2.2.2.1 131)] : List Value).toArray s 0 0 G.2.2.2.2) (F0 m 181 ls []) := by
                    intro n
                    induction n with
                    | zero => intros; omega
                    | succ n ih64273 =>
                      intro t64254 H lc ls i64252 f64258 f64264 f64267 X64257 I64255 F64256 r64253 z64260 r64259 z64261 z64262 z64263 z64266 r64265 z64269 r64268 x64271 x64272 hl hm
                      obtain ⟨e64274, e64275⟩ := LM_b x64271
                      refine r_aload_n S dX12_skip_181 rfl (lv_at hl 0 rfl) ?_
                      refine r_ki (q_V (As := []) (rest := []) (K := 38) (ci := 10) S X64257 (c_X12_peek_x l G t64254 I64255 ) ck12_147 (Nat.le_of_ble_eq_true rfl) rfl (fun _ => ⟨_, rfl⟩) ⟨_, _, rfl⟩ ⟨Nat.le_of_ble_eq_true rfl, Nat.le_of_ble_eq_true rfl⟩ rfl hl.1 rfl (Nat.le_of_ble_eq_true rfl) dX12_skip_182 ⟨Nat.le_refl 0, Nat.le_refl 0⟩) X64257 (fun v64279 t64278 H lc q64276 X64277 => ?_)
                      unfold po_X12_peek_x at q64276
                      obtain ⟨q64280, q64281, q64282, q64283⟩ := q64276
                      rw [q64280] at X64277
                      rw [q64280] at q64282
                      rw [q64280] at q64283
                      have pk64284 : PKf bb nb f64258 v64279 := pk_b hB I64255 (F64256 131 3 (by simp [fz])) (fun j => F64256 132 j (by simp [fz])) z64260 (by omega) q64283
                      refine r_ki (q_S (As := [.int v64279]) (rest := []) S X64277 (c_X12_isSmall_x l G t64254 I64255 v64279 (R_of (lo := -2147483648) (hi := 2147483647) q64281 rfl)) ck12_160 ⟨Nat.le_of_ble_eq_true rfl, Nat.le_of_ble_eq_true rfl⟩ rfl hl.1 rfl (Nat.le_of_ble_eq_true rfl) dX12_skip_185 ⟨Nat.le_refl 0, Nat.le_refl 0⟩) X64277 (fun v64288 t64287 H lc q64285 X64286 => ?_)
                      unfold po_X12_isSmall_x at q64285
                      obtain ⟨q64289, q64290, q64291, q64292⟩ := q64285
                      rw [q64289] at X64286
                      refine r_if_ne (tgt := 201) S dX12_skip_188 (by decide) (fun c64293 => ?_) (fun c64293 => ?_)
                      ·
                        have r64294 : R (1) (1) v64288 := ⟨by omega, by omega⟩
                        have p64295 := q64291 (by omega)
                        have r64296 : R (97) (122) v64279 := ⟨by omega, by omega⟩
                        have p64297 := q64282 (by omega)
                        have r64298 : R (0) (939) f64258 := z64260 ▸ p64297
                        have r64299 : R (0) (939) f64258 := ⟨by omega, by omega⟩
                        obtain ⟨e64300, e64301⟩ := PK_in pk64284 (by omega)
                        obtain ⟨e64302, e64303, e64304⟩ := PK_at pk64284 e64300
                        refine r_iload_n S dX12_skip_201 rfl (lv_at hl 2 rfl) ?_
                        refine r_if_eq (tgt := 220) S dX12_skip_202 (by decide) (fun c64305 => ?_) (fun c64305 => ?_)
                        ·
                          have r64306 : R (0) (0) i64252 := ⟨by omega, by omega⟩
                          refine r_iconst S dX12_skip_220 (by decide) (fun v64307 z64308 => ?_)
                          have r64309 := R_eq z64308
                          refine r_istore_n (lv' := [(3, .int v64307), (0, .ref (G.2.2.2.1 131)), (2, .int v32855)]) S dX12_skip_221 rfl hl (by decide) rfl (fun ls hl => ?_)
                          refine r_aload_n S dX12_skip_222 rfl (lv_at hl 1 rfl) ?_
                          refine r_geti (K := 38) S X64286 (Nat.le_of_ble_eq_true rfl) rfl lk12_154_10 (fun _ => ⟨_, rfl, rfl⟩) z64266 dX12_skip_223 ?_
                          refine r_bipush S dX12_skip_226 (by decide) (fun v64310 z64311 => ?_)
                          have r64312 := R_eq z64311
                          refine r_icmp_ge (tgt := 248) S dX12_skip_228 (by decide) (fun c64313 => ?_) (fun c64313 => ?_)
                          ·
                            have r64314 : R (7) (940) f64264 := ⟨by omega, by omega⟩
                            refine r_aload_n S dX12_skip_248 rfl (lv_at hl 1 rfl) ?_
                            refine r_geti (K := 38) S X64286 (Nat.le_of_ble_eq_true rfl) rfl lk12_154_10 (fun _ => ⟨_, rfl, rfl⟩) z64266 dX12_skip_249 ?_
                            refine r_iconst S dX12_skip_252 (by decide) (fun v64315 z64316 => ?_)
                            have r64317 := R_eq z64316
                            refine r_icmp_ge (tgt := 275) S dX12_skip_253 (by decide) (fun c64318 => ?_) (fun c64318 => ?_)
                            ·
                              refine r_aload_n S dX12_skip_275 rfl (lv_at hl 1 rfl) ?_
                              refine r_dup S dX12_skip_276 rfl ?_
                              refine r_geti (K := 38) S X64286 (Nat.le_of_ble_eq_true rfl) rfl lk12_154_10 (fun _ => ⟨_, rfl, rfl⟩) z64266 dX12_skip_277 ?_
                              refine r_iconst S dX12_skip_280 (by decide) (fun v64319 z64320 => ?_)
                              have r64321 := R_eq z64320
                              refine r_iadd S dX12_skip_281 (fun v64322 z64323 => ?_)
                              obtain ⟨e64324, r64325⟩ := i_add (lo := 8) (hi := 941) z64323 r64314 r64321 rfl
                              refine r_put (K := 38) (ty := .int) S X64286 (Nat.le_of_ble_eq_true rfl) rfl lk12_154_10 (fun _ => ⟨_, rfl, Nat.le_of_ble_eq_true rfl, rfl⟩) (fun _ _ _ h => by cases h; exact ⟨rfl, rfl⟩) rfl rfl dX12_skip_282 (fun t64326 H lc M64327 X64328 => ?_)
                              have I64329 := Inv_mu I64255 M64327 (show Rg (kd 131) 13 v64322 from (show R (0) (940) v64322 from ⟨by omega, by omega⟩))
                              have F64330 : Fr [(131, 4), (131, 11), (131, 12), (131, 13), (131, 14)] [331] τ t64326 := Fr_mu F64256 M64327 (by decide)
                              have r64331 : R (8) (940) v64322 := ⟨by omega, by omega⟩
                              refine r_aload_n S dX12_skip_285 rfl (lv_at hl 1 rfl) ?_
                              refine r_dup S dX12_skip_286 rfl ?_
                              refine r_geti (K := 38) S X64328 (Nat.le_of_ble_eq_true rfl) rfl lk12_21_10 (fun _ => ⟨_, rfl, rfl⟩) ((M64327.2 131 4 (Or.inr (by decide))).trans z64260) dX12_skip_287 ?_
                              refine r_iconst S dX12_skip_290 (by decide) (fun v64332 z64333 => ?_)
                              have r64334 := R_eq z64333
                              refine r_iadd S dX12_skip_291 (fun v64335 z64336 => ?_)
                              obtain ⟨e64337, r64338⟩ := i_add (lo := 1) (hi := 940) z64336 r64299 r64334 rfl
                              refine r_put (K := 38) (ty := .int) S X64328 (Nat.le_of_ble_eq_true rfl) rfl lk12_21_10 (fun _ => ⟨_, rfl, Nat.le_of_ble_eq_true rfl, rfl⟩) (fun _ _ _ h => by cases h; exact ⟨rfl, rfl⟩) rfl rfl dX12_skip_292 (fun t64339 H lc M64340 X64341 => ?_)
                              have I64342 := Inv_mu I64329 M64340 (show Rg (kd 131) 4 v64335 from (R_of (lo := 0) (hi := 940) r64338 rfl))
                              have F64343 : Fr [(131, 4), (131, 11), (131, 12), (131, 13), (131, 14)] [331] τ t64339 := Fr_mu F64330 M64340 (by decide)
                              refine r_goto (tgt := 181) S dX12_skip_295 (by decide) ?_
                              exact ih64273 t64339 _ _ _ v64307 v64335 v64322 f64267 X64341 I64342 F64343 (R_of r64309 rfl) M64340.1 ⟨by omega, by omega⟩ ((M64340.2 131 3 (Or.inr (by decide))).trans ((M64327.2 131 3 (Or.inr (by decide))).trans z64261)) ((M64340.2 131 5 (Or.inr (by decide))).trans ((M64327.2 131 5 (Or.inr (by decide))).trans z64262)) ((M64340.2 131 12 (Or.inr (by decide))).trans ((M64327.2 131 12 (Or.inr (by decide))).trans z64263)) ((M64340.2 131 13 (Or.inr (by decide))).trans M64327.1) ⟨by omega, by omega⟩ ((M64340.2 131 14 (Or.inr (by decide))).trans ((M64327.2 131 14 (Or.inr (by decide))).trans z64269)) ⟨by omega, by omega⟩ (by rw [(qof_of (k := 131) (fun j => ((M64340.2 331 j (Or.inl (by decide))).trans ((M64327.2 331 j (Or.inl (by decide))).trans rfl))) 17)]; exact LM_upq (i := f64258) (sp := f64264) (al := i64252) x64271 hs32863 (by omega) (by omega) (fun _ _ h => by exfalso; omega) (fun _ _ h => by exfalso; omega) (by omega) (by omega) (by omega)) (by omega) (lv_sub hl [1, 2, 0] rfl) (by omega)
                            ·
                              exfalso; omega
                          ·
                            have r64344 : R (0) (6) f64264 := ⟨by omega, by omega⟩
                            refine r_aload_n S dX12_skip_231 rfl (lv_at hl 1 rfl) ?_
                            refine r_aload_n S dX12_skip_232 rfl (lv_at hl 1 rfl) ?_
                            refine r_getJ (K := 38) S X64286 (Nat.le_of_ble_eq_true rfl) rfl lk12_170_10 (fun _ => ⟨_, rfl, rfl⟩) dX12_skip_233 (fun j64345 z64346 => ?_)
                            refine r_bipush S dX12_skip_236 (by decide) (fun v64347 z64348 => ?_)
                            have r64349 := R_eq z64348
                            refine lv_lshl S.1.1 S.1.2.1 dX12_skip_238 rfl ?_
                            refine lv_topl (fun j64350 z64351 => ?_)
                            refine r_aload_n S dX12_skip_239 rfl (lv_at hl 1 rfl) ?_
                            refine r_ki (q_V (As := []) (rest := [.long j64350, .ref (G.2.2.2.1 131)]) (K := 38) (ci := 10) S X64286 (c_X12_peek_x l G t64254 I64255 ) ck12_147 (Nat.le_of_ble_eq_true rfl) rfl (fun _ => ⟨_, rfl⟩) ⟨_, _, rfl⟩ ⟨Nat.le_of_ble_eq_true rfl, Nat.le_of_ble_eq_true rfl⟩ rfl hl.1 rfl (Nat.le_of_ble_eq_true rfl) dX12_skip_240 ⟨Nat.le_refl 0, Nat.le_refl 0⟩) X64286 (fun v64355 t64354 H lc q64352 X64353 => ?_)
                            unfold po_X12_peek_x at q64352
                            obtain ⟨q64356, q64357, q64358, q64359⟩ := q64352
                            rw [q64356] at X64353
                            rw [q64356] at q64358
                            rw [q64356] at q64359
                            have pk64360 : PKf bb nb f64258 v64355 := pk_b hB I64255 (F64256 131 3 (by simp [fz])) (fun j => F64256 132 j (by simp [fz])) z64260 (by omega) q64359
                            obtain ⟨e64361, e64362, e64363⟩ := PK_at pk64360 (by omega)
                            refine lv_i2l S.1.1 S.1.2.1 dX12_skip_243 rfl ?_
                            refine lv_topl (fun j64364 z64365 => ?_)
                            refine lv_lor S.1.1 S.1.2.1 dX12_skip_244 ?_
                            refine lv_topl (fun j64366 z64367 => ?_)
                            refine r_putJ (K := 38) S X64353 (Nat.le_of_ble_eq_true rfl) rfl lk12_170_10 (fun _ => ⟨_, rfl, Nat.le_of_ble_eq_true rfl, rfl⟩) (fun _ _ _ h => by cases h; exact ⟨rfl, rfl⟩) dX12_skip_245 (fun t64369 H lc M64370 X64368 => ?_)
                            have I64371 := Inv_ml I64255 M64370
                            have F64372 : Fr [(131, 4), (131, 11), (131, 12), (131, 13), (131, 14)] [331] τ t64369 := Fr_ml F64256 M64370 (by decide)
                            refine r_aload_n S dX12_skip_248 rfl (lv_at hl 1 rfl) ?_
                            refine r_geti (K := 38) S X64368 (Nat.le_of_ble_eq_true rfl) rfl lk12_154_10 (fun _ => ⟨_, rfl, rfl⟩) ((M64370.1 131 (by decide) 13).trans z64266) dX12_skip_249 ?_
                            refine r_iconst S dX12_skip_252 (by decide) (fun v64373 z64374 => ?_)
                            have r64375 := R_eq z64374
                            refine r_icmp_ge (tgt := 275) S dX12_skip_253 (by decide) (fun c64376 => ?_) (fun c64376 => ?_)
                            ·
                              have r64377 : R (2) (6) f64264 := ⟨by omega, by omega⟩
                              refine r_aload_n S dX12_skip_275 rfl (lv_at hl 1 rfl) ?_
                              refine r_dup S dX12_skip_276 rfl ?_
                              refine r_geti (K := 38) S X64368 (Nat.le_of_ble_eq_true rfl) rfl lk12_154_10 (fun _ => ⟨_, rfl, rfl⟩) ((M64370.1 131 (by decide) 13).trans z64266) dX12_skip_277 ?_
                              refine r_iconst S dX12_skip_280 (by decide) (fun v64378 z64379 => ?_)
                              have r64380 := R_eq z64379
                              refine r_iadd S dX12_skip_281 (fun v64381 z64382 => ?_)
                              obtain ⟨e64383, r64384⟩ := i_add (lo := 3) (hi := 7) z64382 r64377 r64380 rfl
                              refine r_put (K := 38) (ty := .int) S X64368 (Nat.le_of_ble_eq_true rfl) rfl lk12_154_10 (fun _ => ⟨_, rfl, Nat.le_of_ble_eq_true rfl, rfl⟩) (fun _ _ _ h => by cases h; exact ⟨rfl, rfl⟩) rfl rfl dX12_skip_282 (fun t64385 H lc M64386 X64387 => ?_)
                              have I64388 := Inv_mu I64371 M64386 (show Rg (kd 131) 13 v64381 from (R_of (lo := 0) (hi := 940) r64384 rfl))
                              have F64389 : Fr [(131, 4), (131, 11), (131, 12), (131, 13), (131, 14)] [331] τ t64385 := Fr_mu F64372 M64386 (by decide)
                              refine r_aload_n S dX12_skip_285 rfl (lv_at hl 1 rfl) ?_
                              refine r_dup S dX12_skip_286 rfl ?_
                              refine r_geti (K := 38) S X64387 (Nat.le_of_ble_eq_true rfl) rfl lk12_21_10 (fun _ => ⟨_, rfl, rfl⟩) ((M64386.2 131 4 (Or.inr (by decide))).trans ((M64370.1 131 (by decide) 4).trans z64260)) dX12_skip_287 ?_
                              refine r_iconst S dX12_skip_290 (by decide) (fun v64390 z64391 => ?_)
                              have r64392 := R_eq z64391
                              refine r_iadd S dX12_skip_291 (fun v64393 z64394 => ?_)
                              obtain ⟨e64395, r64396⟩ := i_add (lo := 1) (hi := 940) z64394 r64299 r64392 rfl
                              refine r_put (K := 38) (ty := .int) S X64387 (Nat.le_of_ble_eq_true rfl) rfl lk12_21_10 (fun _ => ⟨_, rfl, Nat.le_of_ble_eq_true rfl, rfl⟩) (fun _ _ _ h => by cases h; exact ⟨rfl, rfl⟩) rfl rfl dX12_skip_292 (fun t64397 H lc M64398 X64399 => ?_)
                              have I64400 := Inv_mu I64388 M64398 (show Rg (kd 131) 4 v64393 from (R_of (lo := 0) (hi := 940) r64396 rfl))
                              have F64401 : Fr [(131, 4), (131, 11), (131, 12), (131, 13), (131, 14)] [331] τ t64397 := Fr_mu F64389 M64398 (by decide)
                              refine r_goto (tgt := 181) S dX12_skip_295 (by decide) ?_
                              exact ih64273 t64397 _ _ _ v64307 v64393 v64381 f64267 X64399 I64400 F64401 (R_of r64309 rfl) M64398.1 ⟨by omega, by omega⟩ ((M64398.2 131 3 (Or.inr (by decide))).trans ((M64386.2 131 3 (Or.inr (by decide))).trans ((M64370.1 131 (by decide) 3).trans z64261))) ((M64398.2 131 5 (Or.inr (by decide))).trans ((M64386.2 131 5 (Or.inr (by decide))).trans ((M64370.1 131 (by decide) 5).trans z64262))) ((M64398.2 131 12 (Or.inr (by decide))).trans ((M64386.2 131 12 (Or.inr (by decide))).trans ((M64370.1 131 (by decide) 12).trans z64263))) ((M64398.2 131 13 (Or.inr (by decide))).trans M64386.1) ⟨by omega, by omega⟩ ((M64398.2 131 14 (Or.inr (by decide))).trans ((M64386.2 131 14 (Or.inr (by decide))).trans ((M64370.1 131 (by decide) 14).trans z64269))) ⟨by omega, by omega⟩ (LM_upq (i := f64258) (sp := f64264) (al := i64252) x64271 hs32863 (by omega) (by omega) (LM_hw (x := v64355) (y := v64347) x64271 z64346 (by omega) (by rw [z64367, z64351, z64365]) ((qof_of (k := 131) (fun j => ((M64398.2 331 j (Or.inl (by decide))).trans ((M64386.2 331 j (Or.inl (by decide))).trans rfl))) 17).trans (Ml_upd M64370)) (by omega) (by omega)) (fun _ _ h => by exfalso; omega) (by omega) (by omega) (by omega)) (by omega) (lv_sub hl [1, 2, 0] rfl) (by omega)
                            ·
                              have r64402 : R (0) (1) f64264 := ⟨by omega, by omega⟩
                              refine r_aload_n S dX12_skip_256 rfl (lv_at hl 1 rfl) ?_
                              refine r_bipush S dX12_skip_257 (by decide) (fun v64403 z64404 => ?_)
                              have r64405 := R_eq z64404
                              refine r_aload_n S dX12_skip_259 rfl (lv_at hl 1 rfl) ?_
                              refine r_geti (K := 38) S X64368 (Nat.le_of_ble_eq_true rfl) rfl lk12_167_10 (fun _ => ⟨_, rfl, rfl⟩) ((M64370.1 131 (by decide) 14).trans z64269) dX12_skip_260 ?_
                              refine r_imul S dX12_skip_263 (fun v64406 z64407 => ?_)
                              have r64408 := R_any v64406
                              refine r_aload_n S dX12_skip_264 rfl (lv_at hl 1 rfl) ?_
                              refine r_ki (q_V (As := []) (rest := [.int v64406, .ref (G.2.2.2.1 131)]) (K := 38) (ci := 10) S X64368 (c_X12_peek_x l G t64369 I64371 ) ck12_147 (Nat.le_of_ble_eq_true rfl) rfl (fun _ => ⟨_, rfl⟩) ⟨_, _, rfl⟩ ⟨Nat.le_of_ble_eq_true rfl, Nat.le_of_ble_eq_true rfl⟩ rfl hl.1 rfl (Nat.le_of_ble_eq_true rfl) dX12_skip_265 ⟨Nat.le_refl 0, Nat.le_refl 0⟩) X64368 (fun v64412 t64411 H lc q64409 X64410 => ?_)
                              unfold po_X12_peek_x at q64409
                              obtain ⟨q64413, q64414, q64415, q64416⟩ := q64409
                              rw [q64413] at X64410
                              rw [q64413] at q64415
                              rw [q64413] at q64416
                              have pk64417 : PKf bb nb f64258 v64412 := pk_b hB I64371 (F64372 131 3 (by simp [fz])) (fun j => F64372 132 j (by simp [fz])) ((M64370.1 131 (by decide) 4).trans z64260) (by omega) q64416
                              obtain ⟨e64418, e64419, e64420⟩ := PK_at pk64417 (by omega)
                              refine r_iadd S dX12_skip_268 (fun v64421 z64422 => ?_)
                              have r64423 := R_any v64421
                              refine r_bipush S dX12_skip_269 (by decide) (fun v64424 z64425 => ?_)
                              have r64426 := R_eq z64425
                              refine r_isub S dX12_skip_271 (fun v64427 z64428 => ?_)
                              have r64429 := R_any v64427
                              refine r_put (K := 38) (ty := .int) S X64410 (Nat.le_of_ble_eq_true rfl) rfl lk12_167_10 (fun _ => ⟨_, rfl, Nat.le_of_ble_eq_true rfl, rfl⟩) (fun _ _ _ h => by cases h; exact ⟨rfl, rfl⟩) rfl rfl dX12_skip_272 (fun t64430 H lc M64431 X64432 => ?_)
                              have I64433 := Inv_mu I64371 M64431 (R_any v64427)
                              have F64434 : Fr [(131, 4), (131, 11), (131, 12), (131, 13), (131, 14)] [331] τ t64430 := Fr_mu F64372 M64431 (by decide)
                              refine r_aload_n S dX12_skip_275 rfl (lv_at hl 1 rfl) ?_
                              refine r_dup S dX12_skip_276 rfl ?_
                              refine r_geti (K := 38) S X64432 (Nat.le_of_ble_eq_true rfl) rfl lk12_154_10 (fun _ => ⟨_, rfl, rfl⟩) ((M64431.2 131 13 (Or.inr (by decide))).trans ((M64370.1 131 (by decide) 13).trans z64266)) dX12_skip_277 ?_
                              refine r_iconst S dX12_skip_280 (by decide) (fun v64435 z64436 => ?_)
                              have r64437 := R_eq z64436
                              refine r_iadd S dX12_skip_281 (fun v64438 z64439 => ?_)
                              obtain ⟨e64440, r64441⟩ := i_add (lo := 1) (hi := 2) z64439 r64402 r64437 rfl
                              refine r_put (K := 38) (ty := .int) S X64432 (Nat.le_of_ble_eq_true rfl) rfl lk12_154_10 (fun _ => ⟨_, rfl, Nat.le_of_ble_eq_true rfl, rfl⟩) (fun _ _ _ h => by cases h; exact ⟨rfl, rfl⟩) rfl rfl dX12_skip_282 (fun t64442 H lc M64443 X64444 => ?_)
                              have I64445 := Inv_mu I64433 M64443 (show Rg (kd 131) 13 v64438 from (R_of (lo := 0) (hi := 940) r64441 rfl))
                              have F64446 : Fr [(131, 4), (131, 11), (131, 12), (131, 13), (131, 14)] [331] τ t64442 := Fr_mu F64434 M64443 (by decide)
                              refine r_aload_n S dX12_skip_285 rfl (lv_at hl 1 rfl) ?_
                              refine r_dup S dX12_skip_286 rfl ?_
                              refine r_geti (K := 38) S X64444 (Nat.le_of_ble_eq_true rfl) rfl lk12_21_10 (fun _ => ⟨_, rfl, rfl⟩) ((M64443.2 131 4 (Or.inr (by decide))).trans ((M64431.2 131 4 (Or.inr (by decide))).trans ((M64370.1 131 (by decide) 4).trans z64260))) dX12_skip_287 ?_
                              refine r_iconst S dX12_skip_290 (by decide) (fun v64447 z64448 => ?_)
                              have r64449 := R_eq z64448
                              refine r_iadd S dX12_skip_291 (fun v64450 z64451 => ?_)
                              obtain ⟨e64452, r64453⟩ := i_add (lo := 1) (hi := 940) z64451 r64299 r64449 rfl
                              refine r_put (K := 38) (ty := .int) S X64444 (Nat.le_of_ble_eq_true rfl) rfl lk12_21_10 (fun _ => ⟨_, rfl, Nat.le_of_ble_eq_true rfl, rfl⟩) (fun _ _ _ h => by cases h; exact ⟨rfl, rfl⟩) rfl rfl dX12_skip_292 (fun t64454 H lc M64455 X64456 => ?_)
                              have I64457 := Inv_mu I64445 M64455 (show Rg (kd 131) 4 v64450 from (R_of (lo := 0) (hi := 940) r64453 rfl))
                              have F64458 : Fr [(131, 4), (131, 11), (131, 12), (131, 13), (131, 14)] [331] τ t64454 := Fr_mu F64446 M64455 (by decide)
                              refine r_goto (tgt := 181) S dX12_skip_295 (by decide) ?_
                              exact ih64273 t64454 _ _ _ v64307 v64450 v64438 v64427 X64456 I64457 F64458 (R_of r64309 rfl) M64455.1 ⟨by omega, by omega⟩ ((M64455.2 131 3 (Or.inr (by decide))).trans ((M64443.2 131 3 (Or.inr (by decide))).trans ((M64431.2 131 3 (Or.inr (by decide))).trans ((M64370.1 131 (by decide) 3).trans z64261)))) ((M64455.2 131 5 (Or.inr (by decide))).trans ((M64443.2 131 5 (Or.inr (by decide))).trans ((M64431.2 131 5 (Or.inr (by decide))).trans ((M64370.1 131 (by decide) 5).trans z64262)))) ((M64455.2 131 12 (Or.inr (by decide))).trans ((M64443.2 131 12 (Or.inr (by decide))).trans ((M64431.2 131 12 (Or.inr (by decide))).trans ((M64370.1 131 (by decide) 12).trans z64263)))) ((M64455.2 131 13 (Or.inr (by decide))).trans M64443.1) ⟨by omega, by omega⟩ ((M64455.2 131 14 (Or.inr (by decide))).trans ((M64443.2 131 14 (Or.inr (by decide))).trans M64431.1)) ⟨by omega, by omega⟩ (LM_upq (i := f64258) (sp := f64264) (al := i64252) x64271 hs32863 (by omega) (by omega) (LM_hw (x := v64355) (y := v64347) x64271 z64346 (by omega) (by rw [z64367, z64351, z64365]) ((qof_of (k := 131) (fun j => ((M64455.2 331 j (Or.inl (by decide))).trans ((M64443.2 331 j (Or.inl (by decide))).trans ((M64431.2 331 j (Or.inl (by decide))).trans rfl)))) 17).trans (Ml_upd M64370)) (by omega) (by omega)) (LM_hn (c := v64403) (x := v64412) (d := v64424) x64271 (by omega) z64407 z64422 (by omega) z64428 (by omega) (by omega)) (by omega) (by omega) (by omega)) (by omega) (lv_sub hl [1, 2, 0] rfl) (by omega)
                        ·
                          have r64459 : R (1) (1) i64252 := ⟨by omega, by omega⟩
                          refine r_aload_n S dX12_skip_205 rfl (lv_at hl 0 rfl) ?_
                          refine r_ki (q_V (As := []) (rest := []) (K := 38) (ci := 10) S X64286 (c_X12_peek_x l G t64254 I64255 ) ck12_147 (Nat.le_of_ble_eq_true rfl) rfl (fun _ => ⟨_, rfl⟩) ⟨_, _, rfl⟩ ⟨Nat.le_of_ble_eq_true rfl, Nat.le_of_ble_eq_true rfl⟩ rfl hl.1 rfl (Nat.le_of_ble_eq_true rfl) dX12_skip_206 ⟨Nat.le_refl 0, Nat.le_refl 0⟩) X64286 (fun v64463 t64462 H lc q64460 X64461 => ?_)
                          unfold po_X12_peek_x at q64460
                          obtain ⟨q64464, q64465, q64466, q64467⟩ := q64460
                          rw [q64464] at X64461
                          rw [q64464] at q64466
                          rw [q64464] at q64467
                          have pk64468 : PKf bb nb f64258 v64463 := pk_b hB I64255 (F64256 131 3 (by simp [fz])) (fun j => F64256 132 j (by simp [fz])) z64260 (by omega) q64467
                          obtain ⟨e64469, e64470, e64471⟩ := PK_at pk64468 (by omega)
                          refine r_ki (q_S (As := [.int v64463]) (rest := []) S X64461 (c_X12_isSmall_x l G t64254 I64255 v64463 (R_of (lo := -2147483648) (hi := 2147483647) q64465 rfl)) ck12_160 ⟨Nat.le_of_ble_eq_true rfl, Nat.le_of_ble_eq_true rfl⟩ rfl hl.1 rfl (Nat.le_of_ble_eq_true rfl) dX12_skip_209 ⟨Nat.le_refl 0, Nat.le_refl 0⟩) X64461 (fun v64475 t64474 H lc q64472 X64473 => ?_)
                          unfold po_X12_isSmall_x at q64472
                          obtain ⟨q64476, q64477, q64478, q64479⟩ := q64472
                          rw [q64476] at X64473
                          refine r_iload_n S dX12_skip_212 rfl (lv_at hl 1 rfl) ?_
                          refine r_icmp_ne (tgt := 220) S dX12_skip_213 (by decide) (fun c64480 => ?_) (fun c64480 => ?_)
                          ·
                            refine r_iconst S dX12_skip_220 (by decide) (fun v64481 z64482 => ?_)
                            have r64483 := R_eq z64482
                            refine r_istore_n (lv' := [(3, .int v64481), (0, .ref (G.2.2.2.1 131)), (2, .int v32855)]) S dX12_skip_221 rfl hl (by decide) rfl (fun ls hl => ?_)
                            refine r_aload_n S dX12_skip_222 rfl (lv_at hl 1 rfl) ?_
                            refine r_geti (K := 38) S X64473 (Nat.le_of_ble_eq_true rfl) rfl lk12_154_10 (fun _ => ⟨_, rfl, rfl⟩) z64266 dX12_skip_223 ?_
                            refine r_bipush S dX12_skip_226 (by decide) (fun v64484 z64485 => ?_)
                            have r64486 := R_eq z64485
                            refine r_icmp_ge (tgt := 248) S dX12_skip_228 (by decide) (fun c64487 => ?_) (fun c64487 => ?_)
                            ·
                              have r64488 : R (7) (940) f64264 := ⟨by omega, by omega⟩
                              refine r_aload_n S dX12_skip_248 rfl (lv_at hl 1 rfl) ?_
                              refine r_geti (K := 38) S X64473 (Nat.le_of_ble_eq_true rfl) rfl lk12_154_10 (fun _ => ⟨_, rfl, rfl⟩) z64266 dX12_skip_249 ?_
                              refine r_iconst S dX12_skip_252 (by decide) (fun v64489 z64490 => ?_)
                              have r64491 := R_eq z64490
                              refine r_icmp_ge (tgt := 275) S dX12_skip_253 (by decide) (fun c64492 => ?_) (fun c64492 => ?_)
                              ·
                                refine r_aload_n S dX12_skip_275 rfl (lv_at hl 1 rfl) ?_
                                refine r_dup S dX12_skip_276 rfl ?_
                                refine r_geti (K := 38) S X64473 (Nat.le_of_ble_eq_true rfl) rfl lk12_154_10 (fun _ => ⟨_, rfl, rfl⟩) z64266 dX12_skip_277 ?_
                                refine r_iconst S dX12_skip_280 (by decide) (fun v64493 z64494 => ?_)
                                have r64495 := R_eq z64494
                                refine r_iadd S dX12_skip_281 (fun v64496 z64497 => ?_)
                                obtain ⟨e64498, r64499⟩ := i_add (lo := 8) (hi := 941) z64497 r64488 r64495 rfl
                                refine r_put (K := 38) (ty := .int) S X64473 (Nat.le_of_ble_eq_true rfl) rfl lk12_154_10 (fun _ => ⟨_, rfl, Nat.le_of_ble_eq_true rfl, rfl⟩) (fun _ _ _ h => by cases h; exact ⟨rfl, rfl⟩) rfl rfl dX12_skip_282 (fun t64500 H lc M64501 X64502 => ?_)
                                have I64503 := Inv_mu I64255 M64501 (show Rg (kd 131) 13 v64496 from (show R (0) (940) v64496 from ⟨by omega, by omega⟩))
                                have F64504 : Fr [(131, 4), (131, 11), (131, 12), (131, 13), (131, 14)] [331] τ t64500 := Fr_mu F64256 M64501 (by decide)
                                have r64505 : R (8) (940) v64496 := ⟨by omega, by omega⟩
                                refine r_aload_n S dX12_skip_285 rfl (lv_at hl 1 rfl) ?_
                                refine r_dup S dX12_skip_286 rfl ?_
                                refine r_geti (K := 38) S X64502 (Nat.le_of_ble_eq_true rfl) rfl lk12_21_10 (fun _ => ⟨_, rfl, rfl⟩) ((M64501.2 131 4 (Or.inr (by decide))).trans z64260) dX12_skip_287 ?_
                                refine r_iconst S dX12_skip_290 (by decide) (fun v64506 z64507 => ?_)
                                have r64508 := R_eq z64507
                                refine r_iadd S dX12_skip_291 (fun v64509 z64510 => ?_)
                                obtain ⟨e64511, r64512⟩ := i_add (lo := 1) (hi := 940) z64510 r64299 r64508 rfl
                                refine r_put (K := 38) (ty := .int) S X64502 (Nat.le_of_ble_eq_true rfl) rfl lk12_21_10 (fun _ => ⟨_, rfl, Nat.le_of_ble_eq_true rfl, rfl⟩) (fun _ _ _ h => by cases h; exact ⟨rfl, rfl⟩) rfl rfl dX12_skip_292 (fun t64513 H lc M64514 X64515 => ?_)
                                have I64516 := Inv_mu I64503 M64514 (show Rg (kd 131) 4 v64509 from (R_of (lo := 0) (hi := 940) r64512 rfl))
                                have F64517 : Fr [(131, 4), (131, 11), (131, 12), (131, 13), (131, 14)] [331] τ t64513 := Fr_mu F64504 M64514 (by decide)
                                refine r_goto (tgt := 181) S dX12_skip_295 (by decide) ?_
                                exact ih64273 t64513 _ _ _ v64481 v64509 v64496 f64267 X64515 I64516 F64517 (R_of r64483 rfl) M64514.1 ⟨by omega, by omega⟩ ((M64514.2 131 3 (Or.inr (by decide))).trans ((M64501.2 131 3 (Or.inr (by decide))).trans z64261)) ((M64514.2 131 5 (Or.inr (by decide))).trans ((M64501.2 131 5 (Or.inr (by decide))).trans z64262)) ((M64514.2 131 12 (Or.inr (by decide))).trans ((M64501.2 131 12 (Or.inr (by decide))).trans z64263)) ((M64514.2 131 13 (Or.inr (by decide))).trans M64501.1) ⟨by omega, by omega⟩ ((M64514.2 131 14 (Or.inr (by decide))).trans ((M64501.2 131 14 (Or.inr (by decide))).trans z64269)) ⟨by omega, by omega⟩ (by rw [(qof_of (k := 131) (fun j => ((M64514.2 331 j (Or.inl (by decide))).trans ((M64501.2 331 j (Or.inl (by decide))).trans rfl))) 17)]; exact LM_upq (i := f64258) (sp := f64264) (al := i64252) x64271 hs32863 (by omega) (by omega) (fun _ _ h => by exfalso; omega) (fun _ _ h => by exfalso; omega) (by omega) (by omega) (by omega)) (by omega) (lv_sub hl [1, 2, 0] rfl) (by omega)
                              ·
                                exfalso; omega
                            ·
                              have r64518 : R (0) (6) f64264 := ⟨by omega, by omega⟩
                              refine r_aload_n S dX12_skip_231 rfl (lv_at hl 1 rfl) ?_
                              refine r_aload_n S dX12_skip_232 rfl (lv_at hl 1 rfl) ?_
                              refine r_getJ (K := 38) S X64473 (Nat.le_of_ble_eq_true rfl) rfl lk12_170_10 (fun _ => ⟨_, rfl, rfl⟩) dX12_skip_233 (fun j64519 z64520 => ?_)
                              refine r_bipush S dX12_skip_236 (by decide) (fun v64521 z64522 => ?_)
                              have r64523 := R_eq z64522
                              refine lv_lshl S.1.1 S.1.2.1 dX12_skip_238 rfl ?_
                              refine lv_topl (fun j64524 z64525 => ?_)
                              refine r_aload_n S dX12_skip_239 rfl (lv_at hl 1 rfl) ?_
                              refine r_ki (q_V (As := []) (rest := [.long j64524, .ref (G.2.2.2.1 131)]) (K := 38) (ci := 10) S X64473 (c_X12_peek_x l G t64254 I64255 ) ck12_147 (Nat.le_of_ble_eq_true rfl) rfl (fun _ => ⟨_, rfl⟩) ⟨_, _, rfl⟩ ⟨Nat.le_of_ble_eq_true rfl, Nat.le_of_ble_eq_true rfl⟩ rfl hl.1 rfl (Nat.le_of_ble_eq_true rfl) dX12_skip_240 ⟨Nat.le_refl 0, Nat.le_refl 0⟩) X64473 (fun v64529 t64528 H lc q64526 X64527 => ?_)
                              unfold po_X12_peek_x at q64526
                              obtain ⟨q64530, q64531, q64532, q64533⟩ := q64526
                              rw [q64530] at X64527
                              rw [q64530] at q64532
                              rw [q64530] at q64533
                              have pk64534 : PKf bb nb f64258 v64529 := pk_b hB I64255 (F64256 131 3 (by simp [fz])) (fun j => F64256 132 j (by simp [fz])) z64260 (by omega) q64533
                              obtain ⟨e64535, e64536, e64537⟩ := PK_at pk64534 (by omega)
                              refine lv_i2l S.1.1 S.1.2.1 dX12_skip_243 rfl ?_
                              refine lv_topl (fun j64538 z64539 => ?_)
                              refine lv_lor S.1.1 S.1.2.1 dX12_skip_244 ?_
                              refine lv_topl (fun j64540 z64541 => ?_)
                              refine r_putJ (K := 38) S X64527 (Nat.le_of_ble_eq_true rfl) rfl lk12_170_10 (fun _ => ⟨_, rfl, Nat.le_of_ble_eq_true rfl, rfl⟩) (fun _ _ _ h => by cases h; exact ⟨rfl, rfl⟩) dX12_skip_245 (fun t64543 H lc M64544 X64542 => ?_)
                              have I64545 := Inv_ml I64255 M64544
                              have F64546 : Fr [(131, 4), (131, 11), (131, 12), (131, 13), (131, 14)] [331] τ t64543 := Fr_ml F64256 M64544 (by decide)
                              refine r_aload_n S dX12_skip_248 rfl (lv_at hl 1 rfl) ?_
                              refine r_geti (K := 38) S X64542 (Nat.le_of_ble_eq_true rfl) rfl lk12_154_10 (fun _ => ⟨_, rfl, rfl⟩) ((M64544.1 131 (by decide) 13).trans z64266) dX12_skip_249 ?_
                              refine r_iconst S dX12_skip_252 (by decide) (fun v64547 z64548 => ?_)
                              have r64549 := R_eq z64548
                              refine r_icmp_ge (tgt := 275) S dX12_skip_253 (by decide) (fun c64550 => ?_) (fun c64550 => ?_)
                              ·
                                have r64551 : R (2) (6) f64264 := ⟨by omega, by omega⟩
                                refine r_aload_n S dX12_skip_275 rfl (lv_at hl 1 rfl) ?_
                                refine r_dup S dX12_skip_276 rfl ?_
                                refine r_geti (K := 38) S X64542 (Nat.le_of_ble_eq_true rfl) rfl lk12_154_10 (fun _ => ⟨_, rfl, rfl⟩) ((M64544.1 131 (by decide) 13).trans z64266) dX12_skip_277 ?_
                                refine r_iconst S dX12_skip_280 (by decide) (fun v64552 z64553 => ?_)
                                have r64554 := R_eq z64553
                                refine r_iadd S dX12_skip_281 (fun v64555 z64556 => ?_)
                                obtain ⟨e64557, r64558⟩ := i_add (lo := 3) (hi := 7) z64556 r64551 r64554 rfl
                                refine r_put (K := 38) (ty := .int) S X64542 (Nat.le_of_ble_eq_true rfl) rfl lk12_154_10 (fun _ => ⟨_, rfl, Nat.le_of_ble_eq_true rfl, rfl⟩) (fun _ _ _ h => by cases h; exact ⟨rfl, rfl⟩) rfl rfl dX12_skip_282 (fun t64559 H lc M64560 X64561 => ?_)
                                have I64562 := Inv_mu I64545 M64560 (show Rg (kd 131) 13 v64555 from (R_of (lo := 0) (hi := 940) r64558 rfl))
                                have F64563 : Fr [(131, 4), (131, 11), (131, 12), (131, 13), (131, 14)] [331] τ t64559 := Fr_mu F64546 M64560 (by decide)
                                refine r_aload_n S dX12_skip_285 rfl (lv_at hl 1 rfl) ?_
                                refine r_dup S dX12_skip_286 rfl ?_
                                refine r_geti (K := 38) S X64561 (Nat.le_of_ble_eq_true rfl) rfl lk12_21_10 (fun _ => ⟨_, rfl, rfl⟩) ((M64560.2 131 4 (Or.inr (by decide))).trans ((M64544.1 131 (by decide) 4).trans z64260)) dX12_skip_287 ?_
                                refine r_iconst S dX12_skip_290 (by decide) (fun v64564 z64565 => ?_)
                                have r64566 := R_eq z64565
                                refine r_iadd S dX12_skip_291 (fun v64567 z64568 => ?_)
                                obtain ⟨e64569, r64570⟩ := i_add (lo := 1) (hi := 940) z64568 r64299 r64566 rfl
                                refine r_put (K := 38) (ty := .int) S X64561 (Nat.le_of_ble_eq_true rfl) rfl lk12_21_10 (fun _ => ⟨_, rfl, Nat.le_of_ble_eq_true rfl, rfl⟩) (fun _ _ _ h => by cases h; exact ⟨rfl, rfl⟩) rfl rfl dX12_skip_292 (fun t64571 H lc M64572 X64573 => ?_)
                                have I64574 := Inv_mu I64562 M64572 (show Rg (kd 131) 4 v64567 from (R_of (lo := 0) (hi := 940) r64570 rfl))
                                have F64575 : Fr [(131, 4), (131, 11), (131, 12), (131, 13), (131, 14)] [331] τ t64571 := Fr_mu F64563 M64572 (by decide)
                                refine r_goto (tgt := 181) S dX12_skip_295 (by decide) ?_
                                exact ih64273 t64571 _ _ _ v64481 v64567 v64555 f64267 X64573 I64574 F64575 (R_of r64483 rfl) M64572.1 ⟨by omega, by omega⟩ ((M64572.2 131 3 (Or.inr (by decide))).trans ((M64560.2 131 3 (Or.inr (by decide))).trans ((M64544.1 131 (by decide) 3).trans z64261))) ((M64572.2 131 5 (Or.inr (by decide))).trans ((M64560.2 131 5 (Or.inr (by decide))).trans ((M64544.1 131 (by decide) 5).trans z64262))) ((M64572.2 131 12 (Or.inr (by decide))).trans ((M64560.2 131 12 (Or.inr (by decide))).trans ((M64544.1 131 (by decide) 12).trans z64263))) ((M64572.2 131 13 (Or.inr (by decide))).trans M64560.1) ⟨by omega, by omega⟩ ((M64572.2 131 14 (Or.inr (by decide))).trans ((M64560.2 131 14 (Or.inr (by decide))).trans ((M64544.1 131 (by decide) 14).trans z64269))) ⟨by omega, by omega⟩ (LM_upq (i := f64258) (sp := f64264) (al := i64252) x64271 hs32863 (by omega) (by omega) (LM_hw (x := v64529) (y := v64521) x64271 z64520 (by omega) (by rw [z64541, z64525, z64539]) ((qof_of (k := 131) (fun j => ((M64572.2 331 j (Or.inl (by decide))).trans ((M64560.2 331 j (Or.inl (by decide))).trans rfl))) 17).trans (Ml_upd M64544)) (by omega) (by omega)) (fun _ _ h => by exfalso; omega) (by omega) (by omega) (by omega)) (by omega) (lv_sub hl [1, 2, 0] rfl) (by omega)
                              ·
                                have r64576 : R (0) (1) f64264 := ⟨by omega, by omega⟩
                                refine r_aload_n S dX12_skip_256 rfl (lv_at hl 1 rfl) ?_
                                refine r_bipush S dX12_skip_257 (by decide) (fun v64577 z64578 => ?_)
                                have r64579 := R_eq z64578
                                refine r_aload_n S dX12_skip_259 rfl (lv_at hl 1 rfl) ?_
                                refine r_geti (K := 38) S X64542 (Nat.le_of_ble_eq_true rfl) rfl lk12_167_10 (fun _ => ⟨_, rfl, rfl⟩) ((M64544.1 131 (by decide) 14).trans z64269) dX12_skip_260 ?_
                                refine r_imul S dX12_skip_263 (fun v64580 z64581 => ?_)
                                have r64582 := R_any v64580
                                refine r_aload_n S dX12_skip_264 rfl (lv_at hl 1 rfl) ?_
                                refine r_ki (q_V (As := []) (rest := [.int v64580, .ref (G.2.2.2.1 131)]) (K := 38) (ci := 10) S X64542 (c_X12_peek_x l G t64543 I64545 ) ck12_147 (Nat.le_of_ble_eq_true rfl) rfl (fun _ => ⟨_, rfl⟩) ⟨_, _, rfl⟩ ⟨Nat.le_of_ble_eq_true rfl, Nat.le_of_ble_eq_true rfl⟩ rfl hl.1 rfl (Nat.le_of_ble_eq_true rfl) dX12_skip_265 ⟨Nat.le_refl 0, Nat.le_refl 0⟩) X64542 (fun v64586 t64585 H lc q64583 X64584 => ?_)
                                unfold po_X12_peek_x at q64583
                                obtain ⟨q64587, q64588, q64589, q64590⟩ := q64583
                                rw [q64587] at X64584
                                rw [q64587] at q64589
                                rw [q64587] at q64590
                                have pk64591 : PKf bb nb f64258 v64586 := pk_b hB I64545 (F64546 131 3 (by simp [fz])) (fun j => F64546 132 j (by simp [fz])) ((M64544.1 131 (by decide) 4).trans z64260) (by omega) q64590
                                obtain ⟨e64592, e64593, e64594⟩ := PK_at pk64591 (by omega)
                                refine r_iadd S dX12_skip_268 (fun v64595 z64596 => ?_)
                                have r64597 := R_any v64595
                                refine r_bipush S dX12_skip_269 (by decide) (fun v64598 z64599 => ?_)
                                have r64600 := R_eq z64599
                                refine r_isub S dX12_skip_271 (fun v64601 z64602 => ?_)
                                have r64603 := R_any v64601
                                refine r_put (K := 38) (ty := .int) S X64584 (Nat.le_of_ble_eq_true rfl) rfl lk12_167_10 (fun _ => ⟨_, rfl, Nat.le_of_ble_eq_true rfl, rfl⟩) (fun _ _ _ h => by cases h; exact ⟨rfl, rfl⟩) rfl rfl dX12_skip_272 (fun t64604 H lc M64605 X64606 => ?_)
                                have I64607 := Inv_mu I64545 M64605 (R_any v64601)
                                have F64608 : Fr [(131, 4), (131, 11), (131, 12), (131, 13), (131, 14)] [331] τ t64604 := Fr_mu F64546 M64605 (by decide)
                                refine r_aload_n S dX12_skip_275 rfl (lv_at hl 1 rfl) ?_
                                refine r_dup S dX12_skip_276 rfl ?_
                                refine r_geti (K := 38) S X64606 (Nat.le_of_ble_eq_true rfl) rfl lk12_154_10 (fun _ => ⟨_, rfl, rfl⟩) ((M64605.2 131 13 (Or.inr (by decide))).trans ((M64544.1 131 (by decide) 13).trans z64266)) dX12_skip_277 ?_
                                refine r_iconst S dX12_skip_280 (by decide) (fun v64609 z64610 => ?_)
                                have r64611 := R_eq z64610
                                refine r_iadd S dX12_skip_281 (fun v64612 z64613 => ?_)
                                obtain ⟨e64614, r64615⟩ := i_add (lo := 1) (hi := 2) z64613 r64576 r64611 rfl
                                refine r_put (K := 38) (ty := .int) S X64606 (Nat.le_of_ble_eq_true rfl) rfl lk12_154_10 (fun _ => ⟨_, rfl, Nat.le_of_ble_eq_true rfl, rfl⟩) (fun _ _ _ h => by cases h; exact ⟨rfl, rfl⟩) rfl rfl dX12_skip_282 (fun t64616 H lc M64617 X64618 => ?_)
                                have I64619 := Inv_mu I64607 M64617 (show Rg (kd 131) 13 v64612 from (R_of (lo := 0) (hi := 940) r64615 rfl))
                                have F64620 : Fr [(131, 4), (131, 11), (131, 12), (131, 13), (131, 14)] [331] τ t64616 := Fr_mu F64608 M64617 (by decide)
                                refine r_aload_n S dX12_skip_285 rfl (lv_at hl 1 rfl) ?_
                                refine r_dup S dX12_skip_286 rfl ?_
                                refine r_geti (K := 38) S X64618 (Nat.le_of_ble_eq_true rfl) rfl lk12_21_10 (fun _ => ⟨_, rfl, rfl⟩) ((M64617.2 131 4 (Or.inr (by decide))).trans ((M64605.2 131 4 (Or.inr (by decide))).trans ((M64544.1 131 (by decide) 4).trans z64260))) dX12_skip_287 ?_
                                refine r_iconst S dX12_skip_290 (by decide) (fun v64621 z64622 => ?_)
                                have r64623 := R_eq z64622
                                refine r_iadd S dX12_skip_291 (fun v64624 z64625 => ?_)
                                obtain ⟨e64626, r64627⟩ := i_add (lo := 1) (hi := 940) z64625 r64299 r64623 rfl
                                refine r_put (K := 38) (ty := .int) S X64618 (Nat.le_of_ble_eq_true rfl) rfl lk12_21_10 (fun _ => ⟨_, rfl, Nat.le_of_ble_eq_true rfl, rfl⟩) (fun _ _ _ h => by cases h; exact ⟨rfl, rfl⟩) rfl rfl dX12_skip_292 (fun t64628 H lc M64629 X64630 => ?_)
                                have I64631 := Inv_mu I64619 M64629 (show Rg (kd 131) 4 v64624 from (R_of (lo := 0) (hi := 940) r64627 rfl))
                                have F64632 : Fr [(131, 4), (131, 11), (131, 12), (131, 13), (131, 14)] [331] τ t64628 := Fr_mu F64620 M64629 (by decide)
                                refine r_goto (tgt := 181) S dX12_skip_295 (by decide) ?_
                                exact ih64273 t64628 _ _ _ v64481 v64624 v64612 v64601 X64630 I64631 F64632 (R_of r64483 rfl) M64629.1 ⟨by omega, by omega⟩ ((M64629.2 131 3 (Or.inr (by decide))).trans ((M64617.2 131 3 (Or.inr (by decide))).trans ((M64605.2 131 3 (Or.inr (by decide))).trans ((M64544.1 131 (by decide) 3).trans z64261)))) ((M64629.2 131 5 (Or.inr (by decide))).trans ((M64617.2 131 5 (Or.inr (by decide))).trans ((M64605.2 131 5 (Or.inr (by decide))).trans ((M64544.1 131 (by decide) 5).trans z64262)))) ((M64629.2 131 12 (Or.inr (by decide))).trans ((M64617.2 131 12 (Or.inr (by decide))).trans ((M64605.2 131 12 (Or.inr (by decide))).trans ((M64544.1 131 (by decide) 12).trans z64263)))) ((M64629.2 131 13 (Or.inr (by decide))).trans M64617.1) ⟨by omega, by omega⟩ ((M64629.2 131 14 (Or.inr (by decide))).trans ((M64617.2 131 14 (Or.inr (by decide))).trans M64605.1)) ⟨by omega, by omega⟩ (LM_upq (i := f64258) (sp := f64264) (al := i64252) x64271 hs32863 (by omega) (by omega) (LM_hw (x := v64529) (y := v64521) x64271 z64520 (by omega) (by rw [z64541, z64525, z64539]) ((qof_of (k := 131) (fun j => ((M64629.2 331 j (Or.inl (by decide))).trans ((M64617.2 331 j (Or.inl (by decide))).trans ((M64605.2 331 j (Or.inl (by decide))).trans rfl)))) 17).trans (Ml_upd M64544)) (by omega) (by omega)) (LM_hn (c := v64577) (x := v64586) (d := v64598) x64271 (by omega) z64581 z64596 (by omega) z64602 (by omega) (by omega)) (by omega) (by omega) (by omega)) (by omega) (lv_sub hl [1, 2, 0] rfl) (by omega)
                          ·
                            refine r_iconst S dX12_skip_216 (by decide) (fun v64633 z64634 => ?_)
                            have r64635 := R_eq z64634
                            refine r_goto (tgt := 221) S dX12_skip_217 (by decide) ?_
                            refine r_istore_n (lv' := [(3, .int v64633), (0, .ref (G.2.2.2.1 131)), (2, .int v32855)]) S dX12_skip_221 rfl hl (by decide) rfl (fun ls hl => ?_)
                            refine r_aload_n S dX12_skip_222 rfl (lv_at hl 1 rfl) ?_
                            refine r_geti (K := 38) S X64473 (Nat.le_of_ble_eq_true rfl) rfl lk12_154_10 (fun _ => ⟨_, rfl, rfl⟩) z64266 dX12_skip_223 ?_
                            refine r_bipush S dX12_skip_226 (by decide) (fun v64636 z64637 => ?_)
                            have r64638 := R_eq z64637
                            refine r_icmp_ge (tgt := 248) S dX12_skip_228 (by decide) (fun c64639 => ?_) (fun c64639 => ?_)
                            ·
                              have r64640 : R (7) (940) f64264 := ⟨by omega, by omega⟩
                              refine r_aload_n S dX12_skip_248 rfl (lv_at hl 1 rfl) ?_
                              refine r_geti (K := 38) S X64473 (Nat.le_of_ble_eq_true rfl) rfl lk12_154_10 (fun _ => ⟨_, rfl, rfl⟩) z64266 dX12_skip_249 ?_
                              refine r_iconst S dX12_skip_252 (by decide) (fun v64641 z64642 => ?_)
                              have r64643 := R_eq z64642
                              refine r_icmp_ge (tgt := 275) S dX12_skip_253 (by decide) (fun c64644 => ?_) (fun c64644 => ?_)
                              ·
                                refine r_aload_n S dX12_skip_275 rfl (lv_at hl 1 rfl) ?_
                                refine r_dup S dX12_skip_276 rfl ?_
                                refine r_geti (K := 38) S X64473 (Nat.le_of_ble_eq_true rfl) rfl lk12_154_10 (fun _ => ⟨_, rfl, rfl⟩) z64266 dX12_skip_277 ?_
                                refine r_iconst S dX12_skip_280 (by decide) (fun v64645 z64646 => ?_)
                                have r64647 := R_eq z64646
                                refine r_iadd S dX12_skip_281 (fun v64648 z64649 => ?_)
                                obtain ⟨e64650, r64651⟩ := i_add (lo := 8) (hi := 941) z64649 r64640 r64647 rfl
                                refine r_put (K := 38) (ty := .int) S X64473 (Nat.le_of_ble_eq_true rfl) rfl lk12_154_10 (fun _ => ⟨_, rfl, Nat.le_of_ble_eq_true rfl, rfl⟩) (fun _ _ _ h => by cases h; exact ⟨rfl, rfl⟩) rfl rfl dX12_skip_282 (fun t64652 H lc M64653 X64654 => ?_)
                                have I64655 := Inv_mu I64255 M64653 (show Rg (kd 131) 13 v64648 from (show R (0) (940) v64648 from ⟨by omega, by omega⟩))
                                have F64656 : Fr [(131, 4), (131, 11), (131, 12), (131, 13), (131, 14)] [331] τ t64652 := Fr_mu F64256 M64653 (by decide)
                                have r64657 : R (8) (940) v64648 := ⟨by omega, by omega⟩
                                refine r_aload_n S dX12_skip_285 rfl (lv_at hl 1 rfl) ?_
                                refine r_dup S dX12_skip_286 rfl ?_
                                refine r_geti (K := 38) S X64654 (Nat.le_of_ble_eq_true rfl) rfl lk12_21_10 (fun _ => ⟨_, rfl, rfl⟩) ((M64653.2 131 4 (Or.inr (by decide))).trans z64260) dX12_skip_287 ?_
                                refine r_iconst S dX12_skip_290 (by decide) (fun v64658 z64659 => ?_)
                                have r64660 := R_eq z64659
                                refine r_iadd S dX12_skip_291 (fun v64661 z64662 => ?_)
                                obtain ⟨e64663, r64664⟩ := i_add (lo := 1) (hi := 940) z64662 r64299 r64660 rfl
                                refine r_put (K := 38) (ty := .int) S X64654 (Nat.le_of_ble_eq_true rfl) rfl lk12_21_10 (fun _ => ⟨_, rfl, Nat.le_of_ble_eq_true rfl, rfl⟩) (fun _ _ _ h => by cases h; exact ⟨rfl, rfl⟩) rfl rfl dX12_skip_292 (fun t64665 H lc M64666 X64667 => ?_)
                                have I64668 := Inv_mu I64655 M64666 (show Rg (kd 131) 4 v64661 from (R_of (lo := 0) (hi := 940) r64664 rfl))
                                have F64669 : Fr [(131, 4), (131, 11), (131, 12), (131, 13), (131, 14)] [331] τ t64665 := Fr_mu F64656 M64666 (by decide)
                                refine r_goto (tgt := 181) S dX12_skip_295 (by decide) ?_
                                exact ih64273 t64665 _ _ _ v64633 v64661 v64648 f64267 X64667 I64668 F64669 (R_of r64635 rfl) M64666.1 ⟨by omega, by omega⟩ ((M64666.2 131 3 (Or.inr (by decide))).trans ((M64653.2 131 3 (Or.inr (by decide))).trans z64261)) ((M64666.2 131 5 (Or.inr (by decide))).trans ((M64653.2 131 5 (Or.inr (by decide))).trans z64262)) ((M64666.2 131 12 (Or.inr (by decide))).trans ((M64653.2 131 12 (Or.inr (by decide))).trans z64263)) ((M64666.2 131 13 (Or.inr (by decide))).trans M64653.1) ⟨by omega, by omega⟩ ((M64666.2 131 14 (Or.inr (by decide))).trans ((M64653.2 131 14 (Or.inr (by decide))).trans z64269)) ⟨by omega, by omega⟩ (by rw [(qof_of (k := 131) (fun j => ((M64666.2 331 j (Or.inl (by decide))).trans ((M64653.2 331 j (Or.inl (by decide))).trans rfl))) 17)]; exact LM_upq (i := f64258) (sp := f64264) (al := i64252) x64271 hs32863 (by omega) (by omega) (fun _ _ h => by exfalso; omega) (fun _ _ h => by exfalso; omega) (by omega) (by omega) (by omega)) (by omega) (lv_sub hl [1, 2, 0] rfl) (by omega)
                              ·
                                exfalso; omega
                            ·
                              have r64670 : R (0) (6) f64264 := ⟨by omega, by omega⟩
                              refine r_aload_n S dX12_skip_231 rfl (lv_at hl 1 rfl) ?_
                              refine r_aload_n S dX12_skip_232 rfl (lv_at hl 1 rfl) ?_
                              refine r_getJ (K := 38) S X64473 (Nat.le_of_ble_eq_true rfl) rfl lk12_170_10 (fun _ => ⟨_, rfl, rfl⟩) dX12_skip_233 (fun j64671 z64672 => ?_)
                              refine r_bipush S dX12_skip_236 (by decide) (fun v64673 z64674 => ?_)
                              have r64675 := R_eq z64674
                              refine lv_lshl S.1.1 S.1.2.1 dX12_skip_238 rfl ?_
                              refine lv_topl (fun j64676 z64677 => ?_)
                              refine r_aload_n S dX12_skip_239 rfl (lv_at hl 1 rfl) ?_
                              refine r_ki (q_V (As := []) (rest := [.long j64676, .ref (G.2.2.2.1 131)]) (K := 38) (ci := 10) S X64473 (c_X12_peek_x l G t64254 I64255 ) ck12_147 (Nat.le_of_ble_eq_true rfl) rfl (fun _ => ⟨_, rfl⟩) ⟨_, _, rfl⟩ ⟨Nat.le_of_ble_eq_true rfl, Nat.le_of_ble_eq_true rfl⟩ rfl hl.1 rfl (Nat.le_of_ble_eq_true rfl) dX12_skip_240 ⟨Nat.le_refl 0, Nat.le_refl 0⟩) X64473 (fun v64681 t64680 H lc q64678 X64679 => ?_)
                              unfold po_X12_peek_x at q64678
                              obtain ⟨q64682, q64683, q64684, q64685⟩ := q64678
                              rw [q64682] at X64679
                              rw [q64682] at q64684
                              rw [q64682] at q64685
                              have pk64686 : PKf bb nb f64258 v64681 := pk_b hB I64255 (F64256 131 3 (by simp [fz])) (fun j => F64256 132 j (by simp [fz])) z64260 (by omega) q64685
                              obtain ⟨e64687, e64688, e64689⟩ := PK_at pk64686 (by omega)
                              refine lv_i2l S.1.1 S.1.2.1 dX12_skip_243 rfl ?_
                              refine lv_topl (fun j64690 z64691 => ?_)
                              refine lv_lor S.1.1 S.1.2.1 dX12_skip_244 ?_
                              refine lv_topl (fun j64692 z64693 => ?_)
                              refine r_putJ (K := 38) S X64679 (Nat.le_of_ble_eq_true rfl) rfl lk12_170_10 (fun _ => ⟨_, rfl, Nat.le_of_ble_eq_true rfl, rfl⟩) (fun _ _ _ h => by cases h; exact ⟨rfl, rfl⟩) dX12_skip_245 (fun t64695 H lc M64696 X64694 => ?_)
                              have I64697 := Inv_ml I64255 M64696
                              have F64698 : Fr [(131, 4), (131, 11), (131, 12), (131, 13), (131, 14)] [331] τ t64695 := Fr_ml F64256 M64696 (by decide)
                              refine r_aload_n S dX12_skip_248 rfl (lv_at hl 1 rfl) ?_
                              refine r_geti (K := 38) S X64694 (Nat.le_of_ble_eq_true rfl) rfl lk12_154_10 (fun _ => ⟨_, rfl, rfl⟩) ((M64696.1 131 (by decide) 13).trans z64266) dX12_skip_249 ?_
                              refine r_iconst S dX12_skip_252 (by decide) (fun v64699 z64700 => ?_)
                              have r64701 := R_eq z64700
                              refine r_icmp_ge (tgt := 275) S dX12_skip_253 (by decide) (fun c64702 => ?_) (fun c64702 => ?_)
                              ·
                                have r64703 : R (2) (6) f64264 := ⟨by omega, by omega⟩
                                refine r_aload_n S dX12_skip_275 rfl (lv_at hl 1 rfl) ?_
                                refine r_dup S dX12_skip_276 rfl ?_
                                refine r_geti (K := 38) S X64694 (Nat.le_of_ble_eq_true rfl) rfl lk12_154_10 (fun _ => ⟨_, rfl, rfl⟩) ((M64696.1 131 (by decide) 13).trans z64266) dX12_skip_277 ?_
                                refine r_iconst S dX12_skip_280 (by decide) (fun v64704 z64705 => ?_)
                                have r64706 := R_eq z64705
                                refine r_iadd S dX12_skip_281 (fun v64707 z64708 => ?_)
                                obtain ⟨e64709, r64710⟩ := i_add (lo := 3) (hi := 7) z64708 r64703 r64706 rfl
                                refine r_put (K := 38) (ty := .int) S X64694 (Nat.le_of_ble_eq_true rfl) rfl lk12_154_10 (fun _ => ⟨_, rfl, Nat.le_of_ble_eq_true rfl, rfl⟩) (fun _ _ _ h => by cases h; exact ⟨rfl, rfl⟩) rfl rfl dX12_skip_282 (fun t64711 H lc M64712 X64713 => ?_)
                                have I64714 := Inv_mu I64697 M64712 (show Rg (kd 131) 13 v64707 from (R_of (lo := 0) (hi := 940) r64710 rfl))
                                have F64715 : Fr [(131, 4), (131, 11), (131, 12), (131, 13), (131, 14)] [331] τ t64711 := Fr_mu F64698 M64712 (by decide)
                                refine r_aload_n S dX12_skip_285 rfl (lv_at hl 1 rfl) ?_
                                refine r_dup S dX12_skip_286 rfl ?_
                                refine r_geti (K := 38) S X64713 (Nat.le_of_ble_eq_true rfl) rfl lk12_21_10 (fun _ => ⟨_, rfl, rfl⟩) ((M64712.2 131 4 (Or.inr (by decide))).trans ((M64696.1 131 (by decide) 4).trans z64260)) dX12_skip_287 ?_
                                refine r_iconst S dX12_skip_290 (by decide) (fun v64716 z64717 => ?_)
                                have r64718 := R_eq z64717
                                refine r_iadd S dX12_skip_291 (fun v64719 z64720 => ?_)
                                obtain ⟨e64721, r64722⟩ := i_add (lo := 1) (hi := 940) z64720 r64299 r64718 rfl
                                refine r_put (K := 38) (ty := .int) S X64713 (Nat.le_of_ble_eq_true rfl) rfl lk12_21_10 (fun _ => ⟨_, rfl, Nat.le_of_ble_eq_true rfl, rfl⟩) (fun _ _ _ h => by cases h; exact ⟨rfl, rfl⟩) rfl rfl dX12_skip_292 (fun t64723 H lc M64724 X64725 => ?_)
                                have I64726 := Inv_mu I64714 M64724 (show Rg (kd 131) 4 v64719 from (R_of (lo := 0) (hi := 940) r64722 rfl))
                                have F64727 : Fr [(131, 4), (131, 11), (131, 12), (131, 13), (131, 14)] [331] τ t64723 := Fr_mu F64715 M64724 (by decide)
                                refine r_goto (tgt := 181) S dX12_skip_295 (by decide) ?_
                                exact ih64273 t64723 _ _ _ v64633 v64719 v64707 f64267 X64725 I64726 F64727 (R_of r64635 rfl) M64724.1 ⟨by omega, by omega⟩ ((M64724.2 131 3 (Or.inr (by decide))).trans ((M64712.2 131 3 (Or.inr (by decide))).trans ((M64696.1 131 (by decide) 3).trans z64261))) ((M64724.2 131 5 (Or.inr (by decide))).trans ((M64712.2 131 5 (Or.inr (by decide))).trans ((M64696.1 131 (by decide) 5).trans z64262))) ((M64724.2 131 12 (Or.inr (by decide))).trans ((M64712.2 131 12 (Or.inr (by decide))).trans ((M64696.1 131 (by decide) 12).trans z64263))) ((M64724.2 131 13 (Or.inr (by decide))).trans M64712.1) ⟨by omega, by omega⟩ ((M64724.2 131 14 (Or.inr (by decide))).trans ((M64712.2 131 14 (Or.inr (by decide))).trans ((M64696.1 131 (by decide) 14).trans z64269))) ⟨by omega, by omega⟩ (LM_upq (i := f64258) (sp := f64264) (al := i64252) x64271 hs32863 (by omega) (by omega) (LM_hw (x := v64681) (y := v64673) x64271 z64672 (by omega) (by rw [z64693, z64677, z64691]) ((qof_of (k := 131) (fun j => ((M64724.2 331 j (Or.inl (by decide))).trans ((M64712.2 331 j (Or.inl (by decide))).trans rfl))) 17).trans (Ml_upd M64696)) (by omega) (by omega)) (fun _ _ h => by exfalso; omega) (by omega) (by omega) (by omega)) (by omega) (lv_sub hl [1, 2, 0] rfl) (by omega)
                              ·
                                have r64728 : R (0) (1) f64264 := ⟨by omega, by omega⟩
                                refine r_aload_n S dX12_skip_256 rfl (lv_at hl 1 rfl) ?_
                                refine r_bipush S dX12_skip_257 (by decide) (fun v64729 z64730 => ?_)
                                have r64731 := R_eq z64730
                                refine r_aload_n S dX12_skip_259 rfl (lv_at hl 1 rfl) ?_
                                refine r_geti (K := 38) S X64694 (Nat.le_of_ble_eq_true rfl) rfl lk12_167_10 (fun _ => ⟨_, rfl, rfl⟩) ((M64696.1 131 (by decide) 14).trans z64269) dX12_skip_260 ?_
                                refine r_imul S dX12_skip_263 (fun v64732 z64733 => ?_)
                                have r64734 := R_any v64732
                                refine r_aload_n S dX12_skip_264 rfl (lv_at hl 1 rfl) ?_
                                refine r_ki (q_V (As := []) (rest := [.int v64732, .ref (G.2.2.2.1 131)]) (K := 38) (ci := 10) S X64694 (c_X12_peek_x l G t64695 I64697 ) ck12_147 (Nat.le_of_ble_eq_true rfl) rfl (fun _ => ⟨_, rfl⟩) ⟨_, _, rfl⟩ ⟨Nat.le_of_ble_eq_true rfl, Nat.le_of_ble_eq_true rfl⟩ rfl hl.1 rfl (Nat.le_of_ble_eq_true rfl) dX12_skip_265 ⟨Nat.le_refl 0, Nat.le_refl 0⟩) X64694 (fun v64738 t64737 H lc q64735 X64736 => ?_)
                                unfold po_X12_peek_x at q64735
                                obtain ⟨q64739, q64740, q64741, q64742⟩ := q64735
                                rw [q64739] at X64736
                                rw [q64739] at q64741
                                rw [q64739] at q64742
                                have pk64743 : PKf bb nb f64258 v64738 := pk_b hB I64697 (F64698 131 3 (by simp [fz])) (fun j => F64698 132 j (by simp [fz])) ((M64696.1 131 (by decide) 4).trans z64260) (by omega) q64742
                                obtain ⟨e64744, e64745, e64746⟩ := PK_at pk64743 (by omega)
                                refine r_iadd S dX12_skip_268 (fun v64747 z64748 => ?_)
                                have r64749 := R_any v64747
                                refine r_bipush S dX12_skip_269 (by decide) (fun v64750 z64751 => ?_)
                                have r64752 := R_eq z64751
                                refine r_isub S dX12_skip_271 (fun v64753 z64754 => ?_)
                                have r64755 := R_any v64753
                                refine r_put (K := 38) (ty := .int) S X64736 (Nat.le_of_ble_eq_true rfl) rfl lk12_167_10 (fun _ => ⟨_, rfl, Nat.le_of_ble_eq_true rfl, rfl⟩) (fun _ _ _ h => by cases h; exact ⟨rfl, rfl⟩) rfl rfl dX12_skip_272 (fun t64756 H lc M64757 X64758 => ?_)
                                have I64759 := Inv_mu I64697 M64757 (R_any v64753)
                                have F64760 : Fr [(131, 4), (131, 11), (131, 12), (131, 13), (131, 14)] [331] τ t64756 := Fr_mu F64698 M64757 (by decide)
                                refine r_aload_n S dX12_skip_275 rfl (lv_at hl 1 rfl) ?_
                                refine r_dup S dX12_skip_276 rfl ?_
                                refine r_geti (K := 38) S X64758 (Nat.le_of_ble_eq_true rfl) rfl lk12_154_10 (fun _ => ⟨_, rfl, rfl⟩) ((M64757.2 131 13 (Or.inr (by decide))).trans ((M64696.1 131 (by decide) 13).trans z64266)) dX12_skip_277 ?_
                                refine r_iconst S dX12_skip_280 (by decide) (fun v64761 z64762 => ?_)
                                have r64763 := R_eq z64762
                                refine r_iadd S dX12_skip_281 (fun v64764 z64765 => ?_)
                                obtain ⟨e64766, r64767⟩ := i_add (lo := 1) (hi := 2) z64765 r64728 r64763 rfl
                                refine r_put (K := 38) (ty := .int) S X64758 (Nat.le_of_ble_eq_true rfl) rfl lk12_154_10 (fun _ => ⟨_, rfl, Nat.le_of_ble_eq_true rfl, rfl⟩) (fun _ _ _ h => by cases h; exact ⟨rfl, rfl⟩) rfl rfl dX12_skip_282 (fun t64768 H lc M64769 X64770 => ?_)
                                have I64771 := Inv_mu I64759 M64769 (show Rg (kd 131) 13 v64764 from (R_of (lo := 0) (hi := 940) r64767 rfl))
                                have F64772 : Fr [(131, 4), (131, 11), (131, 12), (131, 13), (131, 14)] [331] τ t64768 := Fr_mu F64760 M64769 (by decide)
                                refine r_aload_n S dX12_skip_285 rfl (lv_at hl 1 rfl) ?_
                                refine r_dup S dX12_skip_286 rfl ?_
                                refine r_geti (K := 38) S X64770 (Nat.le_of_ble_eq_true rfl) rfl lk12_21_10 (fun _ => ⟨_, rfl, rfl⟩) ((M64769.2 131 4 (Or.inr (by decide))).trans ((M64757.2 131 4 (Or.inr (by decide))).trans ((M64696.1 131 (by decide) 4).trans z64260))) dX12_skip_287 ?_
                                refine r_iconst S dX12_skip_290 (by decide) (fun v64773 z64774 => ?_)
                                have r64775 := R_eq z64774
                                refine r_iadd S dX12_skip_291 (fun v64776 z64777 => ?_)
                                obtain ⟨e64778, r64779⟩ := i_add (lo := 1) (hi := 940) z64777 r64299 r64775 rfl
                                refine r_put (K := 38) (ty := .int) S X64770 (Nat.le_of_ble_eq_true rfl) rfl lk12_21_10 (fun _ => ⟨_, rfl, Nat.le_of_ble_eq_true rfl, rfl⟩) (fun _ _ _ h => by cases h; exact ⟨rfl, rfl⟩) rfl rfl dX12_skip_292 (fun t64780 H lc M64781 X64782 => ?_)
                                have I64783 := Inv_mu I64771 M64781 (show Rg (kd 131) 4 v64776 from (R_of (lo := 0) (hi := 940) r64779 rfl))
                                have F64784 : Fr [(131, 4), (131, 11), (131, 12), (131, 13), (131, 14)] [331] τ t64780 := Fr_mu F64772 M64781 (by decide)
                                refine r_goto (tgt := 181) S dX12_skip_295 (by decide) ?_
                                exact ih64273 t64780 _ _ _ v64633 v64776 v64764 v64753 X64782 I64783 F64784 (R_of r64635 rfl) M64781.1 ⟨by omega, by omega⟩ ((M64781.2 131 3 (Or.inr (by decide))).trans ((M64769.2 131 3 (Or.inr (by decide))).trans ((M64757.2 131 3 (Or.inr (by decide))).trans ((M64696.1 131 (by decide) 3).trans z64261)))) ((M64781.2 131 5 (Or.inr (by decide))).trans ((M64769.2 131 5 (Or.inr (by decide))).trans ((M64757.2 131 5 (Or.inr (by decide))).trans ((M64696.1 131 (by decide) 5).trans z64262)))) ((M64781.2 131 12 (Or.inr (by decide))).trans ((M64769.2 131 12 (Or.inr (by decide))).trans ((M64757.2 131 12 (Or.inr (by decide))).trans ((M64696.1 131 (by decide) 12).trans z64263)))) ((M64781.2 131 13 (Or.inr (by decide))).trans M64769.1) ⟨by omega, by omega⟩ ((M64781.2 131 14 (Or.inr (by decide))).trans ((M64769.2 131 14 (Or.inr (by decide))).trans M64757.1)) ⟨by omega, by omega⟩ (LM_upq (i := f64258) (sp := f64264) (al := i64252) x64271 hs32863 (by omega) (by omega) (LM_hw (x := v64681) (y := v64673) x64271 z64672 (by omega) (by rw [z64693, z64677, z64691]) ((qof_of (k := 131) (fun j => ((M64781.2 331 j (Or.inl (by decide))).trans ((M64769.2 331 j (Or.inl (by decide))).trans ((M64757.2 331 j (Or.inl (by decide))).trans rfl)))) 17).trans (Ml_upd M64696)) (by omega) (by omega)) (LM_hn (c := v64729) (x := v64738) (d := v64750) x64271 (by omega) z64733 z64748 (by omega) z64754 (by omega) (by omega)) (by omega) (by omega) (by omega)) (by omega) (lv_sub hl [1, 2, 0] rfl) (by omega)
                      ·
                        have r64785 : R (0) (0) v64288 := ⟨by omega, by omega⟩
                        refine r_aload_n S dX12_skip_191 rfl (lv_at hl 0 rfl) ?_
                        refine r_ki (q_V (As := []) (rest := []) (K := 38) (ci := 10) S X64286 (c_X12_peek_x l G t64254 I64255 ) ck12_147 (Nat.le_of_ble_eq_true rfl) rfl (fun _ => ⟨_, rfl⟩) ⟨_, _, rfl⟩ ⟨Nat.le_of_ble_eq_true rfl, Nat.le_of_ble_eq_true rfl⟩ rfl hl.1 rfl (Nat.le_of_ble_eq_true rfl) dX12_skip_192 ⟨Nat.le_refl 0, Nat.le_refl 0⟩) X64286 (fun v64789 t64788 H lc q64786 X64787 => ?_)
                        unfold po_X12_peek_x at q64786
                        obtain ⟨q64790, q64791, q64792, q64793⟩ := q64786
                        rw [q64790] at X64787
                        rw [q64790] at q64792
                        rw [q64790] at q64793
                        have pk64794 : PKf bb nb f64258 v64789 := pk_b hB I64255 (F64256 131 3 (by simp [fz])) (fun j => F64256 132 j (by simp [fz])) z64260 (by omega) q64793
                        refine r_ki (q_S (As := [.int v64789]) (rest := []) S X64787 (c_X12_isDigit_x l G t64254 I64255 v64789 (R_of (lo := -2147483648) (hi := 2147483647) q64791 rfl)) ck12_164 ⟨Nat.le_of_ble_eq_true rfl, Nat.le_of_ble_eq_true rfl⟩ rfl hl.1 rfl (Nat.le_of_ble_eq_true rfl) dX12_skip_195 ⟨Nat.le_refl 0, Nat.le_refl 0⟩) X64787 (fun v64798 t64797 H lc q64795 X64796 => ?_)
                        unfold po_X12_isDigit_x at q64795
                        obtain ⟨q64799, q64800, q64801, q64802⟩ := q64795
                        rw [q64799] at X64796
                        refine r_if_eq (tgt := 298) S dX12_skip_198 (by decide) (fun c64803 => ?_) (fun c64803 => ?_)
                        ·
                          have r64804 : R (0) (0) v64798 := ⟨by omega, by omega⟩
                          have he64805 : f64258.toInt.toNat < nb → ¬ aln (bb f64258.toInt.toNat) := fun h => by have q0 := PK_at pk64284 (by omega); have q1 := PK_at pk64794 (by omega); omega
                          have e64806 : 0 < f64264.toInt := LM_pos x64271 hs32863 he64805 (by omega)
                          refine r_aload_n S dX12_skip_298 rfl (lv_at hl 0 rfl) ?_
                          refine r_iload_n S dX12_skip_299 rfl (lv_at hl 2 rfl) ?_
                          refine r_if_eq (tgt := 320) S dX12_skip_300 (by decide) (fun c64807 => ?_) (fun c64807 => ?_)
                          ·
                            have r64808 : R (0) (0) i64252 := ⟨by omega, by omega⟩
                            refine r_iconst S dX12_skip_320 (by decide) (fun v64809 z64810 => ?_)
                            have r64811 := R_eq z64810
                            refine r_goto (tgt := 333) S dX12_skip_321 (by decide) ?_
                            refine r_put (K := 38) (ty := .int) S X64796 (Nat.le_of_ble_eq_true rfl) rfl lk12_157_10 (fun _ => ⟨_, rfl, Nat.le_of_ble_eq_true rfl, rfl⟩) (fun _ _ _ h => by cases h; exact ⟨rfl, rfl⟩) rfl rfl dX12_skip_333 (fun t64812 H lc M64813 X64814 => ?_)
                            have I64815 := Inv_mu I64255 M64813 (show Rg (kd 131) 11 v64809 from (R_of (lo := 0) (hi := 4) r64811 rfl))
                            have F64816 : Fr [(131, 4), (131, 11), (131, 12), (131, 13), (131, 14)] [331] τ t64812 := Fr_mu F64256 M64813 (by decide)
                            exact r_vret S hr hlk X64814 ⟨I64815, F64816, (by rw [((M64813.2 131 4 (Or.inr (by decide))).trans z64260)]; exact R_of r64259 rfl), (by rw [M64813.1]; exact R_of r64811 rfl), (by have h1_0 := congrArg Int32.toInt ((M64813.2 131 4 (Or.inr (by decide))).trans z64260); have h2_0 := congrArg Int32.toInt z2; omega), (by have h1_0 := congrArg Int32.toInt ((M64813.2 131 4 (Or.inr (by decide))).trans z64260); have h2_0 := congrArg Int32.toInt z2; have h1_1 := congrArg Int32.toInt M64813.1; omega), (MT_odd (A := f223.toInt.toNat) (i := f64258.toInt.toNat) (sm := v32855.toInt) (al := i64252.toInt) (sp := f64264.toInt) x64271 (MB_eq hB (F64816 131 3 (by simp [fz])) (F64816 131 5 (by simp [fz])) (fun j => F64816 132 j (by simp [fz]))) ⟨by omega, by omega, x229, fun _ => by omega⟩ (by omega) (by omega) he64805 hs32863 (by omega) (by omega) (by have q := congrArg Int32.toInt ((M64813.2 131 12 (Or.inr (by decide))).trans z64263); omega) (by have q := congrArg Int32.toInt M64813.1; omega))⟩ dX12_skip_336
                          ·
                            have r64817 : R (1) (1) i64252 := ⟨by omega, by omega⟩
                            refine r_aload_n S dX12_skip_303 rfl (lv_at hl 0 rfl) ?_
                            refine r_geti (K := 38) S X64796 (Nat.le_of_ble_eq_true rfl) rfl lk12_154_10 (fun _ => ⟨_, rfl, rfl⟩) z64266 dX12_skip_304 ?_
                            refine r_iload_n S dX12_skip_307 rfl (lv_at hl 1 rfl) ?_
                            refine r_if_eq (tgt := 316) S dX12_skip_308 (by decide) (fun c64818 => ?_) (fun c64818 => ?_)
                            ·
                              have r64819 : R (0) (0) v32855 := ⟨by omega, by omega⟩
                              refine r_iconst S dX12_skip_316 (by decide) (fun v64820 z64821 => ?_)
                              have r64822 := R_eq z64821
                              refine r_icmp_le (tgt := 324) S dX12_skip_317 (by decide) (fun c64823 => ?_) (fun c64823 => ?_)
                              ·
                                have r64824 : R (0) (2) f64264 := ⟨by omega, by omega⟩
                                refine r_iload_n S dX12_skip_324 rfl (lv_at hl 1 rfl) ?_
                                refine r_if_eq (tgt := 332) S dX12_skip_325 (by decide) (fun c64825 => ?_) (fun c64825 => ?_)
                                ·
                                  refine r_iconst S dX12_skip_332 (by decide) (fun v64826 z64827 => ?_)
                                  have r64828 := R_eq z64827
                                  refine r_put (K := 38) (ty := .int) S X64796 (Nat.le_of_ble_eq_true rfl) rfl lk12_157_10 (fun _ => ⟨_, rfl, Nat.le_of_ble_eq_true rfl, rfl⟩) (fun _ _ _ h => by cases h; exact ⟨rfl, rfl⟩) rfl rfl dX12_skip_333 (fun t64829 H lc M64830 X64831 => ?_)
                                  have I64832 := Inv_mu I64255 M64830 (show Rg (kd 131) 11 v64826 from (R_of (lo := 0) (hi := 4) r64828 rfl))
                                  have F64833 : Fr [(131, 4), (131, 11), (131, 12), (131, 13), (131, 14)] [331] τ t64829 := Fr_mu F64256 M64830 (by decide)
                                  exact r_vret S hr hlk X64831 ⟨I64832, F64833, (by rw [((M64830.2 131 4 (Or.inr (by decide))).trans z64260)]; exact R_of r64259 rfl), (by rw [M64830.1]; exact R_of r64828 rfl), (by have h1_0 := congrArg Int32.toInt ((M64830.2 131 4 (Or.inr (by decide))).trans z64260); have h2_0 := congrArg Int32.toInt z2; omega), (by have h1_0 := congrArg Int32.toInt ((M64830.2 131 4 (Or.inr (by decide))).trans z64260); have h2_0 := congrArg Int32.toInt z2; have h1_1 := congrArg Int32.toInt M64830.1; omega), (MT_nbr (A := f223.toInt.toNat) (i := f64258.toInt.toNat) (sm := v32855.toInt) (al := i64252.toInt) (sp := f64264.toInt) (wd := (qof t64254 131 17).toInt) (by rw [((M64830.2 131 14 (Or.inr (by decide))).trans z64269)]; exact x64271) (MB_eq hB (F64833 131 3 (by simp [fz])) (F64833 131 5 (by simp [fz])) (fun j => F64833 132 j (by simp [fz]))) ⟨by omega, by omega, x229, fun _ => by omega⟩ (by omega) (by omega) he64805 (by omega) (by omega) (by omega) (by have q := congrArg Int32.toInt ((M64830.2 131 12 (Or.inr (by decide))).trans z64263); omega) (by have q := congrArg Int32.toInt ((M64830.2 131 4 (Or.inr (by decide))).trans z64260); omega) (by have q := congrArg Int32.toInt M64830.1; omega))⟩ dX12_skip_336
                                ·
                                  exfalso; omega
                              ·
                                have r64834 : R (3) (940) f64264 := ⟨by omega, by omega⟩
                                refine r_iconst S dX12_skip_320 (by decide) (fun v64835 z64836 => ?_)
                                have r64837 := R_eq z64836
                                refine r_goto (tgt := 333) S dX12_skip_321 (by decide) ?_
                                refine r_put (K := 38) (ty := .int) S X64796 (Nat.le_of_ble_eq_true rfl) rfl lk12_157_10 (fun _ => ⟨_, rfl, Nat.le_of_ble_eq_true rfl, rfl⟩) (fun _ _ _ h => by cases h; exact ⟨rfl, rfl⟩) rfl rfl dX12_skip_333 (fun t64838 H lc M64839 X64840 => ?_)
                                have I64841 := Inv_mu I64255 M64839 (show Rg (kd 131) 11 v64835 from (R_of (lo := 0) (hi := 4) r64837 rfl))
                                have F64842 : Fr [(131, 4), (131, 11), (131, 12), (131, 13), (131, 14)] [331] τ t64838 := Fr_mu F64256 M64839 (by decide)
                                exact r_vret S hr hlk X64840 ⟨I64841, F64842, (by rw [((M64839.2 131 4 (Or.inr (by decide))).trans z64260)]; exact R_of r64259 rfl), (by rw [M64839.1]; exact R_of r64837 rfl), (by have h1_0 := congrArg Int32.toInt ((M64839.2 131 4 (Or.inr (by decide))).trans z64260); have h2_0 := congrArg Int32.toInt z2; omega), (by have h1_0 := congrArg Int32.toInt ((M64839.2 131 4 (Or.inr (by decide))).trans z64260); have h2_0 := congrArg Int32.toInt z2; have h1_1 := congrArg Int32.toInt M64839.1; omega), (MT_odd (A := f223.toInt.toNat) (i := f64258.toInt.toNat) (sm := v32855.toInt) (al := i64252.toInt) (sp := f64264.toInt) x64271 (MB_eq hB (F64842 131 3 (by simp [fz])) (F64842 131 5 (by simp [fz])) (fun j => F64842 132 j (by simp [fz]))) ⟨by omega, by omega, x229, fun _ => by omega⟩ (by omega) (by omega) he64805 hs32863 (by omega) (by omega) (by have q := congrArg Int32.toInt ((M64839.2 131 12 (Or.inr (by decide))).trans z64263); omega) (by have q := congrArg Int32.toInt M64839.1; omega))⟩ dX12_skip_336
                            ·
                              exfalso; omega
                        ·
                          have r64845 : R (1) (1) v64798 := ⟨by omega, by omega⟩
                          have p64846 := q64801 (by omega)
                          have r64847 : R (48) (57) v64789 := ⟨by omega, by omega⟩
                          have p64848 := q64792 (by omega)
                          have r64849 : R (0) (939) f64258 := z64260 ▸ p64848
                          have r64850 : R (0) (939) f64258 := ⟨by omega, by omega⟩
                          obtain ⟨e64851, e64852⟩ := PK_in pk64794 (by omega)
                          obtain ⟨e64853, e64854, e64855⟩ := PK_at pk64794 e64851
                          refine r_iload_n S dX12_skip_201 rfl (lv_at hl 2 rfl) ?_
                          refine r_if_eq (tgt := 220) S dX12_skip_202 (by decide) (fun c64856 => ?_) (fun c64856 => ?_)
                          ·
                            have r64857 : R (0) (0) i64252 := ⟨by omega, by omega⟩
                            refine r_iconst S dX12_skip_220 (by decide) (fun v64858 z64859 => ?_)
                            have r64860 := R_eq z64859
                            refine r_istore_n (lv' := [(3, .int v64858), (0, .ref (G.2.2.2.1 131)), (2, .int v32855)]) S dX12_skip_221 rfl hl (by decide) rfl (fun ls hl => ?_)
                            refine r_aload_n S dX12_skip_222 rfl (lv_at hl 1 rfl) ?_
                            refine r_geti (K := 38) S X64796 (Nat.le_of_ble_eq_true rfl) rfl lk12_154_10 (fun _ => ⟨_, rfl, rfl⟩) z64266 dX12_skip_223 ?_
                            refine r_bipush S dX12_skip_226 (by decide) (fun v64861 z64862 => ?_)
                            have r64863 := R_eq z64862
                            refine r_icmp_ge (tgt := 248) S dX12_skip_228 (by decide) (fun c64864 => ?_) (fun c64864 => ?_)
                            ·
                              have r64865 : R (7) (940) f64264 := ⟨by omega, by omega⟩
                              refine r_aload_n S dX12_skip_248 rfl (lv_at hl 1 rfl) ?_
                              refine r_geti (K := 38) S X64796 (Nat.le_of_ble_eq_true rfl) rfl lk12_154_10 (fun _ => ⟨_, rfl, rfl⟩) z64266 dX12_skip_249 ?_
                              refine r_iconst S dX12_skip_252 (by decide) (fun v64866 z64867 => ?_)
                              have r64868 := R_eq z64867
                              refine r_icmp_ge (tgt := 275) S dX12_skip_253 (by decide) (fun c64869 => ?_) (fun c64869 => ?_)
                              ·
                                refine r_aload_n S dX12_skip_275 rfl (lv_at hl 1 rfl) ?_
                                refine r_dup S dX12_skip_276 rfl ?_
                                refine r_geti (K := 38) S X64796 (Nat.le_of_ble_eq_true rfl) rfl lk12_154_10 (fun _ => ⟨_, rfl, rfl⟩) z64266 dX12_skip_277 ?_
                                refine r_iconst S dX12_skip_280 (by decide) (fun v64870 z64871 => ?_)
                                have r64872 := R_eq z64871
                                refine r_iadd S dX12_skip_281 (fun v64873 z64874 => ?_)
                                obtain ⟨e64875, r64876⟩ := i_add (lo := 8) (hi := 941) z64874 r64865 r64872 rfl
                                refine r_put (K := 38) (ty := .int) S X64796 (Nat.le_of_ble_eq_true rfl) rfl lk12_154_10 (fun _ => ⟨_, rfl, Nat.le_of_ble_eq_true rfl, rfl⟩) (fun _ _ _ h => by cases h; exact ⟨rfl, rfl⟩) rfl rfl dX12_skip_282 (fun t64877 H lc M64878 X64879 => ?_)
                                have I64880 := Inv_mu I64255 M64878 (show Rg (kd 131) 13 v64873 from (show R (0) (940) v64873 from ⟨by omega, by omega⟩))
                                have F64881 : Fr [(131, 4), (131, 11), (131, 12), (131, 13), (131, 14)] [331] τ t64877 := Fr_mu F64256 M64878 (by decide)
                                have r64882 : R (8) (940) v64873 := ⟨by omega, by omega⟩
                                refine r_aload_n S dX12_skip_285 rfl (lv_at hl 1 rfl) ?_
                                refine r_dup S dX12_skip_286 rfl ?_
                                refine r_geti (K := 38) S X64879 (Nat.le_of_ble_eq_true rfl) rfl lk12_21_10 (fun _ => ⟨_, rfl, rfl⟩) ((M64878.2 131 4 (Or.inr (by decide))).trans z64260) dX12_skip_287 ?_
                                refine r_iconst S dX12_skip_290 (by decide) (fun v64883 z64884 => ?_)
                                have r64885 := R_eq z64884
                                refine r_iadd S dX12_skip_291 (fun v64886 z64887 => ?_)
                                obtain ⟨e64888, r64889⟩ := i_add (lo := 1) (hi := 940) z64887 r64850 r64885 rfl
                                refine r_put (K := 38) (ty := .int) S X64879 (Nat.le_of_ble_eq_true rfl) rfl lk12_21_10 (fun _ => ⟨_, rfl, Nat.le_of_ble_eq_true rfl, rfl⟩) (fun _ _ _ h => by cases h; exact ⟨rfl, rfl⟩) rfl rfl dX12_skip_292 (fun t64890 H lc M64891 X64892 => ?_)
                                have I64893 := Inv_mu I64880 M64891 (show Rg (kd 131) 4 v64886 from (R_of (lo := 0) (hi := 940) r64889 rfl))
                                have F64894 : Fr [(131, 4), (131, 11), (131, 12), (131, 13), (131, 14)] [331] τ t64890 := Fr_mu F64881 M64891 (by decide)
                                refine r_goto (tgt := 181) S dX12_skip_295 (by decide) ?_
                                exact ih64273 t64890 _ _ _ v64858 v64886 v64873 f64267 X64892 I64893 F64894 (R_of r64860 rfl) M64891.1 ⟨by omega, by omega⟩ ((M64891.2 131 3 (Or.inr (by decide))).trans ((M64878.2 131 3 (Or.inr (by decide))).trans z64261)) ((M64891.2 131 5 (Or.inr (by decide))).trans ((M64878.2 131 5 (Or.inr (by decide))).trans z64262)) ((M64891.2 131 12 (Or.inr (by decide))).trans ((M64878.2 131 12 (Or.inr (by decide))).trans z64263)) ((M64891.2 131 13 (Or.inr (by decide))).trans M64878.1) ⟨by omega, by omega⟩ ((M64891.2 131 14 (Or.inr (by decide))).trans ((M64878.2 131 14 (Or.inr (by decide))).trans z64269)) ⟨by omega, by omega⟩ (by rw [(qof_of (k := 131) (fun j => ((M64891.2 331 j (Or.inl (by decide))).trans ((M64878.2 331 j (Or.inl (by decide))).trans rfl))) 17)]; exact LM_upq (i := f64258) (sp := f64264) (al := i64252) x64271 hs32863 (by omega) (by omega) (fun _ _ h => by exfalso; omega) (fun _ _ h => by exfalso; omega) (by omega) (by omega) (by omega)) (by omega) (lv_sub hl [1, 2, 0] rfl) (by omega)
                              ·
                                exfalso; omega
                            ·
                              have r64895 : R (0) (6) f64264 := ⟨by omega, by omega⟩
                              refine r_aload_n S dX12_skip_231 rfl (lv_at hl 1 rfl) ?_
                              refine r_aload_n S dX12_skip_232 rfl (lv_at hl 1 rfl) ?_
                              refine r_getJ (K := 38) S X64796 (Nat.le_of_ble_eq_true rfl) rfl lk12_170_10 (fun _ => ⟨_, rfl, rfl⟩) dX12_skip_233 (fun j64896 z64897 => ?_)
                              refine r_bipush S dX12_skip_236 (by decide) (fun v64898 z64899 => ?_)
                              have r64900 := R_eq z64899
                              refine lv_lshl S.1.1 S.1.2.1 dX12_skip_238 rfl ?_
                              refine lv_topl (fun j64901 z64902 => ?_)
                              refine r_aload_n S dX12_skip_239 rfl (lv_at hl 1 rfl) ?_
                              refine r_ki (q_V (As := []) (rest := [.long j64901, .ref (G.2.2.2.1 131)]) (K := 38) (ci := 10) S X64796 (c_X12_peek_x l G t64254 I64255 ) ck12_147 (Nat.le_of_ble_eq_true rfl) rfl (fun _ => ⟨_, rfl⟩) ⟨_, _, rfl⟩ ⟨Nat.le_of_ble_eq_true rfl, Nat.le_of_ble_eq_true rfl⟩ rfl hl.1 rfl (Nat.le_of_ble_eq_true rfl) dX12_skip_240 ⟨Nat.le_refl 0, Nat.le_refl 0⟩) X64796 (fun v64906 t64905 H lc q64903 X64904 => ?_)
                              unfold po_X12_peek_x at q64903
                              obtain ⟨q64907, q64908, q64909, q64910⟩ := q64903
                              rw [q64907] at X64904
                              rw [q64907] at q64909
                              rw [q64907] at q64910
                              have pk64911 : PKf bb nb f64258 v64906 := pk_b hB I64255 (F64256 131 3 (by simp [fz])) (fun j => F64256 132 j (by simp [fz])) z64260 (by omega) q64910
                              obtain ⟨e64912, e64913, e64914⟩ := PK_at pk64911 (by omega)
                              refine lv_i2l S.1.1 S.1.2.1 dX12_skip_243 rfl ?_
                              refine lv_topl (fun j64915 z64916 => ?_)
                              refine lv_lor S.1.1 S.1.2.1 dX12_skip_244 ?_
                              refine lv_topl (fun j64917 z64918 => ?_)
                              refine r_putJ (K := 38) S X64904 (Nat.le_of_ble_eq_true rfl) rfl lk12_170_10 (fun _ => ⟨_, rfl, Nat.le_of_ble_eq_true rfl, rfl⟩) (fun _ _ _ h => by cases h; exact ⟨rfl, rfl⟩) dX12_skip_245 (fun t64920 H lc M64921 X64919 => ?_)
                              have I64922 := Inv_ml I64255 M64921
                              have F64923 : Fr [(131, 4), (131, 11), (131, 12), (131, 13), (131, 14)] [331] τ t64920 := Fr_ml F64256 M64921 (by decide)
                              refine r_aload_n S dX12_skip_248 rfl (lv_at hl 1 rfl) ?_
                              refine r_geti (K := 38) S X64919 (Nat.le_of_ble_eq_true rfl) rfl lk12_154_10 (fun _ => ⟨_, rfl, rfl⟩) ((M64921.1 131 (by decide) 13).trans z64266) dX12_skip_249 ?_
                              refine r_iconst S dX12_skip_252 (by decide) (fun v64924 z64925 => ?_)
                              have r64926 := R_eq z64925
                              refine r_icmp_ge (tgt := 275) S dX12_skip_253 (by decide) (fun c64927 => ?_) (fun c64927 => ?_)
                              ·
                                have r64928 : R (2) (6) f64264 := ⟨by omega, by omega⟩
                                refine r_aload_n S dX12_skip_275 rfl (lv_at hl 1 rfl) ?_
                                refine r_dup S dX12_skip_276 rfl ?_
                                refine r_geti (K := 38) S X64919 (Nat.le_of_ble_eq_true rfl) rfl lk12_154_10 (fun _ => ⟨_, rfl, rfl⟩) ((M64921.1 131 (by decide) 13).trans z64266) dX12_skip_277 ?_
                                refine r_iconst S dX12_skip_280 (by decide) (fun v64929 z64930 => ?_)
                                have r64931 := R_eq z64930
                                refine r_iadd S dX12_skip_281 (fun v64932 z64933 => ?_)
                                obtain ⟨e64934, r64935⟩ := i_add (lo := 3) (hi := 7) z64933 r64928 r64931 rfl
                                refine r_put (K := 38) (ty := .int) S X64919 (Nat.le_of_ble_eq_true rfl) rfl lk12_154_10 (fun _ => ⟨_, rfl, Nat.le_of_ble_eq_true rfl, rfl⟩) (fun _ _ _ h => by cases h; exact ⟨rfl, rfl⟩) rfl rfl dX12_skip_282 (fun t64936 H lc M64937 X64938 => ?_)
                                have I64939 := Inv_mu I64922 M64937 (show Rg (kd 131) 13 v64932 from (R_of (lo := 0) (hi := 940) r64935 rfl))
                                have F64940 : Fr [(131, 4), (131, 11), (131, 12), (131, 13), (131, 14)] [331] τ t64936 := Fr_mu F64923 M64937 (by decide)
                                refine r_aload_n S dX12_skip_285 rfl (lv_at hl 1 rfl) ?_
                                refine r_dup S dX12_skip_286 rfl ?_
                                refine r_geti (K := 38) S X64938 (Nat.le_of_ble_eq_true rfl) rfl lk12_21_10 (fun _ => ⟨_, rfl, rfl⟩) ((M64937.2 131 4 (Or.inr (by decide))).trans ((M64921.1 131 (by decide) 4).trans z64260)) dX12_skip_287 ?_
                                refine r_iconst S dX12_skip_290 (by decide) (fun v64941 z64942 => ?_)
                                have r64943 := R_eq z64942
                                refine r_iadd S dX12_skip_291 (fun v64944 z64945 => ?_)
                                obtain ⟨e64946, r64947⟩ := i_add (lo := 1) (hi := 940) z64945 r64850 r64943 rfl
                                refine r_put (K := 38) (ty := .int) S X64938 (Nat.le_of_ble_eq_true rfl) rfl lk12_21_10 (fun _ => ⟨_, rfl, Nat.le_of_ble_eq_true rfl, rfl⟩) (fun _ _ _ h => by cases h; exact ⟨rfl, rfl⟩) rfl rfl dX12_skip_292 (fun t64948 H lc M64949 X64950 => ?_)
                                have I64951 := Inv_mu I64939 M64949 (show Rg (kd 131) 4 v64944 from (R_of (lo := 0) (hi := 940) r64947 rfl))
                                have F64952 : Fr [(131, 4), (131, 11), (131, 12), (131, 13), (131, 14)] [331] τ t64948 := Fr_mu F64940 M64949 (by decide)
                                refine r_goto (tgt := 181) S dX12_skip_295 (by decide) ?_
                                exact ih64273 t64948 _ _ _ v64858 v64944 v64932 f64267 X64950 I64951 F64952 (R_of r64860 rfl) M64949.1 ⟨by omega, by omega⟩ ((M64949.2 131 3 (Or.inr (by decide))).trans ((M64937.2 131 3 (Or.inr (by decide))).trans ((M64921.1 131 (by decide) 3).trans z64261))) ((M64949.2 131 5 (Or.inr (by decide))).trans ((M64937.2 131 5 (Or.inr (by decide))).trans ((M64921.1 131 (by decide) 5).trans z64262))) ((M64949.2 131 12 (Or.inr (by decide))).trans ((M64937.2 131 12 (Or.inr (by decide))).trans ((M64921.1 131 (by decide) 12).trans z64263))) ((M64949.2 131 13 (Or.inr (by decide))).trans M64937.1) ⟨by omega, by omega⟩ ((M64949.2 131 14 (Or.inr (by decide))).trans ((M64937.2 131 14 (Or.inr (by decide))).trans ((M64921.1 131 (by decide) 14).trans z64269))) ⟨by omega, by omega⟩ (LM_upq (i := f64258) (sp := f64264) (al := i64252) x64271 hs32863 (by omega) (by omega) (LM_hw (x := v64906) (y := v64898) x64271 z64897 (by omega) (by rw [z64918, z64902, z64916]) ((qof_of (k := 131) (fun j => ((M64949.2 331 j (Or.inl (by decide))).trans ((M64937.2 331 j (Or.inl (by decide))).trans rfl))) 17).trans (Ml_upd M64921)) (by omega) (by omega)) (fun _ _ h => by exfalso; omega) (by omega) (by omega) (by omega)) (by omega) (lv_sub hl [1, 2, 0] rfl) (by omega)
                              ·
                                have r64953 : R (0) (1) f64264 := ⟨by omega, by omega⟩
                                refine r_aload_n S dX12_skip_256 rfl (lv_at hl 1 rfl) ?_
                                refine r_bipush S dX12_skip_257 (by decide) (fun v64954 z64955 => ?_)
                                have r64956 := R_eq z64955
                                refine r_aload_n S dX12_skip_259 rfl (lv_at hl 1 rfl) ?_
                                refine r_geti (K := 38) S X64919 (Nat.le_of_ble_eq_true rfl) rfl lk12_167_10 (fun _ => ⟨_, rfl, rfl⟩) ((M64921.1 131 (by decide) 14).trans z64269) dX12_skip_260 ?_
                                refine r_imul S dX12_skip_263 (fun v64957 z64958 => ?_)
                                have r64959 := R_any v64957
                                refine r_aload_n S dX12_skip_264 rfl (lv_at hl 1 rfl) ?_
                                refine r_ki (q_V (As := []) (rest := [.int v64957, .ref (G.2.2.2.1 131)]) (K := 38) (ci := 10) S X64919 (c_X12_peek_x l G t64920 I64922 ) ck12_147 (Nat.le_of_ble_eq_true rfl) rfl (fun _ => ⟨_, rfl⟩) ⟨_, _, rfl⟩ ⟨Nat.le_of_ble_eq_true rfl, Nat.le_of_ble_eq_true rfl⟩ rfl hl.1 rfl (Nat.le_of_ble_eq_true rfl) dX12_skip_265 ⟨Nat.le_refl 0, Nat.le_refl 0⟩) X64919 (fun v64963 t64962 H lc q64960 X64961 => ?_)
                                unfold po_X12_peek_x at q64960
                                obtain ⟨q64964, q64965, q64966, q64967⟩ := q64960
                                rw [q64964] at X64961
                                rw [q64964] at q64966
                                rw [q64964] at q64967
                                have pk64968 : PKf bb nb f64258 v64963 := pk_b hB I64922 (F64923 131 3 (by simp [fz])) (fun j => F64923 132 j (by simp [fz])) ((M64921.1 131 (by decide) 4).trans z64260) (by omega) q64967
                                obtain ⟨e64969, e64970, e64971⟩ := PK_at pk64968 (by omega)
                                refine r_iadd S dX12_skip_268 (fun v64972 z64973 => ?_)
                                have r64974 := R_any v64972
                                refine r_bipush S dX12_skip_269 (by decide) (fun v64975 z64976 => ?_)
                                have r64977 := R_eq z64976
                                refine r_isub S dX12_skip_271 (fun v64978 z64979 => ?_)
                                have r64980 := R_any v64978
                                refine r_put (K := 38) (ty := .int) S X64961 (Nat.le_of_ble_eq_true rfl) rfl lk12_167_10 (fun _ => ⟨_, rfl, Nat.le_of_ble_eq_true rfl, rfl⟩) (fun _ _ _ h => by cases h; exact ⟨rfl, rfl⟩) rfl rfl dX12_skip_272 (fun t64981 H lc M64982 X64983 => ?_)
                                have I64984 := Inv_mu I64922 M64982 (R_any v64978)
                                have F64985 : Fr [(131, 4), (131, 11), (131, 12), (131, 13), (131, 14)] [331] τ t64981 := Fr_mu F64923 M64982 (by decide)
                                refine r_aload_n S dX12_skip_275 rfl (lv_at hl 1 rfl) ?_
                                refine r_dup S dX12_skip_276 rfl ?_
                                refine r_geti (K := 38) S X64983 (Nat.le_of_ble_eq_true rfl) rfl lk12_154_10 (fun _ => ⟨_, rfl, rfl⟩) ((M64982.2 131 13 (Or.inr (by decide))).trans ((M64921.1 131 (by decide) 13).trans z64266)) dX12_skip_277 ?_
                                refine r_iconst S dX12_skip_280 (by decide) (fun v64986 z64987 => ?_)
                                have r64988 := R_eq z64987
                                refine r_iadd S dX12_skip_281 (fun v64989 z64990 => ?_)
                                obtain ⟨e64991, r64992⟩ := i_add (lo := 1) (hi := 2) z64990 r64953 r64988 rfl
                                refine r_put (K := 38) (ty := .int) S X64983 (Nat.le_of_ble_eq_true rfl) rfl lk12_154_10 (fun _ => ⟨_, rfl, Nat.le_of_ble_eq_true rfl, rfl⟩) (fun _ _ _ h => by cases h; exact ⟨rfl, rfl⟩) rfl rfl dX12_skip_282 (fun t64993 H lc M64994 X64995 => ?_)
                                have I64996 := Inv_mu I64984 M64994 (show Rg (kd 131) 13 v64989 from (R_of (lo := 0) (hi := 940) r64992 rfl))
                                have F64997 : Fr [(131, 4), (131, 11), (131, 12), (131, 13), (131, 14)] [331] τ t64993 := Fr_mu F64985 M64994 (by decide)
                                refine r_aload_n S dX12_skip_285 rfl (lv_at hl 1 rfl) ?_
                                refine r_dup S dX12_skip_286 rfl ?_
                                refine r_geti (K := 38) S X64995 (Nat.le_of_ble_eq_true rfl) rfl lk12_21_10 (fun _ => ⟨_, rfl, rfl⟩) ((M64994.2 131 4 (Or.inr (by decide))).trans ((M64982.2 131 4 (Or.inr (by decide))).trans ((M64921.1 131 (by decide) 4).trans z64260))) dX12_skip_287 ?_
                                refine r_iconst S dX12_skip_290 (by decide) (fun v64998 z64999 => ?_)
                                have r65000 := R_eq z64999
                                refine r_iadd S dX12_skip_291 (fun v65001 z65002 => ?_)
                                obtain ⟨e65003, r65004⟩ := i_add (lo := 1) (hi := 940) z65002 r64850 r65000 rfl
                                refine r_put (K := 38) (ty := .int) S X64995 (Nat.le_of_ble_eq_true rfl) rfl lk12_21_10 (fun _ => ⟨_, rfl, Nat.le_of_ble_eq_true rfl, rfl⟩) (fun _ _ _ h => by cases h; exact ⟨rfl, rfl⟩) rfl rfl dX12_skip_292 (fun t65005 H lc M65006 X65007 => ?_)
                                have I65008 := Inv_mu I64996 M65006 (show Rg (kd 131) 4 v65001 from (R_of (lo := 0) (hi := 940) r65004 rfl))
                                have F65009 : Fr [(131, 4), (131, 11), (131, 12), (131, 13), (131, 14)] [331] τ t65005 := Fr_mu F64997 M65006 (by decide)
                                refine r_goto (tgt := 181) S dX12_skip_295 (by decide) ?_
                                exact ih64273 t65005 _ _ _ v64858 v65001 v64989 v64978 X65007 I65008 F65009 (R_of r64860 rfl) M65006.1 ⟨by omega, by omega⟩ ((M65006.2 131 3 (Or.inr (by decide))).trans ((M64994.2 131 3 (Or.inr (by decide))).trans ((M64982.2 131 3 (Or.inr (by decide))).trans ((M64921.1 131 (by decide) 3).trans z64261)))) ((M65006.2 131 5 (Or.inr (by decide))).trans ((M64994.2 131 5 (Or.inr (by decide))).trans ((M64982.2 131 5 (Or.inr (by decide))).trans ((M64921.1 131 (by decide) 5).trans z64262)))) ((M65006.2 131 12 (Or.inr (by decide))).trans ((M64994.2 131 12 (Or.inr (by decide))).trans ((M64982.2 131 12 (Or.inr (by decide))).trans ((M64921.1 131 (by decide) 12).trans z64263)))) ((M65006.2 131 13 (Or.inr (by decide))).trans M64994.1) ⟨by omega, by omega⟩ ((M65006.2 131 14 (Or.inr (by decide))).trans ((M64994.2 131 14 (Or.inr (by decide))).trans M64982.1)) ⟨by omega, by omega⟩ (LM_upq (i := f64258) (sp := f64264) (al := i64252) x64271 hs32863 (by omega) (by omega) (LM_hw (x := v64906) (y := v64898) x64271 z64897 (by omega) (by rw [z64918, z64902, z64916]) ((qof_of (k := 131) (fun j => ((M65006.2 331 j (Or.inl (by decide))).trans ((M64994.2 331 j (Or.inl (by decide))).trans ((M64982.2 331 j (Or.inl (by decide))).trans rfl)))) 17).trans (Ml_upd M64921)) (by omega) (by omega)) (LM_hn (c := v64954) (x := v64963) (d := v64975) x64271 (by omega) z64958 z64973 (by omega) z64979 (by omega) (by omega)) (by omega) (by omega) (by omega)) (by omega) (lv_sub hl [1, 2, 0] rfl) (by omega)
                          ·
                            have r65010 : R (1) (1) i64252 := ⟨by omega, by omega⟩
                            refine r_aload_n S dX12_skip_205 rfl (lv_at hl 0 rfl) ?_
                            refine r_ki (q_V (As := []) (rest := []) (K := 38) (ci := 10) S X64796 (c_X12_peek_x l G t64254 I64255 ) ck12_147 (Nat.le_of_ble_eq_true rfl) rfl (fun _ => ⟨_, rfl⟩) ⟨_, _, rfl⟩ ⟨Nat.le_of_ble_eq_true rfl, Nat.le_of_ble_eq_true rfl⟩ rfl hl.1 rfl (Nat.le_of_ble_eq_true rfl) dX12_skip_206 ⟨Nat.le_refl 0, Nat.le_refl 0⟩) X64796 (fun v65014 t65013 H lc q65011 X65012 => ?_)
                            unfold po_X12_peek_x at q65011
                            obtain ⟨q65015, q65016, q65017, q65018⟩ := q65011
                            rw [q65015] at X65012
                            rw [q65015] at q65017
                            rw [q65015] at q65018
                            have pk65019 : PKf bb nb f64258 v65014 := pk_b hB I64255 (F64256 131 3 (by simp [fz])) (fun j => F64256 132 j (by simp [fz])) z64260 (by omega) q65018
                            obtain ⟨e65020, e65021, e65022⟩ := PK_at pk65019 (by omega)
                            refine r_ki (q_S (As := [.int v65014]) (rest := []) S X65012 (c_X12_isSmall_x l G t64254 I64255 v65014 (R_of (lo := -2147483648) (hi := 2147483647) q65016 rfl)) ck12_160 ⟨Nat.le_of_ble_eq_true rfl, Nat.le_of_ble_eq_true rfl⟩ rfl hl.1 rfl (Nat.le_of_ble_eq_true rfl) dX12_skip_209 ⟨Nat.le_refl 0, Nat.le_refl 0⟩) X65012 (fun v65026 t65025 H lc q65023 X65024 => ?_)
                            unfold po_X12_isSmall_x at q65023
                            obtain ⟨q65027, q65028, q65029, q65030⟩ := q65023
                            rw [q65027] at X65024
                            refine r_iload_n S dX12_skip_212 rfl (lv_at hl 1 rfl) ?_
                            refine r_icmp_ne (tgt := 220) S dX12_skip_213 (by decide) (fun c65031 => ?_) (fun c65031 => ?_)
                            ·
                              refine r_iconst S dX12_skip_220 (by decide) (fun v65032 z65033 => ?_)
                              have r65034 := R_eq z65033
                              refine r_istore_n (lv' := [(3, .int v65032), (0, .ref (G.2.2.2.1 131)), (2, .int v32855)]) S dX12_skip_221 rfl hl (by decide) rfl (fun ls hl => ?_)
                              refine r_aload_n S dX12_skip_222 rfl (lv_at hl 1 rfl) ?_
                              refine r_geti (K := 38) S X65024 (Nat.le_of_ble_eq_true rfl) rfl lk12_154_10 (fun _ => ⟨_, rfl, rfl⟩) z64266 dX12_skip_223 ?_
                              refine r_bipush S dX12_skip_226 (by decide) (fun v65035 z65036 => ?_)
                              have r65037 := R_eq z65036
                              refine r_icmp_ge (tgt := 248) S dX12_skip_228 (by decide) (fun c65038 => ?_) (fun c65038 => ?_)
                              ·
                                have r65039 : R (7) (940) f64264 := ⟨by omega, by omega⟩
                                refine r_aload_n S dX12_skip_248 rfl (lv_at hl 1 rfl) ?_
                                refine r_geti (K := 38) S X65024 (Nat.le_of_ble_eq_true rfl) rfl lk12_154_10 (fun _ => ⟨_, rfl, rfl⟩) z64266 dX12_skip_249 ?_
                                refine r_iconst S dX12_skip_252 (by decide) (fun v65040 z65041 => ?_)
                                have r65042 := R_eq z65041
                                refine r_icmp_ge (tgt := 275) S dX12_skip_253 (by decide) (fun c65043 => ?_) (fun c65043 => ?_)
                                ·
                                  refine r_aload_n S dX12_skip_275 rfl (lv_at hl 1 rfl) ?_
                                  refine r_dup S dX12_skip_276 rfl ?_
                                  refine r_geti (K := 38) S X65024 (Nat.le_of_ble_eq_true rfl) rfl lk12_154_10 (fun _ => ⟨_, rfl, rfl⟩) z64266 dX12_skip_277 ?_
                                  refine r_iconst S dX12_skip_280 (by decide) (fun v65044 z65045 => ?_)
                                  have r65046 := R_eq z65045
                                  refine r_iadd S dX12_skip_281 (fun v65047 z65048 => ?_)
                                  obtain ⟨e65049, r65050⟩ := i_add (lo := 8) (hi := 941) z65048 r65039 r65046 rfl
                                  refine r_put (K := 38) (ty := .int) S X65024 (Nat.le_of_ble_eq_true rfl) rfl lk12_154_10 (fun _ => ⟨_, rfl, Nat.le_of_ble_eq_true rfl, rfl⟩) (fun _ _ _ h => by cases h; exact ⟨rfl, rfl⟩) rfl rfl dX12_skip_282 (fun t65051 H lc M65052 X65053 => ?_)
                                  have I65054 := Inv_mu I64255 M65052 (show Rg (kd 131) 13 v65047 from (show R (0) (940) v65047 from ⟨by omega, by omega⟩))
                                  have F65055 : Fr [(131, 4), (131, 11), (131, 12), (131, 13), (131, 14)] [331] τ t65051 := Fr_mu F64256 M65052 (by decide)
                                  have r65056 : R (8) (940) v65047 := ⟨by omega, by omega⟩
                                  refine r_aload_n S dX12_skip_285 rfl (lv_at hl 1 rfl) ?_
                                  refine r_dup S dX12_skip_286 rfl ?_
                                  refine r_geti (K := 38) S X65053 (Nat.le_of_ble_eq_true rfl) rfl lk12_21_10 (fun _ => ⟨_, rfl, rfl⟩) ((M65052.2 131 4 (Or.inr (by decide))).trans z64260) dX12_skip_287 ?_
                                  refine r_iconst S dX12_skip_290 (by decide) (fun v65057 z65058 => ?_)
                                  have r65059 := R_eq z65058
                                  refine r_iadd S dX12_skip_291 (fun v65060 z65061 => ?_)
                                  obtain ⟨e65062, r65063⟩ := i_add (lo := 1) (hi := 940) z65061 r64850 r65059 rfl
                                  refine r_put (K := 38) (ty := .int) S X65053 (Nat.le_of_ble_eq_true rfl) rfl lk12_21_10 (fun _ => ⟨_, rfl, Nat.le_of_ble_eq_true rfl, rfl⟩) (fun _ _ _ h => by cases h; exact ⟨rfl, rfl⟩) rfl rfl dX12_skip_292 (fun t65064 H lc M65065 X65066 => ?_)
                                  have I65067 := Inv_mu I65054 M65065 (show Rg (kd 131) 4 v65060 from (R_of (lo := 0) (hi := 940) r65063 rfl))
                                  have F65068 : Fr [(131, 4), (131, 11), (131, 12), (131, 13), (131, 14)] [331] τ t65064 := Fr_mu F65055 M65065 (by decide)
                                  refine r_goto (tgt := 181) S dX12_skip_295 (by decide) ?_
                                  exact ih64273 t65064 _ _ _ v65032 v65060 v65047 f64267 X65066 I65067 F65068 (R_of r65034 rfl) M65065.1 ⟨by omega, by omega⟩ ((M65065.2 131 3 (Or.inr (by decide))).trans ((M65052.2 131 3 (Or.inr (by decide))).trans z64261)) ((M65065.2 131 5 (Or.inr (by decide))).trans ((M65052.2 131 5 (Or.inr (by decide))).trans z64262)) ((M65065.2 131 12 (Or.inr (by decide))).trans ((M65052.2 131 12 (Or.inr (by decide))).trans z64263)) ((M65065.2 131 13 (Or.inr (by decide))).trans M65052.1) ⟨by omega, by omega⟩ ((M65065.2 131 14 (Or.inr (by decide))).trans ((M65052.2 131 14 (Or.inr (by decide))).trans z64269)) ⟨by omega, by omega⟩ (by rw [(qof_of (k := 131) (fun j => ((M65065.2 331 j (Or.inl (by decide))).trans ((M65052.2 331 j (Or.inl (by decide))).trans rfl))) 17)]; exact LM_upq (i := f64258) (sp := f64264) (al := i64252) x64271 hs32863 (by omega) (by omega) (fun _ _ h => by exfalso; omega) (fun _ _ h => by exfalso; omega) (by omega) (by omega) (by omega)) (by omega) (lv_sub hl [1, 2, 0] rfl) (by omega)
                                ·
                                  exfalso; omega
                              ·
                                have r65069 : R (0) (6) f64264 := ⟨by omega, by omega⟩
                                refine r_aload_n S dX12_skip_231 rfl (lv_at hl 1 rfl) ?_
                                refine r_aload_n S dX12_skip_232 rfl (lv_at hl 1 rfl) ?_
                                refine r_getJ (K := 38) S X65024 (Nat.le_of_ble_eq_true rfl) rfl lk12_170_10 (fun _ => ⟨_, rfl, rfl⟩) dX12_skip_233 (fun j65070 z65071 => ?_)
                                refine r_bipush S dX12_skip_236 (by decide) (fun v65072 z65073 => ?_)
                                have r65074 := R_eq z65073
                                refine lv_lshl S.1.1 S.1.2.1 dX12_skip_238 rfl ?_
                                refine lv_topl (fun j65075 z65076 => ?_)
                                refine r_aload_n S dX12_skip_239 rfl (lv_at hl 1 rfl) ?_
                                refine r_ki (q_V (As := []) (rest := [.long j65075, .ref (G.2.2.2.1 131)]) (K := 38) (ci := 10) S X65024 (c_X12_peek_x l G t64254 I64255 ) ck12_147 (Nat.le_of_ble_eq_true rfl) rfl (fun _ => ⟨_, rfl⟩) ⟨_, _, rfl⟩ ⟨Nat.le_of_ble_eq_true rfl, Nat.le_of_ble_eq_true rfl⟩ rfl hl.1 rfl (Nat.le_of_ble_eq_true rfl) dX12_skip_240 ⟨Nat.le_refl 0, Nat.le_refl 0⟩) X65024 (fun v65080 t65079 H lc q65077 X65078 => ?_)
                                unfold po_X12_peek_x at q65077
                                obtain ⟨q65081, q65082, q65083, q65084⟩ := q65077
                                rw [q65081] at X65078
                                rw [q65081] at q65083
                                rw [q65081] at q65084
                                have pk65085 : PKf bb nb f64258 v65080 := pk_b hB I64255 (F64256 131 3 (by simp [fz])) (fun j => F64256 132 j (by simp [fz])) z64260 (by omega) q65084
                                obtain ⟨e65086, e65087, e65088⟩ := PK_at pk65085 (by omega)
                                refine lv_i2l S.1.1 S.1.2.1 dX12_skip_243 rfl ?_
                                refine lv_topl (fun j65089 z65090 => ?_)
                                refine lv_lor S.1.1 S.1.2.1 dX12_skip_244 ?_
                                refine lv_topl (fun j65091 z65092 => ?_)
                                refine r_putJ (K := 38) S X65078 (Nat.le_of_ble_eq_true rfl) rfl lk12_170_10 (fun _ => ⟨_, rfl, Nat.le_of_ble_eq_true rfl, rfl⟩) (fun _ _ _ h => by cases h; exact ⟨rfl, rfl⟩) dX12_skip_245 (fun t65094 H lc M65095 X65093 => ?_)
                                have I65096 := Inv_ml I64255 M65095
                                have F65097 : Fr [(131, 4), (131, 11), (131, 12), (131, 13), (131, 14)] [331] τ t65094 := Fr_ml F64256 M65095 (by decide)
                                refine r_aload_n S dX12_skip_248 rfl (lv_at hl 1 rfl) ?_
                                refine r_geti (K := 38) S X65093 (Nat.le_of_ble_eq_true rfl) rfl lk12_154_10 (fun _ => ⟨_, rfl, rfl⟩) ((M65095.1 131 (by decide) 13).trans z64266) dX12_skip_249 ?_
                                refine r_iconst S dX12_skip_252 (by decide) (fun v65098 z65099 => ?_)
                                have r65100 := R_eq z65099
                                refine r_icmp_ge (tgt := 275) S dX12_skip_253 (by decide) (fun c65101 => ?_) (fun c65101 => ?_)
                                ·
                                  have r65102 : R (2) (6) f64264 := ⟨by omega, by omega⟩
                                  refine r_aload_n S dX12_skip_275 rfl (lv_at hl 1 rfl) ?_
                                  refine r_dup S dX12_skip_276 rfl ?_
                                  refine r_geti (K := 38) S X65093 (Nat.le_of_ble_eq_true rfl) rfl lk12_154_10 (fun _ => ⟨_, rfl, rfl⟩) ((M65095.1 131 (by decide) 13).trans z64266) dX12_skip_277 ?_
                                  refine r_iconst S dX12_skip_280 (by decide) (fun v65103 z65104 => ?_)
                                  have r65105 := R_eq z65104
                                  refine r_iadd S dX12_skip_281 (fun v65106 z65107 => ?_)
                                  obtain ⟨e65108, r65109⟩ := i_add (lo := 3) (hi := 7) z65107 r65102 r65105 rfl
                                  refine r_put (K := 38) (ty := .int) S X65093 (Nat.le_of_ble_eq_true rfl) rfl lk12_154_10 (fun _ => ⟨_, rfl, Nat.le_of_ble_eq_true rfl, rfl⟩) (fun _ _ _ h => by cases h; exact ⟨rfl, rfl⟩) rfl rfl dX12_skip_282 (fun t65110 H lc M65111 X65112 => ?_)
                                  have I65113 := Inv_mu I65096 M65111 (show Rg (kd 131) 13 v65106 from (R_of (lo := 0) (hi := 940) r65109 rfl))
                                  have F65114 : Fr [(131, 4), (131, 11), (131, 12), (131, 13), (131, 14)] [331] τ t65110 := Fr_mu F65097 M65111 (by decide)
                                  refine r_aload_n S dX12_skip_285 rfl (lv_at hl 1 rfl) ?_
                                  refine r_dup S dX12_skip_286 rfl ?_
                                  refine r_geti (K := 38) S X65112 (Nat.le_of_ble_eq_true rfl) rfl lk12_21_10 (fun _ => ⟨_, rfl, rfl⟩) ((M65111.2 131 4 (Or.inr (by decide))).trans ((M65095.1 131 (by decide) 4).trans z64260)) dX12_skip_287 ?_
                                  refine r_iconst S dX12_skip_290 (by decide) (fun v65115 z65116 => ?_)
                                  have r65117 := R_eq z65116
                                  refine r_iadd S dX12_skip_291 (fun v65118 z65119 => ?_)
                                  obtain ⟨e65120, r65121⟩ := i_add (lo := 1) (hi := 940) z65119 r64850 r65117 rfl
                                  refine r_put (K := 38) (ty := .int) S X65112 (Nat.le_of_ble_eq_true rfl) rfl lk12_21_10 (fun _ => ⟨_, rfl, Nat.le_of_ble_eq_true rfl, rfl⟩) (fun _ _ _ h => by cases h; exact ⟨rfl, rfl⟩) rfl rfl dX12_skip_292 (fun t65122 H lc M65123 X65124 => ?_)
                                  have I65125 := Inv_mu I65113 M65123 (show Rg (kd 131) 4 v65118 from (R_of (lo := 0) (hi := 940) r65121 rfl))
                                  have F65126 : Fr [(131, 4), (131, 11), (131, 12), (131, 13), (131, 14)] [331] τ t65122 := Fr_mu F65114 M65123 (by decide)
                                  refine r_goto (tgt := 181) S dX12_skip_295 (by decide) ?_
                                  exact ih64273 t65122 _ _ _ v65032 v65118 v65106 f64267 X65124 I65125 F65126 (R_of r65034 rfl) M65123.1 ⟨by omega, by omega⟩ ((M65123.2 131 3 (Or.inr (by decide))).trans ((M65111.2 131 3 (Or.inr (by decide))).trans ((M65095.1 131 (by decide) 3).trans z64261))) ((M65123.2 131 5 (Or.inr (by decide))).trans ((M65111.2 131 5 (Or.inr (by decide))).trans ((M65095.1 131 (by decide) 5).trans z64262))) ((M65123.2 131 12 (Or.inr (by decide))).trans ((M65111.2 131 12 (Or.inr (by decide))).trans ((M65095.1 131 (by decide) 12).trans z64263))) ((M65123.2 131 13 (Or.inr (by decide))).trans M65111.1) ⟨by omega, by omega⟩ ((M65123.2 131 14 (Or.inr (by decide))).trans ((M65111.2 131 14 (Or.inr (by decide))).trans ((M65095.1 131 (by decide) 14).trans z64269))) ⟨by omega, by omega⟩ (LM_upq (i := f64258) (sp := f64264) (al := i64252) x64271 hs32863 (by omega) (by omega) (LM_hw (x := v65080) (y := v65072) x64271 z65071 (by omega) (by rw [z65092, z65076, z65090]) ((qof_of (k := 131) (fun j => ((M65123.2 331 j (Or.inl (by decide))).trans ((M65111.2 331 j (Or.inl (by decide))).trans rfl))) 17).trans (Ml_upd M65095)) (by omega) (by omega)) (fun _ _ h => by exfalso; omega) (by omega) (by omega) (by omega)) (by omega) (lv_sub hl [1, 2, 0] rfl) (by omega)
                                ·
                                  have r65127 : R (0) (1) f64264 := ⟨by omega, by omega⟩
                                  refine r_aload_n S dX12_skip_256 rfl (lv_at hl 1 rfl) ?_
                                  refine r_bipush S dX12_skip_257 (by decide) (fun v65128 z65129 => ?_)
                                  have r65130 := R_eq z65129
                                  refine r_aload_n S dX12_skip_259 rfl (lv_at hl 1 rfl) ?_
                                  refine r_geti (K := 38) S X65093 (Nat.le_of_ble_eq_true rfl) rfl lk12_167_10 (fun _ => ⟨_, rfl, rfl⟩) ((M65095.1 131 (by decide) 14).trans z64269) dX12_skip_260 ?_
                                  refine r_imul S dX12_skip_263 (fun v65131 z65132 => ?_)
                                  have r65133 := R_any v65131
                                  refine r_aload_n S dX12_skip_264 rfl (lv_at hl 1 rfl) ?_
                                  refine r_ki (q_V (As := []) (rest := [.int v65131, .ref (G.2.2.2.1 131)]) (K := 38) (ci := 10) S X65093 (c_X12_peek_x l G t65094 I65096 ) ck12_147 (Nat.le_of_ble_eq_true rfl) rfl (fun _ => ⟨_, rfl⟩) ⟨_, _, rfl⟩ ⟨Nat.le_of_ble_eq_true rfl, Nat.le_of_ble_eq_true rfl⟩ rfl hl.1 rfl (Nat.le_of_ble_eq_true rfl) dX12_skip_265 ⟨Nat.le_refl 0, Nat.le_refl 0⟩) X65093 (fun v65137 t65136 H lc q65134 X65135 => ?_)
                                  unfold po_X12_peek_x at q65134
                                  obtain ⟨q65138, q65139, q65140, q65141⟩ := q65134
                                  rw [q65138] at X65135
                                  rw [q65138] at q65140
                                  rw [q65138] at q65141
                                  have pk65142 : PKf bb nb f64258 v65137 := pk_b hB I65096 (F65097 131 3 (by simp [fz])) (fun j => F65097 132 j (by simp [fz])) ((M65095.1 131 (by decide) 4).trans z64260) (by omega) q65141
                                  obtain ⟨e65143, e65144, e65145⟩ := PK_at pk65142 (by omega)
                                  refine r_iadd S dX12_skip_268 (fun v65146 z65147 => ?_)
                                  have r65148 := R_any v65146
                                  refine r_bipush S dX12_skip_269 (by decide) (fun v65149 z65150 => ?_)
                                  have r65151 := R_eq z65150
                                  refine r_isub S dX12_skip_271 (fun v65152 z65153 => ?_)
                                  have r65154 := R_any v65152
                                  refine r_put (K := 38) (ty := .int) S X65135 (Nat.le_of_ble_eq_true rfl) rfl lk12_167_10 (fun _ => ⟨_, rfl, Nat.le_of_ble_eq_true rfl, rfl⟩) (fun _ _ _ h => by cases h; exact ⟨rfl, rfl⟩) rfl rfl dX12_skip_272 (fun t65155 H lc M65156 X65157 => ?_)
                                  have I65158 := Inv_mu I65096 M65156 (R_any v65152)
                                  have F65159 : Fr [(131, 4), (131, 11), (131, 12), (131, 13), (131, 14)] [331] τ t65155 := Fr_mu F65097 M65156 (by decide)
                                  refine r_aload_n S dX12_skip_275 rfl (lv_at hl 1 rfl) ?_
                                  refine r_dup S dX12_skip_276 rfl ?_
                                  refine r_geti (K := 38) S X65157 (Nat.le_of_ble_eq_true rfl) rfl lk12_154_10 (fun _ => ⟨_, rfl, rfl⟩) ((M65156.2 131 13 (Or.inr (by decide))).trans ((M65095.1 131 (by decide) 13).trans z64266)) dX12_skip_277 ?_
                                  refine r_iconst S dX12_skip_280 (by decide) (fun v65160 z65161 => ?_)
                                  have r65162 := R_eq z65161
                                  refine r_iadd S dX12_skip_281 (fun v65163 z65164 => ?_)
                                  obtain ⟨e65165, r65166⟩ := i_add (lo := 1) (hi := 2) z65164 r65127 r65162 rfl
                                  refine r_put (K := 38) (ty := .int) S X65157 (Nat.le_of_ble_eq_true rfl) rfl lk12_154_10 (fun _ => ⟨_, rfl, Nat.le_of_ble_eq_true rfl, rfl⟩) (fun _ _ _ h => by cases h; exact ⟨rfl, rfl⟩) rfl rfl dX12_skip_282 (fun t65167 H lc M65168 X65169 => ?_)
                                  have I65170 := Inv_mu I65158 M65168 (show Rg (kd 131) 13 v65163 from (R_of (lo := 0) (hi := 940) r65166 rfl))
                                  have F65171 : Fr [(131, 4), (131, 11), (131, 12), (131, 13), (131, 14)] [331] τ t65167 := Fr_mu F65159 M65168 (by decide)
                                  refine r_aload_n S dX12_skip_285 rfl (lv_at hl 1 rfl) ?_
                                  refine r_dup S dX12_skip_286 rfl ?_
                                  refine r_geti (K := 38) S X65169 (Nat.le_of_ble_eq_true rfl) rfl lk12_21_10 (fun _ => ⟨_, rfl, rfl⟩) ((M65168.2 131 4 (Or.inr (by decide))).trans ((M65156.2 131 4 (Or.inr (by decide))).trans ((M65095.1 131 (by decide) 4).trans z64260))) dX12_skip_287 ?_
                                  refine r_iconst S dX12_skip_290 (by decide) (fun v65172 z65173 => ?_)
                                  have r65174 := R_eq z65173
                                  refine r_iadd S dX12_skip_291 (fun v65175 z65176 => ?_)
                                  obtain ⟨e65177, r65178⟩ := i_add (lo := 1) (hi := 940) z65176 r64850 r65174 rfl
                                  refine r_put (K := 38) (ty := .int) S X65169 (Nat.le_of_ble_eq_true rfl) rfl lk12_21_10 (fun _ => ⟨_, rfl, Nat.le_of_ble_eq_true rfl, rfl⟩) (fun _ _ _ h => by cases h; exact ⟨rfl, rfl⟩) rfl rfl dX12_skip_292 (fun t65179 H lc M65180 X65181 => ?_)
                                  have I65182 := Inv_mu I65170 M65180 (show Rg (kd 131) 4 v65175 from (R_of (lo := 0) (hi := 940) r65178 rfl))
                                  have F65183 : Fr [(131, 4), (131, 11), (131, 12), (131, 13), (131, 14)] [331] τ t65179 := Fr_mu F65171 M65180 (by decide)
                                  refine r_goto (tgt := 181) S dX12_skip_295 (by decide) ?_
                                  exact ih64273 t65179 _ _ _ v65032 v65175 v65163 v65152 X65181 I65182 F65183 (R_of r65034 rfl) M65180.1 ⟨by omega, by omega⟩ ((M65180.2 131 3 (Or.inr (by decide))).trans ((M65168.2 131 3 (Or.inr (by decide))).trans ((M65156.2 131 3 (Or.inr (by decide))).trans ((M65095.1 131 (by decide) 3).trans z64261)))) ((M65180.2 131 5 (Or.inr (by decide))).trans ((M65168.2 131 5 (Or.inr (by decide))).trans ((M65156.2 131 5 (Or.inr (by decide))).trans ((M65095.1 131 (by decide) 5).trans z64262)))) ((M65180.2 131 12 (Or.inr (by decide))).trans ((M65168.2 131 12 (Or.inr (by decide))).trans ((M65156.2 131 12 (Or.inr (by decide))).trans ((M65095.1 131 (by decide) 12).trans z64263)))) ((M65180.2 131 13 (Or.inr (by decide))).trans M65168.1) ⟨by omega, by omega⟩ ((M65180.2 131 14 (Or.inr (by decide))).trans ((M65168.2 131 14 (Or.inr (by decide))).trans M65156.1)) ⟨by omega, by omega⟩ (LM_upq (i := f64258) (sp := f64264) (al := i64252) x64271 hs32863 (by omega) (by omega) (LM_hw (x := v65080) (y := v65072) x64271 z65071 (by omega) (by rw [z65092, z65076, z65090]) ((qof_of (k := 131) (fun j => ((M65180.2 331 j (Or.inl (by decide))).trans ((M65168.2 331 j (Or.inl (by decide))).trans ((M65156.2 331 j (Or.inl (by decide))).trans rfl)))) 17).trans (Ml_upd M65095)) (by omega) (by omega)) (LM_hn (c := v65128) (x := v65137) (d := v65149) x64271 (by omega) z65132 z65147 (by omega) z65153 (by omega) (by omega)) (by omega) (by omega) (by omega)) (by omega) (lv_sub hl [1, 2, 0] rfl) (by omega)
                            ·
                              refine r_iconst S dX12_skip_216 (by decide) (fun v65184 z65185 => ?_)
                              have r65186 := R_eq z65185
                              refine r_goto (tgt := 221) S dX12_skip_217 (by decide) ?_
                              refine r_istore_n (lv' := [(3, .int v65184), (0, .ref (G.2.2.2.1 131)), (2, .int v32855)]) S dX12_skip_221 rfl hl (by decide) rfl (fun ls hl => ?_)
                              refine r_aload_n S dX12_skip_222 rfl (lv_at hl 1 rfl) ?_
                              refine r_geti (K := 38) S X65024 (Nat.le_of_ble_eq_true rfl) rfl lk12_154_10 (fun _ => ⟨_, rfl, rfl⟩) z64266 dX12_skip_223 ?_
                              refine r_bipush S dX12_skip_226 (by decide) (fun v65187 z65188 => ?_)
                              have r65189 := R_eq z65188
                              refine r_icmp_ge (tgt := 248) S dX12_skip_228 (by decide) (fun c65190 => ?_) (fun c65190 => ?_)
                              ·
                                have r65191 : R (7) (940) f64264 := ⟨by omega, by omega⟩
                                refine r_aload_n S dX12_skip_248 rfl (lv_at hl 1 rfl) ?_
                                refine r_geti (K := 38) S X65024 (Nat.le_of_ble_eq_true rfl) rfl lk12_154_10 (fun _ => ⟨_, rfl, rfl⟩) z64266 dX12_skip_249 ?_
                                refine r_iconst S dX12_skip_252 (by decide) (fun v65192 z65193 => ?_)
                                have r65194 := R_eq z65193
                                refine r_icmp_ge (tgt := 275) S dX12_skip_253 (by decide) (fun c65195 => ?_) (fun c65195 => ?_)
                                ·
                                  refine r_aload_n S dX12_skip_275 rfl (lv_at hl 1 rfl) ?_
                                  refine r_dup S dX12_skip_276 rfl ?_
                                  refine r_geti (K := 38) S X65024 (Nat.le_of_ble_eq_true rfl) rfl lk12_154_10 (fun _ => ⟨_, rfl, rfl⟩) z64266 dX12_skip_277 ?_
                                  refine r_iconst S dX12_skip_280 (by decide) (fun v65196 z65197 => ?_)
                                  have r65198 := R_eq z65197
                                  refine r_iadd S dX12_skip_281 (fun v65199 z65200 => ?_)
                                  obtain ⟨e65201, r65202⟩ := i_add (lo := 8) (hi := 941) z65200 r65191 r65198 rfl
                                  refine r_put (K := 38) (ty := .int) S X65024 (Nat.le_of_ble_eq_true rfl) rfl lk12_154_10 (fun _ => ⟨_, rfl, Nat.le_of_ble_eq_true rfl, rfl⟩) (fun _ _ _ h => by cases h; exact ⟨rfl, rfl⟩) rfl rfl dX12_skip_282 (fun t65203 H lc M65204 X65205 => ?_)
                                  have I65206 := Inv_mu I64255 M65204 (show Rg (kd 131) 13 v65199 from (show R (0) (940) v65199 from ⟨by omega, by omega⟩))
                                  have F65207 : Fr [(131, 4), (131, 11), (131, 12), (131, 13), (131, 14)] [331] τ t65203 := Fr_mu F64256 M65204 (by decide)
                                  have r65208 : R (8) (940) v65199 := ⟨by omega, by omega⟩
                                  refine r_aload_n S dX12_skip_285 rfl (lv_at hl 1 rfl) ?_
                                  refine r_dup S dX12_skip_286 rfl ?_
                                  refine r_geti (K := 38) S X65205 (Nat.le_of_ble_eq_true rfl) rfl lk12_21_10 (fun _ => ⟨_, rfl, rfl⟩) ((M65204.2 131 4 (Or.inr (by decide))).trans z64260) dX12_skip_287 ?_
                                  refine r_iconst S dX12_skip_290 (by decide) (fun v65209 z65210 => ?_)
                                  have r65211 := R_eq z65210
                                  refine r_iadd S dX12_skip_291 (fun v65212 z65213 => ?_)
                                  obtain ⟨e65214, r65215⟩ := i_add (lo := 1) (hi := 940) z65213 r64850 r65211 rfl
                                  refine r_put (K := 38) (ty := .int) S X65205 (Nat.le_of_ble_eq_true rfl) rfl lk12_21_10 (fun _ => ⟨_, rfl, Nat.le_of_ble_eq_true rfl, rfl⟩) (fun _ _ _ h => by cases h; exact ⟨rfl, rfl⟩) rfl rfl dX12_skip_292 (fun t65216 H lc M65217 X65218 => ?_)
                                  have I65219 := Inv_mu I65206 M65217 (show Rg (kd 131) 4 v65212 from (R_of (lo := 0) (hi := 940) r65215 rfl))
                                  have F65220 : Fr [(131, 4), (131, 11), (131, 12), (131, 13), (131, 14)] [331] τ t65216 := Fr_mu F65207 M65217 (by decide)
                                  refine r_goto (tgt := 181) S dX12_skip_295 (by decide) ?_
                                  exact ih64273 t65216 _ _ _ v65184 v65212 v65199 f64267 X65218 I65219 F65220 (R_of r65186 rfl) M65217.1 ⟨by omega, by omega⟩ ((M65217.2 131 3 (Or.inr (by decide))).trans ((M65204.2 131 3 (Or.inr (by decide))).trans z64261)) ((M65217.2 131 5 (Or.inr (by decide))).trans ((M65204.2 131 5 (Or.inr (by decide))).trans z64262)) ((M65217.2 131 12 (Or.inr (by decide))).trans ((M65204.2 131 12 (Or.inr (by decide))).trans z64263)) ((M65217.2 131 13 (Or.inr (by decide))).trans M65204.1) ⟨by omega, by omega⟩ ((M65217.2 131 14 (Or.inr (by decide))).trans ((M65204.2 131 14 (Or.inr (by decide))).trans z64269)) ⟨by omega, by omega⟩ (by rw [(qof_of (k := 131) (fun j => ((M65217.2 331 j (Or.inl (by decide))).trans ((M65204.2 331 j (Or.inl (by decide))).trans rfl))) 17)]; exact LM_upq (i := f64258) (sp := f64264) (al := i64252) x64271 hs32863 (by omega) (by omega) (fun _ _ h => by exfalso; omega) (fun _ _ h => by exfalso; omega) (by omega) (by omega) (by omega)) (by omega) (lv_sub hl [1, 2, 0] rfl) (by omega)
                                ·
                                  exfalso; omega
                              ·
                                have r65221 : R (0) (6) f64264 := ⟨by omega, by omega⟩
                                refine r_aload_n S dX12_skip_231 rfl (lv_at hl 1 rfl) ?_
                                refine r_aload_n S dX12_skip_232 rfl (lv_at hl 1 rfl) ?_
                                refine r_getJ (K := 38) S X65024 (Nat.le_of_ble_eq_true rfl) rfl lk12_170_10 (fun _ => ⟨_, rfl, rfl⟩) dX12_skip_233 (fun j65222 z65223 => ?_)
                                refine r_bipush S dX12_skip_236 (by decide) (fun v65224 z65225 => ?_)
                                have r65226 := R_eq z65225
                                refine lv_lshl S.1.1 S.1.2.1 dX12_skip_238 rfl ?_
                                refine lv_topl (fun j65227 z65228 => ?_)
                                refine r_aload_n S dX12_skip_239 rfl (lv_at hl 1 rfl) ?_
                                refine r_ki (q_V (As := []) (rest := [.long j65227, .ref (G.2.2.2.1 131)]) (K := 38) (ci := 10) S X65024 (c_X12_peek_x l G t64254 I64255 ) ck12_147 (Nat.le_of_ble_eq_true rfl) rfl (fun _ => ⟨_, rfl⟩) ⟨_, _, rfl⟩ ⟨Nat.le_of_ble_eq_true rfl, Nat.le_of_ble_eq_true rfl⟩ rfl hl.1 rfl (Nat.le_of_ble_eq_true rfl) dX12_skip_240 ⟨Nat.le_refl 0, Nat.le_refl 0⟩) X65024 (fun v65232 t65231 H lc q65229 X65230 => ?_)
                                unfold po_X12_peek_x at q65229
                                obtain ⟨q65233, q65234, q65235, q65236⟩ := q65229
                                rw [q65233] at X65230
                                rw [q65233] at q65235
                                rw [q65233] at q65236
                                have pk65237 : PKf bb nb f64258 v65232 := pk_b hB I64255 (F64256 131 3 (by simp [fz])) (fun j => F64256 132 j (by simp [fz])) z64260 (by omega) q65236
                                obtain ⟨e65238, e65239, e65240⟩ := PK_at pk65237 (by omega)
                                refine lv_i2l S.1.1 S.1.2.1 dX12_skip_243 rfl ?_
                                refine lv_topl (fun j65241 z65242 => ?_)
                                refine lv_lor S.1.1 S.1.2.1 dX12_skip_244 ?_
                                refine lv_topl (fun j65243 z65244 => ?_)
                                refine r_putJ (K := 38) S X65230 (Nat.le_of_ble_eq_true rfl) rfl lk12_170_10 (fun _ => ⟨_, rfl, Nat.le_of_ble_eq_true rfl, rfl⟩) (fun _ _ _ h => by cases h; exact ⟨rfl, rfl⟩) dX12_skip_245 (fun t65246 H lc M65247 X65245 => ?_)
                                have I65248 := Inv_ml I64255 M65247
                                have F65249 : Fr [(131, 4), (131, 11), (131, 12), (131, 13), (131, 14)] [331] τ t65246 := Fr_ml F64256 M65247 (by decide)
                                refine r_aload_n S dX12_skip_248 rfl (lv_at hl 1 rfl) ?_
                                refine r_geti (K := 38) S X65245 (Nat.le_of_ble_eq_true rfl) rfl lk12_154_10 (fun _ => ⟨_, rfl, rfl⟩) ((M65247.1 131 (by decide) 13).trans z64266) dX12_skip_249 ?_
                                refine r_iconst S dX12_skip_252 (by decide) (fun v65250 z65251 => ?_)
                                have r65252 := R_eq z65251
                                refine r_icmp_ge (tgt := 275) S dX12_skip_253 (by decide) (fun c65253 => ?_) (fun c65253 => ?_)
                                ·
                                  have r65254 : R (2) (6) f64264 := ⟨by omega, by omega⟩
                                  refine r_aload_n S dX12_skip_275 rfl (lv_at hl 1 rfl) ?_
                                  refine r_dup S dX12_skip_276 rfl ?_
                                  refine r_geti (K := 38) S X65245 (Nat.le_of_ble_eq_true rfl) rfl lk12_154_10 (fun _ => ⟨_, rfl, rfl⟩) ((M65247.1 131 (by decide) 13).trans z64266) dX12_skip_277 ?_
                                  refine r_iconst S dX12_skip_280 (by decide) (fun v65255 z65256 => ?_)
                                  have r65257 := R_eq z65256
                                  refine r_iadd S dX12_skip_281 (fun v65258 z65259 => ?_)
                                  obtain ⟨e65260, r65261⟩ := i_add (lo := 3) (hi := 7) z65259 r65254 r65257 rfl
                                  refine r_put (K := 38) (ty := .int) S X65245 (Nat.le_of_ble_eq_true rfl) rfl lk12_154_10 (fun _ => ⟨_, rfl, Nat.le_of_ble_eq_true rfl, rfl⟩) (fun _ _ _ h => by cases h; exact ⟨rfl, rfl⟩) rfl rfl dX12_skip_282 (fun t65262 H lc M65263 X65264 => ?_)
                                  have I65265 := Inv_mu I65248 M65263 (show Rg (kd 131) 13 v65258 from (R_of (lo := 0) (hi := 940) r65261 rfl))
                                  have F65266 : Fr [(131, 4), (131, 11), (131, 12), (131, 13), (131, 14)] [331] τ t65262 := Fr_mu F65249 M65263 (by decide)
                                  refine r_aload_n S dX12_skip_285 rfl (lv_at hl 1 rfl) ?_
                                  refine r_dup S dX12_skip_286 rfl ?_
                                  refine r_geti (K := 38) S X65264 (Nat.le_of_ble_eq_true rfl) rfl lk12_21_10 (fun _ => ⟨_, rfl, rfl⟩) ((M65263.2 131 4 (Or.inr (by decide))).trans ((M65247.1 131 (by decide) 4).trans z64260)) dX12_skip_287 ?_
                                  refine r_iconst S dX12_skip_290 (by decide) (fun v65267 z65268 => ?_)
                                  have r65269 := R_eq z65268
                                  refine r_iadd S dX12_skip_291 (fun v65270 z65271 => ?_)
                                  obtain ⟨e65272, r65273⟩ := i_add (lo := 1) (hi := 940) z65271 r64850 r65269 rfl
                                  refine r_put (K := 38) (ty := .int) S X65264 (Nat.le_of_ble_eq_true rfl) rfl lk12_21_10 (fun _ => ⟨_, rfl, Nat.le_of_ble_eq_true rfl, rfl⟩) (fun _ _ _ h => by cases h; exact ⟨rfl, rfl⟩) rfl rfl dX12_skip_292 (fun t65274 H lc M65275 X65276 => ?_)
                                  have I65277 := Inv_mu I65265 M65275 (show Rg (kd 131) 4 v65270 from (R_of (lo := 0) (hi := 940) r65273 rfl))
                                  have F65278 : Fr [(131, 4), (131, 11), (131, 12), (131, 13), (131, 14)] [331] τ t65274 := Fr_mu F65266 M65275 (by decide)
                                  refine r_goto (tgt := 181) S dX12_skip_295 (by decide) ?_
                                  exact ih64273 t65274 _ _ _ v65184 v65270 v65258 f64267 X65276 I65277 F65278 (R_of r65186 rfl) M65275.1 ⟨by omega, by omega⟩ ((M65275.2 131 3 (Or.inr (by decide))).trans ((M65263.2 131 3 (Or.inr (by decide))).trans ((M65247.1 131 (by decide) 3).trans z64261))) ((M65275.2 131 5 (Or.inr (by decide))).trans ((M65263.2 131 5 (Or.inr (by decide))).trans ((M65247.1 131 (by decide) 5).trans z64262))) ((M65275.2 131 12 (Or.inr (by decide))).trans ((M65263.2 131 12 (Or.inr (by decide))).trans ((M65247.1 131 (by decide) 12).trans z64263))) ((M65275.2 131 13 (Or.inr (by decide))).trans M65263.1) ⟨by omega, by omega⟩ ((M65275.2 131 14 (Or.inr (by decide))).trans ((M65263.2 131 14 (Or.inr (by decide))).trans ((M65247.1 131 (by decide) 14).trans z64269))) ⟨by omega, by omega⟩ (LM_upq (i := f64258) (sp := f64264) (al := i64252) x64271 hs32863 (by omega) (by omega) (LM_hw (x := v65232) (y := v65224) x64271 z65223 (by omega) (by rw [z65244, z65228, z65242]) ((qof_of (k := 131) (fun j => ((M65275.2 331 j (Or.inl (by decide))).trans ((M65263.2 331 j (Or.inl (by decide))).trans rfl))) 17).trans (Ml_upd M65247)) (by omega) (by omega)) (fun _ _ h => by exfalso; omega) (by omega) (by omega) (by omega)) (by omega) (lv_sub hl [1, 2, 0] rfl) (by omega)
                                ·
                                  have r65279 : R (0) (1) f64264 := ⟨by omega, by omega⟩
                                  refine r_aload_n S dX12_skip_256 rfl (lv_at hl 1 rfl) ?_
                                  refine r_bipush S dX12_skip_257 (by decide) (fun v65280 z65281 => ?_)
                                  have r65282 := R_eq z65281
                                  refine r_aload_n S dX12_skip_259 rfl (lv_at hl 1 rfl) ?_
                                  refine r_geti (K := 38) S X65245 (Nat.le_of_ble_eq_true rfl) rfl lk12_167_10 (fun _ => ⟨_, rfl, rfl⟩) ((M65247.1 131 (by decide) 14).trans z64269) dX12_skip_260 ?_
                                  refine r_imul S dX12_skip_263 (fun v65283 z65284 => ?_)
                                  have r65285 := R_any v65283
                                  refine r_aload_n S dX12_skip_264 rfl (lv_at hl 1 rfl) ?_
                                  refine r_ki (q_V (As := []) (rest := [.int v65283, .ref (G.2.2.2.1 131)]) (K := 38) (ci := 10) S X65245 (c_X12_peek_x l G t65246 I65248 ) ck12_147 (Nat.le_of_ble_eq_true rfl) rfl (fun _ => ⟨_, rfl⟩) ⟨_, _, rfl⟩ ⟨Nat.le_of_ble_eq_true rfl, Nat.le_of_ble_eq_true rfl⟩ rfl hl.1 rfl (Nat.le_of_ble_eq_true rfl) dX12_skip_265 ⟨Nat.le_refl 0, Nat.le_refl 0⟩) X65245 (fun v65289 t65288 H lc q65286 X65287 => ?_)
                                  unfold po_X12_peek_x at q65286
                                  obtain ⟨q65290, q65291, q65292, q65293⟩ := q65286
                                  rw [q65290] at X65287
                                  rw [q65290] at q65292
                                  rw [q65290] at q65293
                                  have pk65294 : PKf bb nb f64258 v65289 := pk_b hB I65248 (F65249 131 3 (by simp [fz])) (fun j => F65249 132 j (by simp [fz])) ((M65247.1 131 (by decide) 4).trans z64260) (by omega) q65293
                                  obtain ⟨e65295, e65296, e65297⟩ := PK_at pk65294 (by omega)
                                  refine r_iadd S dX12_skip_268 (fun v65298 z65299 => ?_)
                                  have r65300 := R_any v65298
                                  refine r_bipush S dX12_skip_269 (by decide) (fun v65301 z65302 => ?_)
                                  have r65303 := R_eq z65302
                                  refine r_isub S dX12_skip_271 (fun v65304 z65305 => ?_)
                                  have r65306 := R_any v65304
                                  refine r_put (K := 38) (ty := .int) S X65287 (Nat.le_of_ble_eq_true rfl) rfl lk12_167_10 (fun _ => ⟨_, rfl, Nat.le_of_ble_eq_true rfl, rfl⟩) (fun _ _ _ h => by cases h; exact ⟨rfl, rfl⟩) rfl rfl dX12_skip_272 (fun t65307 H lc M65308 X65309 => ?_)
                                  have I65310 := Inv_mu I65248 M65308 (R_any v65304)
                                  have F65311 : Fr [(131, 4), (131, 11), (131, 12), (131, 13), (131, 14)] [331] τ t65307 := Fr_mu F65249 M65308 (by decide)
                                  refine r_aload_n S dX12_skip_275 rfl (lv_at hl 1 rfl) ?_
                                  refine r_dup S dX12_skip_276 rfl ?_
                                  refine r_geti (K := 38) S X65309 (Nat.le_of_ble_eq_true rfl) rfl lk12_154_10 (fun _ => ⟨_, rfl, rfl⟩) ((M65308.2 131 13 (Or.inr (by decide))).trans ((M65247.1 131 (by decide) 13).trans z64266)) dX12_skip_277 ?_
                                  refine r_iconst S dX12_skip_280 (by decide) (fun v65312 z65313 => ?_)
                                  have r65314 := R_eq z65313
                                  refine r_iadd S dX12_skip_281 (fun v65315 z65316 => ?_)
                                  obtain ⟨e65317, r65318⟩ := i_add (lo := 1) (hi := 2) z65316 r65279 r65314 rfl
                                  refine r_put (K := 38) (ty := .int) S X65309 (Nat.le_of_ble_eq_true rfl) rfl lk12_154_10 (fun _ => ⟨_, rfl, Nat.le_of_ble_eq_true rfl, rfl⟩) (fun _ _ _ h => by cases h; exact ⟨rfl, rfl⟩) rfl rfl dX12_skip_282 (fun t65319 H lc M65320 X65321 => ?_)
                                  have I65322 := Inv_mu I65310 M65320 (show Rg (kd 131) 13 v65315 from (R_of (lo := 0) (hi := 940) r65318 rfl))
                                  have F65323 : Fr [(131, 4), (131, 11), (131, 12), (131, 13), (131, 14)] [331] τ t65319 := Fr_mu F65311 M65320 (by decide)
                                  refine r_aload_n S dX12_skip_285 rfl (lv_at hl 1 rfl) ?_
                                  refine r_dup S dX12_skip_286 rfl ?_
                                  refine r_geti (K := 38) S X65321 (Nat.le_of_ble_eq_true rfl) rfl lk12_21_10 (fun _ => ⟨_, rfl, rfl⟩) ((M65320.2 131 4 (Or.inr (by decide))).trans ((M65308.2 131 4 (Or.inr (by decide))).trans ((M65247.1 131 (by decide) 4).trans z64260))) dX12_skip_287 ?_
                                  refine r_iconst S dX12_skip_290 (by decide) (fun v65324 z65325 => ?_)
                                  have r65326 := R_eq z65325
                                  refine r_iadd S dX12_skip_291 (fun v65327 z65328 => ?_)
                                  obtain ⟨e65329, r65330⟩ := i_add (lo := 1) (hi := 940) z65328 r64850 r65326 rfl
                                  refine r_put (K := 38) (ty := .int) S X65321 (Nat.le_of_ble_eq_true rfl) rfl lk12_21_10 (fun _ => ⟨_, rfl, Nat.le_of_ble_eq_true rfl, rfl⟩) (fun _ _ _ h => by cases h; exact ⟨rfl, rfl⟩) rfl rfl dX12_skip_292 (fun t65331 H lc M65332 X65333 => ?_)
                                  have I65334 := Inv_mu I65322 M65332 (show Rg (kd 131) 4 v65327 from (R_of (lo := 0) (hi := 940) r65330 rfl))
                                  have F65335 : Fr [(131, 4), (131, 11), (131, 12), (131, 13), (131, 14)] [331] τ t65331 := Fr_mu F65323 M65332 (by decide)
                                  refine r_goto (tgt := 181) S dX12_skip_295 (by decide) ?_
                                  exact ih64273 t65331 _ _ _ v65184 v65327 v65315 v65304 X65333 I65334 F65335 (R_of r65186 rfl) M65332.1 ⟨by omega, by omega⟩ ((M65332.2 131 3 (Or.inr (by decide))).trans ((M65320.2 131 3 (Or.inr (by decide))).trans ((M65308.2 131 3 (Or.inr (by decide))).trans ((M65247.1 131 (by decide) 3).trans z64261)))) ((M65332.2 131 5 (Or.inr (by decide))).trans ((M65320.2 131 5 (Or.inr (by decide))).trans ((M65308.2 131 5 (Or.inr (by decide))).trans ((M65247.1 131 (by decide) 5).trans z64262)))) ((M65332.2 131 12 (Or.inr (by decide))).trans ((M65320.2 131 12 (Or.inr (by decide))).trans ((M65308.2 131 12 (Or.inr (by decide))).trans ((M65247.1 131 (by decide) 12).trans z64263)))) ((M65332.2 131 13 (Or.inr (by decide))).trans M65320.1) ⟨by omega, by omega⟩ ((M65332.2 131 14 (Or.inr (by decide))).trans ((M65320.2 131 14 (Or.inr (by decide))).trans M65308.1)) ⟨by omega, by omega⟩ (LM_upq (i := f64258) (sp := f64264) (al := i64252) x64271 hs32863 (by omega) (by omega) (LM_hw (x := v65232) (y := v65224) x64271 z65223 (by omega) (by rw [z65244, z65228, z65242]) ((qof_of (k := 131) (fun j => ((M65332.2 331 j (Or.inl (by decide))).trans ((M65320.2 331 j (Or.inl (by decide))).trans ((M65308.2 331 j (Or.inl (by decide))).trans rfl)))) 17).trans (Ml_upd M65247)) (by omega) (by omega)) (LM_hn (c := v65280) (x := v65289) (d := v65301) x64271 (by omega) z65284 z65299 (by omega) z65305 (by omega) (by omega)) (by omega) (by omega) (by omega)) (by omega) (lv_sub hl [1, 2, 0] rfl) (by omega)
                  exact L64270 _ t32874 _ _ _ v32860 f223 v281 v32871 X32876 I32877 F32878 (R_of r32862 rfl) ((M32875.2 131 4 (Or.inr (by decide))).trans ((M32868.1 131 (by decide) 4).trans ((M285.2 131 4 (Or.inr (by decide))).trans ((M277.2 131 4 (Or.inr (by decide))).trans z225)))) ⟨by omega, by omega⟩ ((M32875.2 131 3 (Or.inr (by decide))).trans ((M32868.1 131 (by decide) 3).trans ((M285.2 131 3 (Or.inr (by decide))).trans ((M277.2 131 3 (Or.inr (by decide))).trans z226)))) ((M32875.2 131 5 (Or.inr (by decide))).trans ((M32868.1 131 (by decide) 5).trans ((M285.2 131 5 (Or.inr (by decide))).trans ((M277.2 131 5 (Or.inr (by decide))).trans z227)))) ((M32875.2 131 12 (Or.inr (by decide))).trans ((M32868.1 131 (by decide) 12).trans ((M285.2 131 12 (Or.inr (by decide))).trans M277.1))) ((M32875.2 131 13 (Or.inr (by decide))).trans ((M32868.1 131 (by decide) 13).trans M285.1)) ⟨by omega, by omega⟩ M32875.1 ⟨by omega, by omega⟩ (LM_0q (by omega) (by omega) (by omega) ((qof_of (k := 131) (fun j => ((M32875.2 331 j (Or.inl (by decide))).trans rfl)) 17).trans (Ml_upd M32868)) z32865) (by omega) (lv_sub hl [3, 1, 0] rfl) (Nat.lt_succ_self _)
                ·
                  have r65336 : R (0) (0) v32840 := ⟨by omega, by omega⟩
                  refine r_aload_n S dX12_skip_109 rfl (lv_at hl 1 rfl) ?_
                  refine r_iload_n S dX12_skip_110 rfl (lv_at hl 0 rfl) ?_
                  refine r_bipush S dX12_skip_111 (by decide) (fun v65337 z65338 => ?_)
                  have r65339 := R_eq z65338
                  refine r_icmp_eq (tgt := 140) S dX12_skip_113 (by decide) (fun c65340 => ?_) (fun c65340 => ?_)
                  ·
                    have r65341 : R (59) (59) v293 := ⟨by omega, by omega⟩
                    have p65342 := q296 (by omega)
                    have r65343 : R (0) (939) f223 := ((M285.2 131 4 (Or.inr (by decide))).trans ((M277.2 131 4 (Or.inr (by decide))).trans z225)) ▸ p65342
                    have r65344 : R (0) (939) f223 := ⟨by omega, by omega⟩
                    refine r_iconst S dX12_skip_140 (by decide) (fun v65345 z65346 => ?_)
                    have r65347 := R_eq z65346
                    refine r_goto (tgt := 145) S dX12_skip_141 (by decide) ?_
                    refine r_put (K := 38) (ty := .int) S X32838 (Nat.le_of_ble_eq_true rfl) rfl lk12_157_10 (fun _ => ⟨_, rfl, Nat.le_of_ble_eq_true rfl, rfl⟩) (fun _ _ _ h => by cases h; exact ⟨rfl, rfl⟩) rfl rfl dX12_skip_145 (fun t65348 H lc M65349 X65350 => ?_)
                    have I65351 := Inv_mu I287 M65349 (show Rg (kd 131) 11 v65345 from (R_of (lo := 0) (hi := 4) r65347 rfl))
                    have F65352 : Fr [(131, 4), (131, 11), (131, 12), (131, 13), (131, 14)] [331] τ t65348 := Fr_mu F288 M65349 (by decide)
                    refine r_aload_n S dX12_skip_148 rfl (lv_at hl 1 rfl) ?_
                    refine r_iload_n S dX12_skip_149 rfl (lv_at hl 0 rfl) ?_
                    refine r_put (K := 38) (ty := .int) S X65350 (Nat.le_of_ble_eq_true rfl) rfl lk12_167_10 (fun _ => ⟨_, rfl, Nat.le_of_ble_eq_true rfl, rfl⟩) (fun _ _ _ h => by cases h; exact ⟨rfl, rfl⟩) rfl rfl dX12_skip_150 (fun t65353 H lc M65354 X65355 => ?_)
                    have I65356 := Inv_mu I65351 M65354 (R_any v293)
                    have F65357 : Fr [(131, 4), (131, 11), (131, 12), (131, 13), (131, 14)] [331] τ t65353 := Fr_mu F65352 M65354 (by decide)
                    refine r_aload_n S dX12_skip_153 rfl (lv_at hl 1 rfl) ?_
                    refine r_dup S dX12_skip_154 rfl ?_
                    refine r_geti (K := 38) S X65355 (Nat.le_of_ble_eq_true rfl) rfl lk12_21_10 (fun _ => ⟨_, rfl, rfl⟩) ((M65354.2 131 4 (Or.inr (by decide))).trans ((M65349.2 131 4 (Or.inr (by decide))).trans ((M285.2 131 4 (Or.inr (by decide))).trans ((M277.2 131 4 (Or.inr (by decide))).trans z225)))) dX12_skip_155 ?_
                    refine r_iconst S dX12_skip_158 (by decide) (fun v65358 z65359 => ?_)
                    have r65360 := R_eq z65359
                    refine r_iadd S dX12_skip_159 (fun v65361 z65362 => ?_)
                    obtain ⟨e65363, r65364⟩ := i_add (lo := 1) (hi := 940) z65362 r65344 r65360 rfl
                    refine r_put (K := 38) (ty := .int) S X65355 (Nat.le_of_ble_eq_true rfl) rfl lk12_21_10 (fun _ => ⟨_, rfl, Nat.le_of_ble_eq_true rfl, rfl⟩) (fun _ _ _ h => by cases h; exact ⟨rfl, rfl⟩) rfl rfl dX12_skip_160 (fun t65365 H lc M65366 X65367 => ?_)
                    have I65368 := Inv_mu I65356 M65366 (show Rg (kd 131) 4 v65361 from (R_of (lo := 0) (hi := 940) r65364 rfl))
                    have F65369 : Fr [(131, 4), (131, 11), (131, 12), (131, 13), (131, 14)] [331] τ t65365 := Fr_mu F65357 M65366 (by decide)
                    exact r_vret S hr hlk X65367 ⟨I65368, F65369, (by rw [M65366.1]; exact R_of r65364 rfl), (by rw [((M65366.2 131 11 (Or.inr (by decide))).trans ((M65354.2 131 11 (Or.inr (by decide))).trans M65349.1))]; exact R_of r65347 rfl), (by have h1_0 := congrArg Int32.toInt M65366.1; have h2_0 := congrArg Int32.toInt z2; omega), (by have h1_0 := congrArg Int32.toInt M65366.1; have h2_0 := congrArg Int32.toInt z2; have h1_1 := congrArg Int32.toInt ((M65366.2 131 11 (Or.inr (by decide))).trans ((M65354.2 131 11 (Or.inr (by decide))).trans M65349.1)); omega), (MT_sign (A := f223.toInt.toNat) (MB_eq hB (F65369 131 3 (by simp [fz])) (F65369 131 5 (by simp [fz])) (fun j => F65369 132 j (by simp [fz]))) ⟨by omega, by omega, x229, fun _ => by omega⟩ (by omega) (by omega) (by omega) (by omega) (by have q := congrArg Int32.toInt ((M65366.2 131 12 (Or.inr (by decide))).trans ((M65354.2 131 12 (Or.inr (by decide))).trans ((M65349.2 131 12 (Or.inr (by decide))).trans ((M285.2 131 12 (Or.inr (by decide))).trans M277.1)))); omega) (by have q := congrArg Int32.toInt M65366.1; omega) (by have q := congrArg Int32.toInt ((M65366.2 131 11 (Or.inr (by decide))).trans ((M65354.2 131 11 (Or.inr (by decide))).trans M65349.1)); omega) (by have q := congrArg Int32.toInt ((M65366.2 131 14 (Or.inr (by decide))).trans M65354.1); omega))⟩ dX12_skip_163
                  ·
                    refine r_iload_n S dX12_skip_116 rfl (lv_at hl 0 rfl) ?_
                    refine r_bipush S dX12_skip_117 (by decide) (fun v65370 z65371 => ?_)
                    have r65372 := R_eq z65371
                    refine r_icmp_eq (tgt := 140) S dX12_skip_119 (by decide) (fun c65373 => ?_) (fun c65373 => ?_)
                    ·
                      have r65374 : R (40) (40) v293 := ⟨by omega, by omega⟩
                      have p65375 := q296 (by omega)
                      have r65376 : R (0) (939) f223 := ((M285.2 131 4 (Or.inr (by decide))).trans ((M277.2 131 4 (Or.inr (by decide))).trans z225)) ▸ p65375
                      have r65377 : R (0) (939) f223 := ⟨by omega, by omega⟩
                      refine r_iconst S dX12_skip_140 (by decide) (fun v65378 z65379 => ?_)
                      have r65380 := R_eq z65379
                      refine r_goto (tgt := 145) S dX12_skip_141 (by decide) ?_
                      refine r_put (K := 38) (ty := .int) S X32838 (Nat.le_of_ble_eq_true rfl) rfl lk12_157_10 (fun _ => ⟨_, rfl, Nat.le_of_ble_eq_true rfl, rfl⟩) (fun _ _ _ h => by cases h; exact ⟨rfl, rfl⟩) rfl rfl dX12_skip_145 (fun t65381 H lc M65382 X65383 => ?_)
                      have I65384 := Inv_mu I287 M65382 (show Rg (kd 131) 11 v65378 from (R_of (lo := 0) (hi := 4) r65380 rfl))
                      have F65385 : Fr [(131, 4), (131, 11), (131, 12), (131, 13), (131, 14)] [331] τ t65381 := Fr_mu F288 M65382 (by decide)
                      refine r_aload_n S dX12_skip_148 rfl (lv_at hl 1 rfl) ?_
                      refine r_iload_n S dX12_skip_149 rfl (lv_at hl 0 rfl) ?_
                      refine r_put (K := 38) (ty := .int) S X65383 (Nat.le_of_ble_eq_true rfl) rfl lk12_167_10 (fun _ => ⟨_, rfl, Nat.le_of_ble_eq_true rfl, rfl⟩) (fun _ _ _ h => by cases h; exact ⟨rfl, rfl⟩) rfl rfl dX12_skip_150 (fun t65386 H lc M65387 X65388 => ?_)
                      have I65389 := Inv_mu I65384 M65387 (R_any v293)
                      have F65390 : Fr [(131, 4), (131, 11), (131, 12), (131, 13), (131, 14)] [331] τ t65386 := Fr_mu F65385 M65387 (by decide)
                      refine r_aload_n S dX12_skip_153 rfl (lv_at hl 1 rfl) ?_
                      refine r_dup S dX12_skip_154 rfl ?_
                      refine r_geti (K := 38) S X65388 (Nat.le_of_ble_eq_true rfl) rfl lk12_21_10 (fun _ => ⟨_, rfl, rfl⟩) ((M65387.2 131 4 (Or.inr (by decide))).trans ((M65382.2 131 4 (Or.inr (by decide))).trans ((M285.2 131 4 (Or.inr (by decide))).trans ((M277.2 131 4 (Or.inr (by decide))).trans z225)))) dX12_skip_155 ?_
                      refine r_iconst S dX12_skip_158 (by decide) (fun v65391 z65392 => ?_)
                      have r65393 := R_eq z65392
                      refine r_iadd S dX12_skip_159 (fun v65394 z65395 => ?_)
                      obtain ⟨e65396, r65397⟩ := i_add (lo := 1) (hi := 940) z65395 r65377 r65393 rfl
                      refine r_put (K := 38) (ty := .int) S X65388 (Nat.le_of_ble_eq_true rfl) rfl lk12_21_10 (fun _ => ⟨_, rfl, Nat.le_of_ble_eq_true rfl, rfl⟩) (fun _ _ _ h => by cases h; exact ⟨rfl, rfl⟩) rfl rfl dX12_skip_160 (fun t65398 H lc M65399 X65400 => ?_)
                      have I65401 := Inv_mu I65389 M65399 (show Rg (kd 131) 4 v65394 from (R_of (lo := 0) (hi := 940) r65397 rfl))
                      have F65402 : Fr [(131, 4), (131, 11), (131, 12), (131, 13), (131, 14)] [331] τ t65398 := Fr_mu F65390 M65399 (by decide)
                      exact r_vret S hr hlk X65400 ⟨I65401, F65402, (by rw [M65399.1]; exact R_of r65397 rfl), (by rw [((M65399.2 131 11 (Or.inr (by decide))).trans ((M65387.2 131 11 (Or.inr (by decide))).trans M65382.1))]; exact R_of r65380 rfl), (by have h1_0 := congrArg Int32.toInt M65399.1; have h2_0 := congrArg Int32.toInt z2; omega), (by have h1_0 := congrArg Int32.toInt M65399.1; have h2_0 := congrArg Int32.toInt z2; have h1_1 := congrArg Int32.toInt ((M65399.2 131 11 (Or.inr (by decide))).trans ((M65387.2 131 11 (Or.inr (by decide))).trans M65382.1)); omega), (MT_sign (A := f223.toInt.toNat) (MB_eq hB (F65402 131 3 (by simp [fz])) (F65402 131 5 (by simp [fz])) (fun j => F65402 132 j (by simp [fz]))) ⟨by omega, by omega, x229, fun _ => by omega⟩ (by omega) (by omega) (by omega) (by omega) (by have q := congrArg Int32.toInt ((M65399.2 131 12 (Or.inr (by decide))).trans ((M65387.2 131 12 (Or.inr (by decide))).trans ((M65382.2 131 12 (Or.inr (by decide))).trans ((M285.2 131 12 (Or.inr (by decide))).trans M277.1)))); omega) (by have q := congrArg Int32.toInt M65399.1; omega) (by have q := congrArg Int32.toInt ((M65399.2 131 11 (Or.inr (by decide))).trans ((M65387.2 131 11 (Or.inr (by decide))).trans M65382.1)); omega) (by have q := congrArg Int32.toInt ((M65399.2 131 14 (Or.inr (by decide))).trans M65387.1); omega))⟩ dX12_skip_163
                    ·
                      refine r_iload_n S dX12_skip_122 rfl (lv_at hl 0 rfl) ?_
                      refine r_bipush S dX12_skip_123 (by decide) (fun v65403 z65404 => ?_)
                      have r65405 := R_eq z65404
                      refine r_icmp_eq (tgt := 140) S dX12_skip_125 (by decide) (fun c65406 => ?_) (fun c65406 => ?_)
                      ·
                        have r65407 : R (41) (41) v293 := ⟨by omega, by omega⟩
                        have p65408 := q296 (by omega)
                        have r65409 : R (0) (939) f223 := ((M285.2 131 4 (Or.inr (by decide))).trans ((M277.2 131 4 (Or.inr (by decide))).trans z225)) ▸ p65408
                        have r65410 : R (0) (939) f223 := ⟨by omega, by omega⟩
                        refine r_iconst S dX12_skip_140 (by decide) (fun v65411 z65412 => ?_)
                        have r65413 := R_eq z65412
                        refine r_goto (tgt := 145) S dX12_skip_141 (by decide) ?_
                        refine r_put (K := 38) (ty := .int) S X32838 (Nat.le_of_ble_eq_true rfl) rfl lk12_157_10 (fun _ => ⟨_, rfl, Nat.le_of_ble_eq_true rfl, rfl⟩) (fun _ _ _ h => by cases h; exact ⟨rfl, rfl⟩) rfl rfl dX12_skip_145 (fun t65414 H lc M65415 X65416 => ?_)
                        have I65417 := Inv_mu I287 M65415 (show Rg (kd 131) 11 v65411 from (R_of (lo := 0) (hi := 4) r65413 rfl))
                        have F65418 : Fr [(131, 4), (131, 11), (131, 12), (131, 13), (131, 14)] [331] τ t65414 := Fr_mu F288 M65415 (by decide)
                        refine r_aload_n S dX12_skip_148 rfl (lv_at hl 1 rfl) ?_
                        refine r_iload_n S dX12_skip_149 rfl (lv_at hl 0 rfl) ?_
                        refine r_put (K := 38) (ty := .int) S X65416 (Nat.le_of_ble_eq_true rfl) rfl lk12_167_10 (fun _ => ⟨_, rfl, Nat.le_of_ble_eq_true rfl, rfl⟩) (fun _ _ _ h => by cases h; exact ⟨rfl, rfl⟩) rfl rfl dX12_skip_150 (fun t65419 H lc M65420 X65421 => ?_)
                        have I65422 := Inv_mu I65417 M65420 (R_any v293)
                        have F65423 : Fr [(131, 4), (131, 11), (131, 12), (131, 13), (131, 14)] [331] τ t65419 := Fr_mu F65418 M65420 (by decide)
                        refine r_aload_n S dX12_skip_153 rfl (lv_at hl 1 rfl) ?_
                        refine r_dup S dX12_skip_154 rfl ?_
                        refine r_geti (K := 38) S X65421 (Nat.le_of_ble_eq_true rfl) rfl lk12_21_10 (fun _ => ⟨_, rfl, rfl⟩) ((M65420.2 131 4 (Or.inr (by decide))).trans ((M65415.2 131 4 (Or.inr (by decide))).trans ((M285.2 131 4 (Or.inr (by decide))).trans ((M277.2 131 4 (Or.inr (by decide))).trans z225)))) dX12_skip_155 ?_
                        refine r_iconst S dX12_skip_158 (by decide) (fun v65424 z65425 => ?_)
                        have r65426 := R_eq z65425
                        refine r_iadd S dX12_skip_159 (fun v65427 z65428 => ?_)
                        obtain ⟨e65429, r65430⟩ := i_add (lo := 1) (hi := 940) z65428 r65410 r65426 rfl
                        refine r_put (K := 38) (ty := .int) S X65421 (Nat.le_of_ble_eq_true rfl) rfl lk12_21_10 (fun _ => ⟨_, rfl, Nat.le_of_ble_eq_true rfl, rfl⟩) (fun _ _ _ h => by cases h; exact ⟨rfl, rfl⟩) rfl rfl dX12_skip_160 (fun t65431 H lc M65432 X65433 => ?_)
                        have I65434 := Inv_mu I65422 M65432 (show Rg (kd 131) 4 v65427 from (R_of (lo := 0) (hi := 940) r65430 rfl))
                        have F65435 : Fr [(131, 4), (131, 11), (131, 12), (131, 13), (131, 14)] [331] τ t65431 := Fr_mu F65423 M65432 (by decide)
                        exact r_vret S hr hlk X65433 ⟨I65434, F65435, (by rw [M65432.1]; exact R_of r65430 rfl), (by rw [((M65432.2 131 11 (Or.inr (by decide))).trans ((M65420.2 131 11 (Or.inr (by decide))).trans M65415.1))]; exact R_of r65413 rfl), (by have h1_0 := congrArg Int32.toInt M65432.1; have h2_0 := congrArg Int32.toInt z2; omega), (by have h1_0 := congrArg Int32.toInt M65432.1; have h2_0 := congrArg Int32.toInt z2; have h1_1 := congrArg Int32.toInt ((M65432.2 131 11 (Or.inr (by decide))).trans ((M65420.2 131 11 (Or.inr (by decide))).trans M65415.1)); omega), (MT_sign (A := f223.toInt.toNat) (MB_eq hB (F65435 131 3 (by simp [fz])) (F65435 131 5 (by simp [fz])) (fun j => F65435 132 j (by simp [fz]))) ⟨by omega, by omega, x229, fun _ => by omega⟩ (by omega) (by omega) (by omega) (by omega) (by have q := congrArg Int32.toInt ((M65432.2 131 12 (Or.inr (by decide))).trans ((M65420.2 131 12 (Or.inr (by decide))).trans ((M65415.2 131 12 (Or.inr (by decide))).trans ((M285.2 131 12 (Or.inr (by decide))).trans M277.1)))); omega) (by have q := congrArg Int32.toInt M65432.1; omega) (by have q := congrArg Int32.toInt ((M65432.2 131 11 (Or.inr (by decide))).trans ((M65420.2 131 11 (Or.inr (by decide))).trans M65415.1)); omega) (by have q := congrArg Int32.toInt ((M65432.2 131 14 (Or.inr (by decide))).trans M65420.1); omega))⟩ dX12_skip_163
                      ·
                        refine r_iload_n S dX12_skip_128 rfl (lv_at hl 0 rfl) ?_
                        refine r_bipush S dX12_skip_129 (by decide) (fun v65436 z65437 => ?_)
                        have r65438 := R_eq z65437
                        refine r_icmp_lt (tgt := 144) S dX12_skip_131 (by decide) (fun c65439 => ?_) (fun c65439 => ?_)
                        ·
                          have r65440 : R (0) (59) v293 := ⟨by omega, by omega⟩
                          have p65441 := q296 (by omega)
                          have r65442 : R (0) (939) f223 := ((M285.2 131 4 (Or.inr (by decide))).trans ((M277.2 131 4 (Or.inr (by decide))).trans z225)) ▸ p65441
                          have r65443 : R (0) (939) f223 := ⟨by omega, by omega⟩
                          refine r_iconst S dX12_skip_144 (by decide) (fun v65444 z65445 => ?_)
                          have r65446 := R_eq z65445
                          refine r_put (K := 38) (ty := .int) S X32838 (Nat.le_of_ble_eq_true rfl) rfl lk12_157_10 (fun _ => ⟨_, rfl, Nat.le_of_ble_eq_true rfl, rfl⟩) (fun _ _ _ h => by cases h; exact ⟨rfl, rfl⟩) rfl rfl dX12_skip_145 (fun t65447 H lc M65448 X65449 => ?_)
                          have I65450 := Inv_mu I287 M65448 (show Rg (kd 131) 11 v65444 from (R_of (lo := 0) (hi := 4) r65446 rfl))
                          have F65451 : Fr [(131, 4), (131, 11), (131, 12), (131, 13), (131, 14)] [331] τ t65447 := Fr_mu F288 M65448 (by decide)
                          refine r_aload_n S dX12_skip_148 rfl (lv_at hl 1 rfl) ?_
                          refine r_iload_n S dX12_skip_149 rfl (lv_at hl 0 rfl) ?_
                          refine r_put (K := 38) (ty := .int) S X65449 (Nat.le_of_ble_eq_true rfl) rfl lk12_167_10 (fun _ => ⟨_, rfl, Nat.le_of_ble_eq_true rfl, rfl⟩) (fun _ _ _ h => by cases h; exact ⟨rfl, rfl⟩) rfl rfl dX12_skip_150 (fun t65452 H lc M65453 X65454 => ?_)
                          have I65455 := Inv_mu I65450 M65453 (R_any v293)
                          have F65456 : Fr [(131, 4), (131, 11), (131, 12), (131, 13), (131, 14)] [331] τ t65452 := Fr_mu F65451 M65453 (by decide)
                          refine r_aload_n S dX12_skip_153 rfl (lv_at hl 1 rfl) ?_
                          refine r_dup S dX12_skip_154 rfl ?_
                          refine r_geti (K := 38) S X65454 (Nat.le_of_ble_eq_true rfl) rfl lk12_21_10 (fun _ => ⟨_, rfl, rfl⟩) ((M65453.2 131 4 (Or.inr (by decide))).trans ((M65448.2 131 4 (Or.inr (by decide))).trans ((M285.2 131 4 (Or.inr (by decide))).trans ((M277.2 131 4 (Or.inr (by decide))).trans z225)))) dX12_skip_155 ?_
                          refine r_iconst S dX12_skip_158 (by decide) (fun v65457 z65458 => ?_)
                          have r65459 := R_eq z65458
                          refine r_iadd S dX12_skip_159 (fun v65460 z65461 => ?_)
                          obtain ⟨e65462, r65463⟩ := i_add (lo := 1) (hi := 940) z65461 r65443 r65459 rfl
                          refine r_put (K := 38) (ty := .int) S X65454 (Nat.le_of_ble_eq_true rfl) rfl lk12_21_10 (fun _ => ⟨_, rfl, Nat.le_of_ble_eq_true rfl, rfl⟩) (fun _ _ _ h => by cases h; exact ⟨rfl, rfl⟩) rfl rfl dX12_skip_160 (fun t65464 H lc M65465 X65466 => ?_)
                          have I65467 := Inv_mu I65455 M65465 (show Rg (kd 131) 4 v65460 from (R_of (lo := 0) (hi := 940) r65463 rfl))
                          have F65468 : Fr [(131, 4), (131, 11), (131, 12), (131, 13), (131, 14)] [331] τ t65464 := Fr_mu F65456 M65465 (by decide)
                          exact r_vret S hr hlk X65466 ⟨I65467, F65468, (by rw [M65465.1]; exact R_of r65463 rfl), (by rw [((M65465.2 131 11 (Or.inr (by decide))).trans ((M65453.2 131 11 (Or.inr (by decide))).trans M65448.1))]; exact R_of r65446 rfl), (by have h1_0 := congrArg Int32.toInt M65465.1; have h2_0 := congrArg Int32.toInt z2; omega), (by have h1_0 := congrArg Int32.toInt M65465.1; have h2_0 := congrArg Int32.toInt z2; have h1_1 := congrArg Int32.toInt ((M65465.2 131 11 (Or.inr (by decide))).trans ((M65453.2 131 11 (Or.inr (by decide))).trans M65448.1)); omega), (MT_none (A := f223.toInt.toNat) (MB_eq hB (F65468 131 3 (by simp [fz])) (F65468 131 5 (by simp [fz])) (fun j => F65468 132 j (by simp [fz]))) ⟨by omega, by omega, x229, fun _ => by omega⟩ (by omega) (by omega) (by omega) (by omega) (by have q := congrArg Int32.toInt ((M65465.2 131 12 (Or.inr (by decide))).trans ((M65453.2 131 12 (Or.inr (by decide))).trans ((M65448.2 131 12 (Or.inr (by decide))).trans ((M285.2 131 12 (Or.inr (by decide))).trans M277.1)))); omega) (by have q := congrArg Int32.toInt ((M65465.2 131 11 (Or.inr (by decide))).trans ((M65453.2 131 11 (Or.inr (by decide))).trans M65448.1)); omega))⟩ dX12_skip_163
                        ·
                          have r65469 : R (60) (255) v293 := ⟨by omega, by omega⟩
                          have p65470 := q296 (by omega)
                          have r65471 : R (0) (939) f223 := ((M285.2 131 4 (Or.inr (by decide))).trans ((M277.2 131 4 (Or.inr (by decide))).trans z225)) ▸ p65470
                          have r65472 : R (0) (939) f223 := ⟨by omega, by omega⟩
                          refine r_iload_n S dX12_skip_134 rfl (lv_at hl 0 rfl) ?_
                          refine r_bipush S dX12_skip_135 (by decide) (fun v65473 z65474 => ?_)
                          have r65475 := R_eq z65474
                          refine r_icmp_gt (tgt := 144) S dX12_skip_137 (by decide) (fun c65476 => ?_) (fun c65476 => ?_)
                          ·
                            have r65477 : R (63) (255) v293 := ⟨by omega, by omega⟩
                            have p65478 := q296 (by omega)
                            have r65479 : R (0) (939) f223 := ((M285.2 131 4 (Or.inr (by decide))).trans ((M277.2 131 4 (Or.inr (by decide))).trans z225)) ▸ p65478
                            have r65480 : R (0) (939) f223 := ⟨by omega, by omega⟩
                            refine r_iconst S dX12_skip_144 (by decide) (fun v65481 z65482 => ?_)
                            have r65483 := R_eq z65482
                            refine r_put (K := 38) (ty := .int) S X32838 (Nat.le_of_ble_eq_true rfl) rfl lk12_157_10 (fun _ => ⟨_, rfl, Nat.le_of_ble_eq_true rfl, rfl⟩) (fun _ _ _ h => by cases h; exact ⟨rfl, rfl⟩) rfl rfl dX12_skip_145 (fun t65484 H lc M65485 X65486 => ?_)
                            have I65487 := Inv_mu I287 M65485 (show Rg (kd 131) 11 v65481 from (R_of (lo := 0) (hi := 4) r65483 rfl))
                            have F65488 : Fr [(131, 4), (131, 11), (131, 12), (131, 13), (131, 14)] [331] τ t65484 := Fr_mu F288 M65485 (by decide)
                            refine r_aload_n S dX12_skip_148 rfl (lv_at hl 1 rfl) ?_
                            refine r_iload_n S dX12_skip_149 rfl (lv_at hl 0 rfl) ?_
                            refine r_put (K := 38) (ty := .int) S X65486 (Nat.le_of_ble_eq_true rfl) rfl lk12_167_10 (fun _ => ⟨_, rfl, Nat.le_of_ble_eq_true rfl, rfl⟩) (fun _ _ _ h => by cases h; exact ⟨rfl, rfl⟩) rfl rfl dX12_skip_150 (fun t65489 H lc M65490 X65491 => ?_)
                            have I65492 := Inv_mu I65487 M65490 (R_any v293)
                            have F65493 : Fr [(131, 4), (131, 11), (131, 12), (131, 13), (131, 14)] [331] τ t65489 := Fr_mu F65488 M65490 (by decide)
                            refine r_aload_n S dX12_skip_153 rfl (lv_at hl 1 rfl) ?_
                            refine r_dup S dX12_skip_154 rfl ?_
                            refine r_geti (K := 38) S X65491 (Nat.le_of_ble_eq_true rfl) rfl lk12_21_10 (fun _ => ⟨_, rfl, rfl⟩) ((M65490.2 131 4 (Or.inr (by decide))).trans ((M65485.2 131 4 (Or.inr (by decide))).trans ((M285.2 131 4 (Or.inr (by decide))).trans ((M277.2 131 4 (Or.inr (by decide))).trans z225)))) dX12_skip_155 ?_
                            refine r_iconst S dX12_skip_158 (by decide) (fun v65494 z65495 => ?_)
                            have r65496 := R_eq z65495
                            refine r_iadd S dX12_skip_159 (fun v65497 z65498 => ?_)
                            obtain ⟨e65499, r65500⟩ := i_add (lo := 1) (hi := 940) z65498 r65480 r65496 rfl
                            refine r_put (K := 38) (ty := .int) S X65491 (Nat.le_of_ble_eq_true rfl) rfl lk12_21_10 (fun _ => ⟨_, rfl, Nat.le_of_ble_eq_true rfl, rfl⟩) (fun _ _ _ h => by cases h; exact ⟨rfl, rfl⟩) rfl rfl dX12_skip_160 (fun t65501 H lc M65502 X65503 => ?_)
                            have I65504 := Inv_mu I65492 M65502 (show Rg (kd 131) 4 v65497 from (R_of (lo := 0) (hi := 940) r65500 rfl))
                            have F65505 : Fr [(131, 4), (131, 11), (131, 12), (131, 13), (131, 14)] [331] τ t65501 := Fr_mu F65493 M65502 (by decide)
                            exact r_vret S hr hlk X65503 ⟨I65504, F65505, (by rw [M65502.1]; exact R_of r65500 rfl), (by rw [((M65502.2 131 11 (Or.inr (by decide))).trans ((M65490.2 131 11 (Or.inr (by decide))).trans M65485.1))]; exact R_of r65483 rfl), (by have h1_0 := congrArg Int32.toInt M65502.1; have h2_0 := congrArg Int32.toInt z2; omega), (by have h1_0 := congrArg Int32.toInt M65502.1; have h2_0 := congrArg Int32.toInt z2; have h1_1 := congrArg Int32.toInt ((M65502.2 131 11 (Or.inr (by decide))).trans ((M65490.2 131 11 (Or.inr (by decide))).trans M65485.1)); omega), (MT_none (A := f223.toInt.toNat) (MB_eq hB (F65505 131 3 (by simp [fz])) (F65505 131 5 (by simp [fz])) (fun j => F65505 132 j (by simp [fz]))) ⟨by omega, by omega, x229, fun _ => by omega⟩ (by omega) (by omega) (by omega) (by omega) (by have q := congrArg Int32.toInt ((M65502.2 131 12 (Or.inr (by decide))).trans ((M65490.2 131 12 (Or.inr (by decide))).trans ((M65485.2 131 12 (Or.inr (by decide))).trans ((M285.2 131 12 (Or.inr (by decide))).trans M277.1)))); omega) (by have q := congrArg Int32.toInt ((M65502.2 131 11 (Or.inr (by decide))).trans ((M65490.2 131 11 (Or.inr (by decide))).trans M65485.1)); omega))⟩ dX12_skip_163
                          ·
                            have r65506 : R (60) (62) v293 := ⟨by omega, by omega⟩
                            have p65507 := q296 (by omega)
                            have r65508 : R (0) (939) f223 := ((M285.2 131 4 (Or.inr (by decide))).trans ((M277.2 131 4 (Or.inr (by decide))).trans z225)) ▸ p65507
                            have r65509 : R (0) (939) f223 := ⟨by omega, by omega⟩
                            refine r_iconst S dX12_skip_140 (by decide) (fun v65510 z65511 => ?_)
                            have r65512 := R_eq z65511
                            refine r_goto (tgt := 145) S dX12_skip_141 (by decide) ?_
                            refine r_put (K := 38) (ty := .int) S X32838 (Nat.le_of_ble_eq_true rfl) rfl lk12_157_10 (fun _ => ⟨_, rfl, Nat.le_of_ble_eq_true rfl, rfl⟩) (fun _ _ _ h => by cases h; exact ⟨rfl, rfl⟩) rfl rfl dX12_skip_145 (fun t65513 H lc M65514 X65515 => ?_)
                            have I65516 := Inv_mu I287 M65514 (show Rg (kd 131) 11 v65510 from (R_of (lo := 0) (hi := 4) r65512 rfl))
                            have F65517 : Fr [(131, 4), (131, 11), (131, 12), (131, 13), (131, 14)] [331] τ t65513 := Fr_mu F288 M65514 (by decide)
                            refine r_aload_n S dX12_skip_148 rfl (lv_at hl 1 rfl) ?_
                            refine r_iload_n S dX12_skip_149 rfl (lv_at hl 0 rfl) ?_
                            refine r_put (K := 38) (ty := .int) S X65515 (Nat.le_of_ble_eq_true rfl) rfl lk12_167_10 (fun _ => ⟨_, rfl, Nat.le_of_ble_eq_true rfl, rfl⟩) (fun _ _ _ h => by cases h; exact ⟨rfl, rfl⟩) rfl rfl dX12_skip_150 (fun t65518 H lc M65519 X65520 => ?_)
                            have I65521 := Inv_mu I65516 M65519 (R_any v293)
                            have F65522 : Fr [(131, 4), (131, 11), (131, 12), (131, 13), (131, 14)] [331] τ t65518 := Fr_mu F65517 M65519 (by decide)
                            refine r_aload_n S dX12_skip_153 rfl (lv_at hl 1 rfl) ?_
                            refine r_dup S dX12_skip_154 rfl ?_
                            refine r_geti (K := 38) S X65520 (Nat.le_of_ble_eq_true rfl) rfl lk12_21_10 (fun _ => ⟨_, rfl, rfl⟩) ((M65519.2 131 4 (Or.inr (by decide))).trans ((M65514.2 131 4 (Or.inr (by decide))).trans ((M285.2 131 4 (Or.inr (by decide))).trans ((M277.2 131 4 (Or.inr (by decide))).trans z225)))) dX12_skip_155 ?_
                            refine r_iconst S dX12_skip_158 (by decide) (fun v65523 z65524 => ?_)
                            have r65525 := R_eq z65524
                            refine r_iadd S dX12_skip_159 (fun v65526 z65527 => ?_)
                            obtain ⟨e65528, r65529⟩ := i_add (lo := 1) (hi := 940) z65527 r65509 r65525 rfl
                            refine r_put (K := 38) (ty := .int) S X65520 (Nat.le_of_ble_eq_true rfl) rfl lk12_21_10 (fun _ => ⟨_, rfl, Nat.le_of_ble_eq_true rfl, rfl⟩) (fun _ _ _ h => by cases h; exact ⟨rfl, rfl⟩) rfl rfl dX12_skip_160 (fun t65530 H lc M65531 X65532 => ?_)
                            have I65533 := Inv_mu I65521 M65531 (show Rg (kd 131) 4 v65526 from (R_of (lo := 0) (hi := 940) r65529 rfl))
                            have F65534 : Fr [(131, 4), (131, 11), (131, 12), (131, 13), (131, 14)] [331] τ t65530 := Fr_mu F65522 M65531 (by decide)
                            exact r_vret S hr hlk X65532 ⟨I65533, F65534, (by rw [M65531.1]; exact R_of r65529 rfl), (by rw [((M65531.2 131 11 (Or.inr (by decide))).trans ((M65519.2 131 11 (Or.inr (by decide))).trans M65514.1))]; exact R_of r65512 rfl), (by have h1_0 := congrArg Int32.toInt M65531.1; have h2_0 := congrArg Int32.toInt z2; omega), (by have h1_0 := congrArg Int32.toInt M65531.1; have h2_0 := congrArg Int32.toInt z2; have h1_1 := congrArg Int32.toInt ((M65531.2 131 11 (Or.inr (by decide))).trans ((M65519.2 131 11 (Or.inr (by decide))).trans M65514.1)); omega), (MT_sign (A := f223.toInt.toNat) (MB_eq hB (F65534 131 3 (by simp [fz])) (F65534 131 5 (by simp [fz])) (fun j => F65534 132 j (by simp [fz]))) ⟨by omega, by omega, x229, fun _ => by omega⟩ (by omega) (by omega) (by omega) (by omega) (by have q := congrArg Int32.toInt ((M65531.2 131 12 (Or.inr (by decide))).trans ((M65519.2 131 12 (Or.inr (by decide))).trans ((M65514.2 131 12 (Or.inr (by decide))).trans ((M285.2 131 12 (Or.inr (by decide))).trans M277.1)))); omega) (by have q := congrArg Int32.toInt M65531.1; omega) (by have q := congrArg Int32.toInt ((M65531.2 131 11 (Or.inr (by decide))).trans ((M65519.2 131 11 (Or.inr (by decide))).trans M65514.1)); omega) (by have q := congrArg Int32.toInt ((M65531.2 131 14 (Or.inr (by decide))).trans M65519.1); omega))⟩ dX12_skip_163
            ·
              have r65535 : R (-1) (-1) v293 := ⟨by omega, by omega⟩
              have e65536 := PK_out pk298 (by omega)
              refine r_aload_n S dX12_skip_89 rfl (lv_at hl 1 rfl) ?_
              refine r_iconst S dX12_skip_90 (by decide) (fun v65537 z65538 => ?_)
              have r65539 := R_eq z65538
              refine r_put (K := 38) (ty := .int) S X291 (Nat.le_of_ble_eq_true rfl) rfl lk12_157_10 (fun _ => ⟨_, rfl, Nat.le_of_ble_eq_true rfl, rfl⟩) (fun _ _ _ h => by cases h; exact ⟨rfl, rfl⟩) rfl rfl dX12_skip_91 (fun t65540 H lc M65541 X65542 => ?_)
              have I65543 := Inv_mu I287 M65541 (show Rg (kd 131) 11 v65537 from (R_of (lo := 0) (hi := 4) r65539 rfl))
              have F65544 : Fr [(131, 4), (131, 11), (131, 12), (131, 13), (131, 14)] [331] τ t65540 := Fr_mu F288 M65541 (by decide)
              exact r_vret S hr hlk X65542 ⟨I65543, F65544, (by rw [((M65541.2 131 4 (Or.inr (by decide))).trans ((M285.2 131 4 (Or.inr (by decide))).trans ((M277.2 131 4 (Or.inr (by decide))).trans z225)))]; exact R_of r224 rfl), (by rw [M65541.1]; exact R_of r65539 rfl), (by have h1_0 := congrArg Int32.toInt ((M65541.2 131 4 (Or.inr (by decide))).trans ((M285.2 131 4 (Or.inr (by decide))).trans ((M277.2 131 4 (Or.inr (by decide))).trans z225))); have h2_0 := congrArg Int32.toInt z2; omega), (by have h1_0 := congrArg Int32.toInt ((M65541.2 131 4 (Or.inr (by decide))).trans ((M285.2 131 4 (Or.inr (by decide))).trans ((M277.2 131 4 (Or.inr (by decide))).trans z225))); have h2_0 := congrArg Int32.toInt z2; have h1_1 := congrArg Int32.toInt M65541.1; omega), (MT_stop (MB_eq hB (F65544 131 3 (by simp [fz])) (F65544 131 5 (by simp [fz])) (fun j => F65544 132 j (by simp [fz]))) (by omega) (by omega) (fun k h1 h2 => x229 k h1 (by omega)) (by have q := congrArg Int32.toInt ((M65541.2 131 12 (Or.inr (by decide))).trans ((M285.2 131 12 (Or.inr (by decide))).trans M277.1)); omega) (by have q := congrArg Int32.toInt M65541.1; omega))⟩ dX12_skip_94
          ·
            have r65545 : R (0) (939) v7 := ⟨by omega, by omega⟩
            have r65546 : R (1) (940) v4 := ⟨by omega, by omega⟩
            refine r_aload_n S dX12_skip_55 rfl (lv_at hl 0 rfl) ?_
            refine r_geti (K := 38) S X286 (Nat.le_of_ble_eq_true rfl) rfl lk12_21_10 (fun _ => ⟨_, rfl, rfl⟩) ((M285.2 131 4 (Or.inr (by decide))).trans ((M277.2 131 4 (Or.inr (by decide))).trans z225)) dX12_skip_56 ?_
            refine r_aload_n S dX12_skip_59 rfl (lv_at hl 0 rfl) ?_
            refine r_geti (K := 38) S X286 (Nat.le_of_ble_eq_true rfl) rfl lk12_24_10 (fun _ => ⟨_, rfl, rfl⟩) ((M285.2 131 5 (Or.inr (by decide))).trans ((M277.2 131 5 (Or.inr (by decide))).trans z227)) dX12_skip_60 ?_
            refine r_icmp_lt (tgt := 80) S dX12_skip_63 (by decide) (fun c65547 => ?_) (fun c65547 => ?_)
            ·
              have r65548 : R (0) (938) f223 := ⟨by omega, by omega⟩
              have r65549 : R (1) (939) v7 := ⟨by omega, by omega⟩
              refine r_aload_n S dX12_skip_80 rfl (lv_at hl 0 rfl) ?_
              refine r_ki (q_V (As := []) (rest := []) (K := 38) (ci := 10) S X286 (c_X12_peek_x l G t284 I287 ) ck12_147 (Nat.le_of_ble_eq_true rfl) rfl (fun _ => ⟨_, rfl⟩) ⟨_, _, rfl⟩ ⟨Nat.le_of_ble_eq_true rfl, Nat.le_of_ble_eq_true rfl⟩ rfl hl.1 rfl (Nat.le_of_ble_eq_true rfl) dX12_skip_81 ⟨Nat.le_refl 0, Nat.le_refl 0⟩) X286 (fun v65553 t65552 H lc q65550 X65551 => ?_)
              unfold po_X12_peek_x at q65550
              obtain ⟨q65554, q65555, q65556, q65557⟩ := q65550
              rw [q65554] at X65551
              rw [q65554] at q65556
              rw [q65554] at q65557
              have pk65558 : PKf bb nb f223 v65553 := pk_b hB I287 (F288 131 3 (by simp [fz])) (fun j => F288 132 j (by simp [fz])) ((M285.2 131 4 (Or.inr (by decide))).trans ((M277.2 131 4 (Or.inr (by decide))).trans z225)) (by omega) q65557
              refine r_istore_n (lv' := [(1, .int v65553), (0, .ref (G.2.2.2.1 131))]) S dX12_skip_84 rfl hl (by decide) rfl (fun ls hl => ?_)
              refine r_iload_n S dX12_skip_85 rfl (lv_at hl 0 rfl) ?_
              refine r_if_ge (tgt := 95) S dX12_skip_86 (by decide) (fun c65559 => ?_) (fun c65559 => ?_)
              ·
                have r65560 : R (0) (255) v65553 := ⟨by omega, by omega⟩
                have p65561 := q65556 (by omega)
                have r65562 : R (0) (939) f223 := ((M285.2 131 4 (Or.inr (by decide))).trans ((M277.2 131 4 (Or.inr (by decide))).trans z225)) ▸ p65561
                have r65563 : R (0) (938) f223 := ⟨by omega, by omega⟩
                obtain ⟨e65564, e65565⟩ := PK_in pk65558 (by omega)
                obtain ⟨e65566, e65567, e65568⟩ := PK_at pk240 e65564
                obtain ⟨e65569, e65570, e65571⟩ := PK_at pk271 e65564
                refine r_iload_n S dX12_skip_95 rfl (lv_at hl 0 rfl) ?_
                refine r_ki (q_S (As := [.int v65553]) (rest := []) S X65551 (c_X12_isSmall_x l G t284 I287 v65553 (R_of (lo := -2147483648) (hi := 2147483647) r65560 rfl)) ck12_160 ⟨Nat.le_of_ble_eq_true rfl, Nat.le_of_ble_eq_true rfl⟩ rfl hl.1 rfl (Nat.le_of_ble_eq_true rfl) dX12_skip_96 ⟨Nat.le_refl 0, Nat.le_refl 0⟩) X65551 (fun v65575 t65574 H lc q65572 X65573 => ?_)
                unfold po_X12_isSmall_x at q65572
                obtain ⟨q65576, q65577, q65578, q65579⟩ := q65572
                rw [q65576] at X65573
                refine r_if_ne (tgt := 164) S dX12_skip_99 (by decide) (fun c65580 => ?_) (fun c65580 => ?_)
                ·
                  have r65581 : R (1) (1) v65575 := ⟨by omega, by omega⟩
                  have p65582 := q65578 (by omega)
                  have r65583 : R (97) (122) v65553 := ⟨by omega, by omega⟩
                  have p65584 := q65556 (by omega)
                  have r65585 : R (0) (939) f223 := ((M285.2 131 4 (Or.inr (by decide))).trans ((M277.2 131 4 (Or.inr (by decide))).trans z225)) ▸ p65584
                  have r65586 : R (0) (938) f223 := ⟨by omega, by omega⟩
                  refine r_iload_n S dX12_skip_164 rfl (lv_at hl 0 rfl) ?_
                  refine r_ki (q_S (As := [.int v65553]) (rest := []) S X65573 (c_X12_isSmall_x l G t284 I287 v65553 (R_of (lo := -2147483648) (hi := 2147483647) r65583 rfl)) ck12_160 ⟨Nat.le_of_ble_eq_true rfl, Nat.le_of_ble_eq_true rfl⟩ rfl hl.1 rfl (Nat.le_of_ble_eq_true rfl) dX12_skip_165 ⟨Nat.le_refl 0, Nat.le_refl 0⟩) X65573 (fun v65590 t65589 H lc q65587 X65588 => ?_)
                  unfold po_X12_isSmall_x at q65587
                  obtain ⟨q65591, q65592, q65593, q65594⟩ := q65587
                  rw [q65591] at X65588
                  refine r_istore_n (lv' := [(2, .int v65590), (1, .int v65553), (0, .ref (G.2.2.2.1 131))]) S dX12_skip_168 rfl hl (by decide) rfl (fun ls hl => ?_)
                  refine r_iconst S dX12_skip_169 (by decide) (fun v65595 z65596 => ?_)
                  have r65597 := R_eq z65596
                  refine r_istore_n (lv' := [(3, .int v65595), (2, .int v65590), (1, .int v65553), (0, .ref (G.2.2.2.1 131))]) S dX12_skip_170 rfl hl (by decide) rfl (fun ls hl => ?_)
                  have hs65598 : (v65590.toInt = 1 ∧ low (bb f223.toInt.toNat)) ∨ (v65590.toInt = 0 ∧ dig (bb f223.toInt.toNat)) := by omega
                  refine r_aload_n S dX12_skip_171 rfl (lv_at hl 3 rfl) ?_
                  refine lv_lconst S.1.1 S.1.2.1 dX12_skip_172 rfl ?_
                  refine lv_topl (fun j65599 z65600 => ?_)
                  refine r_putJ (K := 38) S X65588 (Nat.le_of_ble_eq_true rfl) rfl lk12_170_10 (fun _ => ⟨_, rfl, Nat.le_of_ble_eq_true rfl, rfl⟩) (fun _ _ _ h => by cases h; exact ⟨rfl, rfl⟩) dX12_skip_173 (fun t65602 H lc M65603 X65601 => ?_)
                  have I65604 := Inv_ml I287 M65603
                  have F65605 : Fr [(131, 4), (131, 11), (131, 12), (131, 13), (131, 14)] [331] τ t65602 := Fr_ml F288 M65603 (by decide)
                  refine r_aload_n S dX12_skip_176 rfl (lv_at hl 3 rfl) ?_
                  refine r_iconst S dX12_skip_177 (by decide) (fun v65606 z65607 => ?_)
                  have r65608 := R_eq z65607
                  refine r_put (K := 38) (ty := .int) S X65601 (Nat.le_of_ble_eq_true rfl) rfl lk12_167_10 (fun _ => ⟨_, rfl, Nat.le_of_ble_eq_true rfl, rfl⟩) (fun _ _ _ h => by cases h; exact ⟨rfl, rfl⟩) rfl rfl dX12_skip_178 (fun t65609 H lc M65610 X65611 => ?_)
                  have I65612 := Inv_mu I65604 M65610 (R_any v65606)
                  have F65613 : Fr [(131, 4), (131, 11), (131, 12), (131, 13), (131, 14)] [331] τ t65609 := Fr_mu F65605 M65610 (by decide)
                  have L97005 : ∀ (n : Nat) (t96989 : Tau) (H : Heap) (lc : List Loc) (ls : Array Slot) (i96987 : Int32) (f96993 : Int32) (f96999 : Int32) (f97002 : Int32), Xd G s H lc t96989 → Inv t96989 → Fr [(131, 4), (131, 11), (131, 12), (131, 13), (131, 14)] [331] τ t96989 → R (0) (1) i96987 → t96989 131 4 = f96993 → R (0) (940) f96993 → t96989 131 3 = v4 → t96989 131 5 = v7 → t96989 131 12 = f223 → t96989 131 13 = f96999 → R (0) (940) f96999 → t96989 131 14 = f97002 → R (-2147483648) (2147483647) f97002 → LM bb (f223).toInt.toNat (f96993).toInt.toNat (v65590).toInt (i96987).toInt (f96999).toInt (qof t96989 131 17).toInt (f97002).toInt → (f96993).toInt ≤ nb → lv_has ls 4 [(0, .ref (G.2.2.2.1 131)), (2, .int v65590), (3, .int i96987)] → (940 - f96993.toInt).toNat < n → W p l e (Rm 1 20) s m ([.ref (G.2.2.2.1 131)] : List Value).toArray below meth c H lc 0 0 (MQ below (va_Qv (po_X12_skip_q τ    bb nb lm pp) (Bs G) G.2.2.2.2) ([.ref (G.2.2.2.1 131)] : List Value).toArray s 0 0 G.2.2.2.2) (F0 m 181 ls []) := by
                    intro n
                    induction n with
                    | zero => intros; omega
                    | succ n ih97008 =>
                      intro t96989 H lc ls i96987 f96993 f96999 f97002 X96992 I96990 F96991 r96988 z96995 r96994 z96996 z96997 z96998 z97001 r97000 z97004 r97003 x97006 x97007 hl hm
                      obtain ⟨e97009, e97010⟩ := LM_b x97006
                      refine r_aload_n S dX12_skip_181 rfl (lv_at hl 0 rfl) ?_
                      refine r_ki (q_V (As := []) (rest := []) (K := 38) (ci := 10) S X96992 (c_X12_peek_x l G t96989 I96990 ) ck12_147 (Nat.le_of_ble_eq_true rfl) rfl (fun _ => ⟨_, rfl⟩) ⟨_, _, rfl⟩ ⟨Nat.le_of_ble_eq_true rfl, Nat.le_of_ble_eq_true rfl⟩ rfl hl.1 rfl (Nat.le_of_ble_eq_true rfl) dX12_skip_182 ⟨Nat.le_refl 0, Nat.le_refl 0⟩) X96992 (fun v97014 t97013 H lc q97011 X97012 => ?_)
                      unfold po_X12_peek_x at q97011
                      obtain ⟨q97015, q97016, q97017, q97018⟩ := q97011
                      rw [q97015] at X97012
                      rw [q97015] at q97017
                      rw [q97015] at q97018
                      have pk97019 : PKf bb nb f96993 v97014 := pk_b hB I96990 (F96991 131 3 (by simp [fz])) (fun j => F96991 132 j (by simp [fz])) z96995 (by omega) q97018
                      refine r_ki (q_S (As := [.int v97014]) (rest := []) S X97012 (c_X12_isSmall_x l G t96989 I96990 v97014 (R_of (lo := -2147483648) (hi := 2147483647) q97016 rfl)) ck12_160 ⟨Nat.le_of_ble_eq_true rfl, Nat.le_of_ble_eq_true rfl⟩ rfl hl.1 rfl (Nat.le_of_ble_eq_true rfl) dX12_skip_185 ⟨Nat.le_refl 0, Nat.le_refl 0⟩) X97012 (fun v97023 t97022 H lc q97020 X97021 => ?_)
                      unfold po_X12_isSmall_x at q97020
                      obtain ⟨q97024, q97025, q97026, q97027⟩ := q97020
                      rw [q97024] at X97021
                      refine r_if_ne (tgt := 201) S dX12_skip_188 (by decide) (fun c97028 => ?_) (fun c97028 => ?_)
                      ·
                        have r97029 : R (1) (1) v97023 := ⟨by omega, by omega⟩
                        have p97030 := q97026 (by omega)
                        have r97031 : R (97) (122) v97014 := ⟨by omega, by omega⟩
                        have p97032 := q97017 (by omega)
                        have r97033 : R (0) (939) f96993 := z96995 ▸ p97032
                        have r97034 : R (0) (939) f96993 := ⟨by omega, by omega⟩
                        obtain ⟨e97035, e97036⟩ := PK_in pk97019 (by omega)
                        obtain ⟨e97037, e97038, e97039⟩ := PK_at pk97019 e97035
                        refine r_iload_n S dX12_skip_201 rfl (lv_at hl 2 rfl) ?_
                        refine r_if_eq (tgt := 220) S dX12_skip_202 (by decide) (fun c97040 => ?_) (fun c97040 => ?_)
                        ·
                          have r97041 : R (0) (0) i96987 := ⟨by omega, by omega⟩
                          refine r_iconst S dX12_skip_220 (by decide) (fun v97042 z97043 => ?_)
                          have r97044 := R_eq z97043
                          refine r_istore_n (lv' := [(3, .int v97042), (0, .ref (G.2.2.2.1 131)), (2, .int v65590)]) S dX12_skip_221 rfl hl (by decide) rfl (fun ls hl => ?_)
                          refine r_aload_n S dX12_skip_222 rfl (lv_at hl 1 rfl) ?_
                          refine r_geti (K := 38) S X97021 (Nat.le_of_ble_eq_true rfl) rfl lk12_154_10 (fun _ => ⟨_, rfl, rfl⟩) z97001 dX12_skip_223 ?_
                          refine r_bipush S dX12_skip_226 (by decide) (fun v97045 z97046 => ?_)
                          have r97047 := R_eq z97046
                          refine r_icmp_ge (tgt := 248) S dX12_skip_228 (by decide) (fun c97048 => ?_) (fun c97048 => ?_)
                          ·
                            have r97049 : R (7) (940) f96999 := ⟨by omega, by omega⟩
                            refine r_aload_n S dX12_skip_248 rfl (lv_at hl 1 rfl) ?_
                            refine r_geti (K := 38) S X97021 (Nat.le_of_ble_eq_true rfl) rfl lk12_154_10 (fun _ => ⟨_, rfl, rfl⟩) z97001 dX12_skip_249 ?_
                            refine r_iconst S dX12_skip_252 (by decide) (fun v97050 z97051 => ?_)
                            have r97052 := R_eq z97051
                            refine r_icmp_ge (tgt := 275) S dX12_skip_253 (by decide) (fun c97053 => ?_) (fun c97053 => ?_)
                            ·
                              refine r_aload_n S dX12_skip_275 rfl (lv_at hl 1 rfl) ?_
                              refine r_dup S dX12_skip_276 rfl ?_
                              refine r_geti (K := 38) S X97021 (Nat.le_of_ble_eq_true rfl) rfl lk12_154_10 (fun _ => ⟨_, rfl, rfl⟩) z97001 dX12_skip_277 ?_
                              refine r_iconst S dX12_skip_280 (by decide) (fun v97054 z97055 => ?_)
                              have r97056 := R_eq z97055
                              refine r_iadd S dX12_skip_281 (fun v97057 z97058 => ?_)
                              obtain ⟨e97059, r97060⟩ := i_add (lo := 8) (hi := 941) z97058 r97049 r97056 rfl
                              refine r_put (K := 38) (ty := .int) S X97021 (Nat.le_of_ble_eq_true rfl) rfl lk12_154_10 (fun _ => ⟨_, rfl, Nat.le_of_ble_eq_true rfl, rfl⟩) (fun _ _ _ h => by cases h; exact ⟨rfl, rfl⟩) rfl rfl dX12_skip_282 (fun t97061 H lc M97062 X97063 => ?_)
                              have I97064 := Inv_mu I96990 M97062 (show Rg (kd 131) 13 v97057 from (show R (0) (940) v97057 from ⟨by omega, by omega⟩))
                              have F97065 : Fr [(131, 4), (131, 11), (131, 12), (131, 13), (131, 14)] [331] τ t97061 := Fr_mu F96991 M97062 (by decide)
                              have r97066 : R (8) (940) v97057 := ⟨by omega, by omega⟩
                              refine r_aload_n S dX12_skip_285 rfl (lv_at hl 1 rfl) ?_
                              refine r_dup S dX12_skip_286 rfl ?_
                              refine r_geti (K := 38) S X97063 (Nat.le_of_ble_eq_true rfl) rfl lk12_21_10 (fun _ => ⟨_, rfl, rfl⟩) ((M97062.2 131 4 (Or.inr (by decide))).trans z96995) dX12_skip_287 ?_
                              refine r_iconst S dX12_skip_290 (by decide) (fun v97067 z97068 => ?_)
                              have r97069 := R_eq z97068
                              refine r_iadd S dX12_skip_291 (fun v97070 z97071 => ?_)
                              obtain ⟨e97072, r97073⟩ := i_add (lo := 1) (hi := 940) z97071 r97034 r97069 rfl
                              refine r_put (K := 38) (ty := .int) S X97063 (Nat.le_of_ble_eq_true rfl) rfl lk12_21_10 (fun _ => ⟨_, rfl, Nat.le_of_ble_eq_true rfl, rfl⟩) (fun _ _ _ h => by cases h; exact ⟨rfl, rfl⟩) rfl rfl dX12_skip_292 (fun t97074 H lc M97075 X97076 => ?_)
                              have I97077 := Inv_mu I97064 M97075 (show Rg (kd 131) 4 v97070 from (R_of (lo := 0) (hi := 940) r97073 rfl))
                              have F97078 : Fr [(131, 4), (131, 11), (131, 12), (131, 13), (131, 14)] [331] τ t97074 := Fr_mu F97065 M97075 (by decide)
                              refine r_goto (tgt := 181) S dX12_skip_295 (by decide) ?_
                              exact ih97008 t97074 _ _ _ v97042 v97070 v97057 f97002 X97076 I97077 F97078 (R_of r97044 rfl) M97075.1 ⟨by omega, by omega⟩ ((M97075.2 131 3 (Or.inr (by decide))).trans ((M97062.2 131 3 (Or.inr (by decide))).trans z96996)) ((M97075.2 131 5 (Or.inr (by decide))).trans ((M97062.2 131 5 (Or.inr (by decide))).trans z96997)) ((M97075.2 131 12 (Or.inr (by decide))).trans ((M97062.2 131 12 (Or.inr (by decide))).trans z96998)) ((M97075.2 131 13 (Or.inr (by decide))).trans M97062.1) ⟨by omega, by omega⟩ ((M97075.2 131 14 (Or.inr (by decide))).trans ((M97062.2 131 14 (Or.inr (by decide))).trans z97004)) ⟨by omega, by omega⟩ (by rw [(qof_of (k := 131) (fun j => ((M97075.2 331 j (Or.inl (by decide))).trans ((M97062.2 331 j (Or.inl (by decide))).trans rfl))) 17)]; exact LM_upq (i := f96993) (sp := f96999) (al := i96987) x97006 hs65598 (by omega) (by omega) (fun _ _ h => by exfalso; omega) (fun _ _ h => by exfalso; omega) (by omega) (by omega) (by omega)) (by omega) (lv_sub hl [1, 2, 0] rfl) (by omega)
                            ·
                              exfalso; omega
                          ·
                            have r97079 : R (0) (6) f96999 := ⟨by omega, by omega⟩
                            refine r_aload_n S dX12_skip_231 rfl (lv_at hl 1 rfl) ?_
                            refine r_aload_n S dX12_skip_232 rfl (lv_at hl 1 rfl) ?_
                            refine r_getJ (K := 38) S X97021 (Nat.le_of_ble_eq_true rfl) rfl lk12_170_10 (fun _ => ⟨_, rfl, rfl⟩) dX12_skip_233 (fun j97080 z97081 => ?_)
                            refine r_bipush S dX12_skip_236 (by decide) (fun v97082 z97083 => ?_)
                            have r97084 := R_eq z97083
                            refine lv_lshl S.1.1 S.1.2.1 dX12_skip_238 rfl ?_
                            refine lv_topl (fun j97085 z97086 => ?_)
                            refine r_aload_n S dX12_skip_239 rfl (lv_at hl 1 rfl) ?_
                            refine r_ki (q_V (As := []) (rest := [.long j97085, .ref (G.2.2.2.1 131)]) (K := 38) (ci := 10) S X97021 (c_X12_peek_x l G t96989 I96990 ) ck12_147 (Nat.le_of_ble_eq_true rfl) rfl (fun _ => ⟨_, rfl⟩) ⟨_, _, rfl⟩ ⟨Nat.le_of_ble_eq_true rfl, Nat.le_of_ble_eq_true rfl⟩ rfl hl.1 rfl (Nat.le_of_ble_eq_true rfl) dX12_skip_240 ⟨Nat.le_refl 0, Nat.le_refl 0⟩) X97021 (fun v97090 t97089 H lc q97087 X97088 => ?_)
                            unfold po_X12_peek_x at q97087
                            obtain ⟨q97091, q97092, q97093, q97094⟩ := q97087
                            rw [q97091] at X97088
                            rw [q97091] at q97093
                            rw [q97091] at q97094
                            have pk97095 : PKf bb nb f96993 v97090 := pk_b hB I96990 (F96991 131 3 (by simp [fz])) (fun j => F96991 132 j (by simp [fz])) z96995 (by omega) q97094
                            obtain ⟨e97096, e97097, e97098⟩ := PK_at pk97095 (by omega)
                            refine lv_i2l S.1.1 S.1.2.1 dX12_skip_243 rfl ?_
                            refine lv_topl (fun j97099 z97100 => ?_)
                            refine lv_lor S.1.1 S.1.2.1 dX12_skip_244 ?_
                            refine lv_topl (fun j97101 z97102 => ?_)
                            refine r_putJ (K := 38) S X97088 (Nat.le_of_ble_eq_true rfl) rfl lk12_170_10 (fun _ => ⟨_, rfl, Nat.le_of_ble_eq_true rfl, rfl⟩) (fun _ _ _ h => by cases h; exact ⟨rfl, rfl⟩) dX12_skip_245 (fun t97104 H lc M97105 X97103 => ?_)
                            have I97106 := Inv_ml I96990 M97105
                            have F97107 : Fr [(131, 4), (131, 11), (131, 12), (131, 13), (131, 14)] [331] τ t97104 := Fr_ml F96991 M97105 (by decide)
                            refine r_aload_n S dX12_skip_248 rfl (lv_at hl 1 rfl) ?_
                            refine r_geti (K := 38) S X97103 (Nat.le_of_ble_eq_true rfl) rfl lk12_154_10 (fun _ => ⟨_, rfl, rfl⟩) ((M97105.1 131 (by decide) 13).trans z97001) dX12_skip_249 ?_
                            refine r_iconst S dX12_skip_252 (by decide) (fun v97108 z97109 => ?_)
                            have r97110 := R_eq z97109
                            refine r_icmp_ge (tgt := 275) S dX12_skip_253 (by decide) (fun c97111 => ?_) (fun c97111 => ?_)
                            ·
                              have r97112 : R (2) (6) f96999 := ⟨by omega, by omega⟩
                              refine r_aload_n S dX12_skip_275 rfl (lv_at hl 1 rfl) ?_
                              refine r_dup S dX12_skip_276 rfl ?_
                              refine r_geti (K := 38) S X97103 (Nat.le_of_ble_eq_true rfl) rfl lk12_154_10 (fun _ => ⟨_, rfl, rfl⟩) ((M97105.1 131 (by decide) 13).trans z97001) dX12_skip_277 ?_
                              refine r_iconst S dX12_skip_280 (by decide) (fun v97113 z97114 => ?_)
                              have r97115 := R_eq z97114
                              refine r_iadd S dX12_skip_281 (fun v97116 z97117 => ?_)
                              obtain ⟨e97118, r97119⟩ := i_add (lo := 3) (hi := 7) z97117 r97112 r97115 rfl
                              refine r_put (K := 38) (ty := .int) S X97103 (Nat.le_of_ble_eq_true rfl) rfl lk12_154_10 (fun _ => ⟨_, rfl, Nat.le_of_ble_eq_true rfl, rfl⟩) (fun _ _ _ h => by cases h; exact ⟨rfl, rfl⟩) rfl rfl dX12_skip_282 (fun t97120 H lc M97121 X97122 => ?_)
                              have I97123 := Inv_mu I97106 M97121 (show Rg (kd 131) 13 v97116 from (R_of (lo := 0) (hi := 940) r97119 rfl))
                              have F97124 : Fr [(131, 4), (131, 11), (131, 12), (131, 13), (131, 14)] [331] τ t97120 := Fr_mu F97107 M97121 (by decide)
                              refine r_aload_n S dX12_skip_285 rfl (lv_at hl 1 rfl) ?_
                              refine r_dup S dX12_skip_286 rfl ?_
                              refine r_geti (K := 38) S X97122 (Nat.le_of_ble_eq_true rfl) rfl lk12_21_10 (fun _ => ⟨_, rfl, rfl⟩) ((M97121.2 131 4 (Or.inr (by decide))).trans ((M97105.1 131 (by decide) 4).trans z96995)) dX12_skip_287 ?_
                              refine r_iconst S dX12_skip_290 (by decide) (fun v97125 z97126 => ?_)
                              have r97127 := R_eq z97126
                              refine r_iadd S dX12_skip_291 (fun v97128 z97129 => ?_)
                              obtain ⟨e97130, r97131⟩ := i_add (lo := 1) (hi := 940) z97129 r97034 r97127 rfl
                              refine r_put (K := 38) (ty := .int) S X97122 (Nat.le_of_ble_eq_true rfl) rfl lk12_21_10 (fun _ => ⟨_, rfl, Nat.le_of_ble_eq_true rfl, rfl⟩) (fun _ _ _ h => by cases h; exact ⟨rfl, rfl⟩) rfl rfl dX12_skip_292 (fun t97132 H lc M97133 X97134 => ?_)
                              have I97135 := Inv_mu I97123 M97133 (show Rg (kd 131) 4 v97128 from (R_of (lo := 0) (hi := 940) r97131 rfl))
                              have F97136 : Fr [(131, 4), (131, 11), (131, 12), (131, 13), (131, 14)] [331] τ t97132 := Fr_mu F97124 M97133 (by decide)
                              refine r_goto (tgt := 181) S dX12_skip_295 (by decide) ?_
                              exact ih97008 t97132 _ _ _ v97042 v97128 v97116 f97002 X97134 I97135 F97136 (R_of r97044 rfl) M97133.1 ⟨by omega, by omega⟩ ((M97133.2 131 3 (Or.inr (by decide))).trans ((M97121.2 131 3 (Or.inr (by decide))).trans ((M97105.1 131 (by decide) 3).trans z96996))) ((M97133.2 131 5 (Or.inr (by decide))).trans ((M97121.2 131 5 (Or.inr (by decide))).trans ((M97105.1 131 (by decide) 5).trans z96997))) ((M97133.2 131 12 (Or.inr (by decide))).trans ((M97121.2 131 12 (Or.inr (by decide))).trans ((M97105.1 131 (by decide) 12).trans z96998))) ((M97133.2 131 13 (Or.inr (by decide))).trans M97121.1) ⟨by omega, by omega⟩ ((M97133.2 131 14 (Or.inr (by decide))).trans ((M97121.2 131 14 (Or.inr (by decide))).trans ((M97105.1 131 (by decide) 14).trans z97004))) ⟨by omega, by omega⟩ (LM_upq (i := f96993) (sp := f96999) (al := i96987) x97006 hs65598 (by omega) (by omega) (LM_hw (x := v97090) (y := v97082) x97006 z97081 (by omega) (by rw [z97102, z97086, z97100]) ((qof_of (k := 131) (fun j => ((M97133.2 331 j (Or.inl (by decide))).trans ((M97121.2 331 j (Or.inl (by decide))).trans rfl))) 17).trans (Ml_upd M97105)) (by omega) (by omega)) (fun _ _ h => by exfalso; omega) (by omega) (by omega) (by omega)) (by omega) (lv_sub hl [1, 2, 0] rfl) (by omega)
                            ·
                              have r97137 : R (0) (1) f96999 := ⟨by omega, by omega⟩
                              refine r_aload_n S dX12_skip_256 rfl (lv_at hl 1 rfl) ?_
                              refine r_bipush S dX12_skip_257 (by decide) (fun v97138 z97139 => ?_)
                              have r97140 := R_eq z97139
                              refine r_aload_n S dX12_skip_259 rfl (lv_at hl 1 rfl) ?_
                              refine r_geti (K := 38) S X97103 (Nat.le_of_ble_eq_true rfl) rfl lk12_167_10 (fun _ => ⟨_, rfl, rfl⟩) ((M97105.1 131 (by decide) 14).trans z97004) dX12_skip_260 ?_
                              refine r_imul S dX12_skip_263 (fun v97141 z97142 => ?_)
                              have r97143 := R_any v97141
                              refine r_aload_n S dX12_skip_264 rfl (lv_at hl 1 rfl) ?_
                              refine r_ki (q_V (As := []) (rest := [.int v97141, .ref (G.2.2.2.1 131)]) (K := 38) (ci := 10) S X97103 (c_X12_peek_x l G t97104 I97106 ) ck12_147 (Nat.le_of_ble_eq_true rfl) rfl (fun _ => ⟨_, rfl⟩) ⟨_, _, rfl⟩ ⟨Nat.le_of_ble_eq_true rfl, Nat.le_of_ble_eq_true rfl⟩ rfl hl.1 rfl (Nat.le_of_ble_eq_true rfl) dX12_skip_265 ⟨Nat.le_refl 0, Nat.le_refl 0⟩) X97103 (fun v97147 t97146 H lc q97144 X97145 => ?_)
                              unfold po_X12_peek_x at q97144
                              obtain ⟨q97148, q97149, q97150, q97151⟩ := q97144
                              rw [q97148] at X97145
                              rw [q97148] at q97150
                              rw [q97148] at q97151
                              have pk97152 : PKf bb nb f96993 v97147 := pk_b hB I97106 (F97107 131 3 (by simp [fz])) (fun j => F97107 132 j (by simp [fz])) ((M97105.1 131 (by decide) 4).trans z96995) (by omega) q97151
                              obtain ⟨e97153, e97154, e97155⟩ := PK_at pk97152 (by omega)
                              refine r_iadd S dX12_skip_268 (fun v97156 z97157 => ?_)
                              have r97158 := R_any v97156
                              refine r_bipush S dX12_skip_269 (by decide) (fun v97159 z97160 => ?_)
                              have r97161 := R_eq z97160
                              refine r_isub S dX12_skip_271 (fun v97162 z97163 => ?_)
                              have r97164 := R_any v97162
                              refine r_put (K := 38) (ty := .int) S X97145 (Nat.le_of_ble_eq_true rfl) rfl lk12_167_10 (fun _ => ⟨_, rfl, Nat.le_of_ble_eq_true rfl, rfl⟩) (fun _ _ _ h => by cases h; exact ⟨rfl, rfl⟩) rfl rfl dX12_skip_272 (fun t97165 H lc M97166 X97167 => ?_)
                              have I97168 := Inv_mu I97106 M97166 (R_any v97162)
                              have F97169 : Fr [(131, 4), (131, 11), (131, 12), (131, 13), (131, 14)] [331] τ t97165 := Fr_mu F97107 M97166 (by decide)
                              refine r_aload_n S dX12_skip_275 rfl (lv_at hl 1 rfl) ?_
                              refine r_dup S dX12_skip_276 rfl ?_
                              refine r_geti (K := 38) S X97167 (Nat.le_of_ble_eq_true rfl) rfl lk12_154_10 (fun _ => ⟨_, rfl, rfl⟩) ((M97166.2 131 13 (Or.inr (by decide))).trans ((M97105.1 131 (by decide) 13).trans z97001)) dX12_skip_277 ?_
                              refine r_iconst S dX12_skip_280 (by decide) (fun v97170 z97171 => ?_)
                              have r97172 := R_eq z97171
                              refine r_iadd S dX12_skip_281 (fun v97173 z97174 => ?_)
                              obtain ⟨e97175, r97176⟩ := i_add (lo := 1) (hi := 2) z97174 r97137 r97172 rfl
                              refine r_put (K := 38) (ty := .int) S X97167 (Nat.le_of_ble_eq_true rfl) rfl lk12_154_10 (fun _ => ⟨_, rfl, Nat.le_of_ble_eq_true rfl, rfl⟩) (fun _ _ _ h => by cases h; exact ⟨rfl, rfl⟩) rfl rfl dX12_skip_282 (fun t97177 H lc M97178 X97179 => ?_)
                              have I97180 := Inv_mu I97168 M97178 (show Rg (kd 131) 13 v97173 from (R_of (lo := 0) (hi := 940) r97176 rfl))
                              have F97181 : Fr [(131, 4), (131, 11), (131, 12), (131, 13), (131, 14)] [331] τ t97177 := Fr_mu F97169 M97178 (by decide)
                              refine r_aload_n S dX12_skip_285 rfl (lv_at hl 1 rfl) ?_
                              refine r_dup S dX12_skip_286 rfl ?_
                              refine r_geti (K := 38) S X97179 (Nat.le_of_ble_eq_true rfl) rfl lk12_21_10 (fun _ => ⟨_, rfl, rfl⟩) ((M97178.2 131 4 (Or.inr (by decide))).trans ((M97166.2 131 4 (Or.inr (by decide))).trans ((M97105.1 131 (by decide) 4).trans z96995))) dX12_skip_287 ?_
                              refine r_iconst S dX12_skip_290 (by decide) (fun v97182 z97183 => ?_)
                              have r97184 := R_eq z97183
                              refine r_iadd S dX12_skip_291 (fun v97185 z97186 => ?_)
                              obtain ⟨e97187, r97188⟩ := i_add (lo := 1) (hi := 940) z97186 r97034 r97184 rfl
                              refine r_put (K := 38) (ty := .int) S X97179 (Nat.le_of_ble_eq_true rfl) rfl lk12_21_10 (fun _ => ⟨_, rfl, Nat.le_of_ble_eq_true rfl, rfl⟩) (fun _ _ _ h => by cases h; exact ⟨rfl, rfl⟩) rfl rfl dX12_skip_292 (fun t97189 H lc M97190 X97191 => ?_)
                              have I97192 := Inv_mu I97180 M97190 (show Rg (kd 131) 4 v97185 from (R_of (lo := 0) (hi := 940) r97188 rfl))
                              have F97193 : Fr [(131, 4), (131, 11), (131, 12), (131, 13), (131, 14)] [331] τ t97189 := Fr_mu F97181 M97190 (by decide)
                              refine r_goto (tgt := 181) S dX12_skip_295 (by decide) ?_
                              exact ih97008 t97189 _ _ _ v97042 v97185 v97173 v97162 X97191 I97192 F97193 (R_of r97044 rfl) M97190.1 ⟨by omega, by omega⟩ ((M97190.2 131 3 (Or.inr (by decide))).trans ((M97178.2 131 3 (Or.inr (by decide))).trans ((M97166.2 131 3 (Or.inr (by decide))).trans ((M97105.1 131 (by decide) 3).trans z96996)))) ((M97190.2 131 5 (Or.inr (by decide))).trans ((M97178.2 131 5 (Or.inr (by decide))).trans ((M97166.2 131 5 (Or.inr (by decide))).trans ((M97105.1 131 (by decide) 5).trans z96997)))) ((M97190.2 131 12 (Or.inr (by decide))).trans ((M97178.2 131 12 (Or.inr (by decide))).trans ((M97166.2 131 12 (Or.inr (by decide))).trans ((M97105.1 131 (by decide) 12).trans z96998)))) ((M97190.2 131 13 (Or.inr (by decide))).trans M97178.1) ⟨by omega, by omega⟩ ((M97190.2 131 14 (Or.inr (by decide))).trans ((M97178.2 131 14 (Or.inr (by decide))).trans M97166.1)) ⟨by omega, by omega⟩ (LM_upq (i := f96993) (sp := f96999) (al := i96987) x97006 hs65598 (by omega) (by omega) (LM_hw (x := v97090) (y := v97082) x97006 z97081 (by omega) (by rw [z97102, z97086, z97100]) ((qof_of (k := 131) (fun j => ((M97190.2 331 j (Or.inl (by decide))).trans ((M97178.2 331 j (Or.inl (by decide))).trans ((M97166.2 331 j (Or.inl (by decide))).trans rfl)))) 17).trans (Ml_upd M97105)) (by omega) (by omega)) (LM_hn (c := v97138) (x := v97147) (d := v97159) x97006 (by omega) z97142 z97157 (by omega) z97163 (by omega) (by omega)) (by omega) (by omega) (by omega)) (by omega) (lv_sub hl [1, 2, 0] rfl) (by omega)
                        ·
                          have r97194 : R (1) (1) i96987 := ⟨by omega, by omega⟩
                          refine r_aload_n S dX12_skip_205 rfl (lv_at hl 0 rfl) ?_
                          refine r_ki (q_V (As := []) (rest := []) (K := 38) (ci := 10) S X97021 (c_X12_peek_x l G t96989 I96990 ) ck12_147 (Nat.le_of_ble_eq_true rfl) rfl (fun _ => ⟨_, rfl⟩) ⟨_, _, rfl⟩ ⟨Nat.le_of_ble_eq_true rfl, Nat.le_of_ble_eq_true rfl⟩ rfl hl.1 rfl (Nat.le_of_ble_eq_true rfl) dX12_skip_206 ⟨Nat.le_refl 0, Nat.le_refl 0⟩) X97021 (fun v97198 t97197 H lc q97195 X97196 => ?_)
                          unfold po_X12_peek_x at q97195
                          obtain ⟨q97199, q97200, q97201, q97202⟩ := q97195
                          rw [q97199] at X97196
                          rw [q97199] at q97201
                          rw [q97199] at q97202
                          have pk97203 : PKf bb nb f96993 v97198 := pk_b hB I96990 (F96991 131 3 (by simp [fz])) (fun j => F96991 132 j (by simp [fz])) z96995 (by omega) q97202
                          obtain ⟨e97204, e97205, e97206⟩ := PK_at pk97203 (by omega)
                          refine r_ki (q_S (As := [.int v97198]) (rest := []) S X97196 (c_X12_isSmall_x l G t96989 I96990 v97198 (R_of (lo := -2147483648) (hi := 2147483647) q97200 rfl)) ck12_160 ⟨Nat.le_of_ble_eq_true rfl, Nat.le_of_ble_eq_true rfl⟩ rfl hl.1 rfl (Nat.le_of_ble_eq_true rfl) dX12_skip_209 ⟨Nat.le_refl 0, Nat.le_refl 0⟩) X97196 (fun v97210 t97209 H lc q97207 X97208 => ?_)
                          unfold po_X12_isSmall_x at q97207
                          obtain ⟨q97211, q97212, q97213, q97214⟩ := q97207
                          rw [q97211] at X97208
                          refine r_iload_n S dX12_skip_212 rfl (lv_at hl 1 rfl) ?_
                          refine r_icmp_ne (tgt := 220) S dX12_skip_213 (by decide) (fun c97215 => ?_) (fun c97215 => ?_)
                          ·
                            refine r_iconst S dX12_skip_220 (by decide) (fun v97216 z97217 => ?_)
                            have r97218 := R_eq z97217
                            refine r_istore_n (lv' := [(3, .int v97216), (0, .ref (G.2.2.2.1 131)), (2, .int v65590)]) S dX12_skip_221 rfl hl (by decide) rfl (fun ls hl => ?_)
                            refine r_aload_n S dX12_skip_222 rfl (lv_at hl 1 rfl) ?_
                            refine r_geti (K := 38) S X97208 (Nat.le_of_ble_eq_true rfl) rfl lk12_154_10 (fun _ => ⟨_, rfl, rfl⟩) z97001 dX12_skip_223 ?_
                            refine r_bipush S dX12_skip_226 (by decide) (fun v97219 z97220 => ?_)
                            have r97221 := R_eq z97220
                            refine r_icmp_ge (tgt := 248) S dX12_skip_228 (by decide) (fun c97222 => ?_) (fun c97222 => ?_)
                            ·
                              have r97223 : R (7) (940) f96999 := ⟨by omega, by omega⟩
                              refine r_aload_n S dX12_skip_248 rfl (lv_at hl 1 rfl) ?_
                              refine r_geti (K := 38) S X97208 (Nat.le_of_ble_eq_true rfl) rfl lk12_154_10 (fun _ => ⟨_, rfl, rfl⟩) z97001 dX12_skip_249 ?_
                              refine r_iconst S dX12_skip_252 (by decide) (fun v97224 z97225 => ?_)
                              have r97226 := R_eq z97225
                              refine r_icmp_ge (tgt := 275) S dX12_skip_253 (by decide) (fun c97227 => ?_) (fun c97227 => ?_)
                              ·
                                refine r_aload_n S dX12_skip_275 rfl (lv_at hl 1 rfl) ?_
                                refine r_dup S dX12_skip_276 rfl ?_
                                refine r_geti (K := 38) S X97208 (Nat.le_of_ble_eq_true rfl) rfl lk12_154_10 (fun _ => ⟨_, rfl, rfl⟩) z97001 dX12_skip_277 ?_
                                refine r_iconst S dX12_skip_280 (by decide) (fun v97228 z97229 => ?_)
                                have r97230 := R_eq z97229
                                refine r_iadd S dX12_skip_281 (fun v97231 z97232 => ?_)
                                obtain ⟨e97233, r97234⟩ := i_add (lo := 8) (hi := 941) z97232 r97223 r97230 rfl
                                refine r_put (K := 38) (ty := .int) S X97208 (Nat.le_of_ble_eq_true rfl) rfl lk12_154_10 (fun _ => ⟨_, rfl, Nat.le_of_ble_eq_true rfl, rfl⟩) (fun _ _ _ h => by cases h; exact ⟨rfl, rfl⟩) rfl rfl dX12_skip_282 (fun t97235 H lc M97236 X97237 => ?_)
                                have I97238 := Inv_mu I96990 M97236 (show Rg (kd 131) 13 v97231 from (show R (0) (940) v97231 from ⟨by omega, by omega⟩))
                                have F97239 : Fr [(131, 4), (131, 11), (131, 12), (131, 13), (131, 14)] [331] τ t97235 := Fr_mu F96991 M97236 (by decide)
                                have r97240 : R (8) (940) v97231 := ⟨by omega, by omega⟩
                                refine r_aload_n S dX12_skip_285 rfl (lv_at hl 1 rfl) ?_
                                refine r_dup S dX12_skip_286 rfl ?_
                                refine r_geti (K := 38) S X97237 (Nat.le_of_ble_eq_true rfl) rfl lk12_21_10 (fun _ => ⟨_, rfl, rfl⟩) ((M97236.2 131 4 (Or.inr (by decide))).trans z96995) dX12_skip_287 ?_
                                refine r_iconst S dX12_skip_290 (by decide) (fun v97241 z97242 => ?_)
                                have r97243 := R_eq z97242
                                refine r_iadd S dX12_skip_291 (fun v97244 z97245 => ?_)
                                obtain ⟨e97246, r97247⟩ := i_add (lo := 1) (hi := 940) z97245 r97034 r97243 rfl
                                refine r_put (K := 38) (ty := .int) S X97237 (Nat.le_of_ble_eq_true rfl) rfl lk12_21_10 (fun _ => ⟨_, rfl, Nat.le_of_ble_eq_true rfl, rfl⟩) (fun _ _ _ h => by cases h; exact ⟨rfl, rfl⟩) rfl rfl dX12_skip_292 (fun t97248 H lc M97249 X97250 => ?_)
                                have I97251 := Inv_mu I97238 M97249 (show Rg (kd 131) 4 v97244 from (R_of (lo := 0) (hi := 940) r97247 rfl))
                                have F97252 : Fr [(131, 4), (131, 11), (131, 12), (131, 13), (131, 14)] [331] τ t97248 := Fr_mu F97239 M97249 (by decide)
                                refine r_goto (tgt := 181) S dX12_skip_295 (by decide) ?_
                                exact ih97008 t97248 _ _ _ v97216 v97244 v97231 f97002 X97250 I97251 F97252 (R_of r97218 rfl) M97249.1 ⟨by omega, by omega⟩ ((M97249.2 131 3 (Or.inr (by decide))).trans ((M97236.2 131 3 (Or.inr (by decide))).trans z96996)) ((M97249.2 131 5 (Or.inr (by decide))).trans ((M97236.2 131 5 (Or.inr (by decide))).trans z96997)) ((M97249.2 131 12 (Or.inr (by decide))).trans ((M97236.2 131 12 (Or.inr (by decide))).trans z96998)) ((M97249.2 131 13 (Or.inr (by decide))).trans M97236.1) ⟨by omega, by omega⟩ ((M97249.2 131 14 (Or.inr (by decide))).trans ((M97236.2 131 14 (Or.inr (by decide))).trans z97004)) ⟨by omega, by omega⟩ (by rw [(qof_of (k := 131) (fun j => ((M97249.2 331 j (Or.inl (by decide))).trans ((M97236.2 331 j (Or.inl (by decide))).trans rfl))) 17)]; exact LM_upq (i := f96993) (sp := f96999) (al := i96987) x97006 hs65598 (by omega) (by omega) (fun _ _ h => by exfalso; omega) (fun _ _ h => by exfalso; omega) (by omega) (by omega) (by omega)) (by omega) (lv_sub hl [1, 2, 0] rfl) (by omega)
                              ·
                                exfalso; omega
                            ·
                              have r97253 : R (0) (6) f96999 := ⟨by omega, by omega⟩
                              refine r_aload_n S dX12_skip_231 rfl (lv_at hl 1 rfl) ?_
                              refine r_aload_n S dX12_skip_232 rfl (lv_at hl 1 rfl) ?_
                              refine r_getJ (K := 38) S X97208 (Nat.le_of_ble_eq_true rfl) rfl lk12_170_10 (fun _ => ⟨_, rfl, rfl⟩) dX12_skip_233 (fun j97254 z97255 => ?_)
                              refine r_bipush S dX12_skip_236 (by decide) (fun v97256 z97257 => ?_)
                              have r97258 := R_eq z97257
                              refine lv_lshl S.1.1 S.1.2.1 dX12_skip_238 rfl ?_
                              refine lv_topl (fun j97259 z97260 => ?_)
                              refine r_aload_n S dX12_skip_239 rfl (lv_at hl 1 rfl) ?_
                              refine r_ki (q_V (As := []) (rest := [.long j97259, .ref (G.2.2.2.1 131)]) (K := 38) (ci := 10) S X97208 (c_X12_peek_x l G t96989 I96990 ) ck12_147 (Nat.le_of_ble_eq_true rfl) rfl (fun _ => ⟨_, rfl⟩) ⟨_, _, rfl⟩ ⟨Nat.le_of_ble_eq_true rfl, Nat.le_of_ble_eq_true rfl⟩ rfl hl.1 rfl (Nat.le_of_ble_eq_true rfl) dX12_skip_240 ⟨Nat.le_refl 0, Nat.le_refl 0⟩) X97208 (fun v97264 t97263 H lc q97261 X97262 => ?_)
                              unfold po_X12_peek_x at q97261
                              obtain ⟨q97265, q97266, q97267, q97268⟩ := q97261
                              rw [q97265] at X97262
                              rw [q97265] at q97267
                              rw [q97265] at q97268
                              have pk97269 : PKf bb nb f96993 v97264 := pk_b hB I96990 (F96991 131 3 (by simp [fz])) (fun j => F96991 132 j (by simp [fz])) z96995 (by omega) q97268
                              obtain ⟨e97270, e97271, e97272⟩ := PK_at pk97269 (by omega)
                              refine lv_i2l S.1.1 S.1.2.1 dX12_skip_243 rfl ?_
                              refine lv_topl (fun j97273 z97274 => ?_)
                              refine lv_lor S.1.1 S.1.2.1 dX12_skip_244 ?_
                              refine lv_topl (fun j97275 z97276 => ?_)
                              refine r_putJ (K := 38) S X97262 (Nat.le_of_ble_eq_true rfl) rfl lk12_170_10 (fun _ => ⟨_, rfl, Nat.le_of_ble_eq_true rfl, rfl⟩) (fun _ _ _ h => by cases h; exact ⟨rfl, rfl⟩) dX12_skip_245 (fun t97278 H lc M97279 X97277 => ?_)
                              have I97280 := Inv_ml I96990 M97279
                              have F97281 : Fr [(131, 4), (131, 11), (131, 12), (131, 13), (131, 14)] [331] τ t97278 := Fr_ml F96991 M97279 (by decide)
                              refine r_aload_n S dX12_skip_248 rfl (lv_at hl 1 rfl) ?_
                              refine r_geti (K := 38) S X97277 (Nat.le_of_ble_eq_true rfl) rfl lk12_154_10 (fun _ => ⟨_, rfl, rfl⟩) ((M97279.1 131 (by decide) 13).trans z97001) dX12_skip_249 ?_
                              refine r_iconst S dX12_skip_252 (by decide) (fun v97282 z97283 => ?_)
                              have r97284 := R_eq z97283
                              refine r_icmp_ge (tgt := 275) S dX12_skip_253 (by decide) (fun c97285 => ?_) (fun c97285 => ?_)
                              ·
                                have r97286 : R (2) (6) f96999 := ⟨by omega, by omega⟩
                                refine r_aload_n S dX12_skip_275 rfl (lv_at hl 1 rfl) ?_
                                refine r_dup S dX12_skip_276 rfl ?_
                                refine r_geti (K := 38) S X97277 (Nat.le_of_ble_eq_true rfl) rfl lk12_154_10 (fun _ => ⟨_, rfl, rfl⟩) ((M97279.1 131 (by decide) 13).trans z97001) dX12_skip_277 ?_
                                refine r_iconst S dX12_skip_280 (by decide) (fun v97287 z97288 => ?_)
                                have r97289 := R_eq z97288
                                refine r_iadd S dX12_skip_281 (fun v97290 z97291 => ?_)
                                obtain ⟨e97292, r97293⟩ := i_add (lo := 3) (hi := 7) z97291 r97286 r97289 rfl
                                refine r_put (K := 38) (ty := .int) S X97277 (Nat.le_of_ble_eq_true rfl) rfl lk12_154_10 (fun _ => ⟨_, rfl, Nat.le_of_ble_eq_true rfl, rfl⟩) (fun _ _ _ h => by cases h; exact ⟨rfl, rfl⟩) rfl rfl dX12_skip_282 (fun t97294 H lc M97295 X97296 => ?_)
                                have I97297 := Inv_mu I97280 M97295 (show Rg (kd 131) 13 v97290 from (R_of (lo := 0) (hi := 940) r97293 rfl))
                                have F97298 : Fr [(131, 4), (131, 11), (131, 12), (131, 13), (131, 14)] [331] τ t97294 := Fr_mu F97281 M97295 (by decide)
                                refine r_aload_n S dX12_skip_285 rfl (lv_at hl 1 rfl) ?_
                                refine r_dup S dX12_skip_286 rfl ?_
                                refine r_geti (K := 38) S X97296 (Nat.le_of_ble_eq_true rfl) rfl lk12_21_10 (fun _ => ⟨_, rfl, rfl⟩) ((M97295.2 131 4 (Or.inr (by decide))).trans ((M97279.1 131 (by decide) 4).trans z96995)) dX12_skip_287 ?_
                                refine r_iconst S dX12_skip_290 (by decide) (fun v97299 z97300 => ?_)
                                have r97301 := R_eq z97300
                                refine r_iadd S dX12_skip_291 (fun v97302 z97303 => ?_)
                                obtain ⟨e97304, r97305⟩ := i_add (lo := 1) (hi := 940) z97303 r97034 r97301 rfl
                                refine r_put (K := 38) (ty := .int) S X97296 (Nat.le_of_ble_eq_true rfl) rfl lk12_21_10 (fun _ => ⟨_, rfl, Nat.le_of_ble_eq_true rfl, rfl⟩) (fun _ _ _ h => by cases h; exact ⟨rfl, rfl⟩) rfl rfl dX12_skip_292 (fun t97306 H lc M97307 X97308 => ?_)
                                have I97309 := Inv_mu I97297 M97307 (show Rg (kd 131) 4 v97302 from (R_of (lo := 0) (hi := 940) r97305 rfl))
                                have F97310 : Fr [(131, 4), (131, 11), (131, 12), (131, 13), (131, 14)] [331] τ t97306 := Fr_mu F97298 M97307 (by decide)
                                refine r_goto (tgt := 181) S dX12_skip_295 (by decide) ?_
                                exact ih97008 t97306 _ _ _ v97216 v97302 v97290 f97002 X97308 I97309 F97310 (R_of r97218 rfl) M97307.1 ⟨by omega, by omega⟩ ((M97307.2 131 3 (Or.inr (by decide))).trans ((M97295.2 131 3 (Or.inr (by decide))).trans ((M97279.1 131 (by decide) 3).trans z96996))) ((M97307.2 131 5 (Or.inr (by decide))).trans ((M97295.2 131 5 (Or.inr (by decide))).trans ((M97279.1 131 (by decide) 5).trans z96997))) ((M97307.2 131 12 (Or.inr (by decide))).trans ((M97295.2 131 12 (Or.inr (by decide))).trans ((M97279.1 131 (by decide) 12).trans z96998))) ((M97307.2 131 13 (Or.inr (by decide))).trans M97295.1) ⟨by omega, by omega⟩ ((M97307.2 131 14 (Or.inr (by decide))).trans ((M97295.2 131 14 (Or.inr (by decide))).trans ((M97279.1 131 (by decide) 14).trans z97004))) ⟨by omega, by omega⟩ (LM_upq (i := f96993) (sp := f96999) (al := i96987) x97006 hs65598 (by omega) (by omega) (LM_hw (x := v97264) (y := v97256) x97006 z97255 (by omega) (by rw [z97276, z97260, z97274]) ((qof_of (k := 131) (fun j => ((M97307.2 331 j (Or.inl (by decide))).trans ((M97295.2 331 j (Or.inl (by decide))).trans rfl))) 17).trans (Ml_upd M97279)) (by omega) (by omega)) (fun _ _ h => by exfalso; omega) (by omega) (by omega) (by omega)) (by omega) (lv_sub hl [1, 2, 0] rfl) (by omega)
                              ·
                                have r97311 : R (0) (1) f96999 := ⟨by omega, by omega⟩
                                refine r_aload_n S dX12_skip_256 rfl (lv_at hl 1 rfl) ?_
                                refine r_bipush S dX12_skip_257 (by decide) (fun v97312 z97313 => ?_)
                                have r97314 := R_eq z97313
                                refine r_aload_n S dX12_skip_259 rfl (lv_at hl 1 rfl) ?_
                                refine r_geti (K := 38) S X97277 (Nat.le_of_ble_eq_true rfl) rfl lk12_167_10 (fun _ => ⟨_, rfl, rfl⟩) ((M97279.1 131 (by decide) 14).trans z97004) dX12_skip_260 ?_
                                refine r_imul S dX12_skip_263 (fun v97315 z97316 => ?_)
                                have r97317 := R_any v97315
                                refine r_aload_n S dX12_skip_264 rfl (lv_at hl 1 rfl) ?_
                                refine r_ki (q_V (As := []) (rest := [.int v97315, .ref (G.2.2.2.1 131)]) (K := 38) (ci := 10) S X97277 (c_X12_peek_x l G t97278 I97280 ) ck12_147 (Nat.le_of_ble_eq_true rfl) rfl (fun _ => ⟨_, rfl⟩) ⟨_, _, rfl⟩ ⟨Nat.le_of_ble_eq_true rfl, Nat.le_of_ble_eq_true rfl⟩ rfl hl.1 rfl (Nat.le_of_ble_eq_true rfl) dX12_skip_265 ⟨Nat.le_refl 0, Nat.le_refl 0⟩) X97277 (fun v97321 t97320 H lc q97318 X97319 => ?_)
                                unfold po_X12_peek_x at q97318
                                obtain ⟨q97322, q97323, q97324, q97325⟩ := q97318
                                rw [q97322] at X97319
                                rw [q97322] at q97324
                                rw [q97322] at q97325
                                have pk97326 : PKf bb nb f96993 v97321 := pk_b hB I97280 (F97281 131 3 (by simp [fz])) (fun j => F97281 132 j (by simp [fz])) ((M97279.1 131 (by decide) 4).trans z96995) (by omega) q97325
                                obtain ⟨e97327, e97328, e97329⟩ := PK_at pk97326 (by omega)
                                refine r_iadd S dX12_skip_268 (fun v97330 z97331 => ?_)
                                have r97332 := R_any v97330
                                refine r_bipush S dX12_skip_269 (by decide) (fun v97333 z97334 => ?_)
                                have r97335 := R_eq z97334
                                refine r_isub S dX12_skip_271 (fun v97336 z97337 => ?_)
                                have r97338 := R_any v97336
                                refine r_put (K := 38) (ty := .int) S X97319 (Nat.le_of_ble_eq_true rfl) rfl lk12_167_10 (fun _ => ⟨_, rfl, Nat.le_of_ble_eq_true rfl, rfl⟩) (fun _ _ _ h => by cases h; exact ⟨rfl, rfl⟩) rfl rfl dX12_skip_272 (fun t97339 H lc M97340 X97341 => ?_)
                                have I97342 := Inv_mu I97280 M97340 (R_any v97336)
                                have F97343 : Fr [(131, 4), (131, 11), (131, 12), (131, 13), (131, 14)] [331] τ t97339 := Fr_mu F97281 M97340 (by decide)
                                refine r_aload_n S dX12_skip_275 rfl (lv_at hl 1 rfl) ?_
                                refine r_dup S dX12_skip_276 rfl ?_
                                refine r_geti (K := 38) S X97341 (Nat.le_of_ble_eq_true rfl) rfl lk12_154_10 (fun _ => ⟨_, rfl, rfl⟩) ((M97340.2 131 13 (Or.inr (by decide))).trans ((M97279.1 131 (by decide) 13).trans z97001)) dX12_skip_277 ?_
                                refine r_iconst S dX12_skip_280 (by decide) (fun v97344 z97345 => ?_)
                                have r97346 := R_eq z97345
                                refine r_iadd S dX12_skip_281 (fun v97347 z97348 => ?_)
                                obtain ⟨e97349, r97350⟩ := i_add (lo := 1) (hi := 2) z97348 r97311 r97346 rfl
                                refine r_put (K := 38) (ty := .int) S X97341 (Nat.le_of_ble_eq_true rfl) rfl lk12_154_10 (fun _ => ⟨_, rfl, Nat.le_of_ble_eq_true rfl, rfl⟩) (fun _ _ _ h => by cases h; exact ⟨rfl, rfl⟩) rfl rfl dX12_skip_282 (fun t97351 H lc M97352 X97353 => ?_)
                                have I97354 := Inv_mu I97342 M97352 (show Rg (kd 131) 13 v97347 from (R_of (lo := 0) (hi := 940) r97350 rfl))
                                have F97355 : Fr [(131, 4), (131, 11), (131, 12), (131, 13), (131, 14)] [331] τ t97351 := Fr_mu F97343 M97352 (by decide)
                                refine r_aload_n S dX12_skip_285 rfl (lv_at hl 1 rfl) ?_
                                refine r_dup S dX12_skip_286 rfl ?_
                                refine r_geti (K := 38) S X97353 (Nat.le_of_ble_eq_true rfl) rfl lk12_21_10 (fun _ => ⟨_, rfl, rfl⟩) ((M97352.2 131 4 (Or.inr (by decide))).trans ((M97340.2 131 4 (Or.inr (by decide))).trans ((M97279.1 131 (by decide) 4).trans z96995))) dX12_skip_287 ?_
                                refine r_iconst S dX12_skip_290 (by decide) (fun v97356 z97357 => ?_)
                                have r97358 := R_eq z97357
                                refine r_iadd S dX12_skip_291 (fun v97359 z97360 => ?_)
                                obtain ⟨e97361, r97362⟩ := i_add (lo := 1) (hi := 940) z97360 r97034 r97358 rfl
                                refine r_put (K := 38) (ty := .int) S X97353 (Nat.le_of_ble_eq_true rfl) rfl lk12_21_10 (fun _ => ⟨_, rfl, Nat.le_of_ble_eq_true rfl, rfl⟩) (fun _ _ _ h => by cases h; exact ⟨rfl, rfl⟩) rfl rfl dX12_skip_292 (fun t97363 H lc M97364 X97365 => ?_)
                                have I97366 := Inv_mu I97354 M97364 (show Rg (kd 131) 4 v97359 from (R_of (lo := 0) (hi := 940) r97362 rfl))
                                have F97367 : Fr [(131, 4), (131, 11), (131, 12), (131, 13), (131, 14)] [331] τ t97363 := Fr_mu F97355 M97364 (by decide)
                                refine r_goto (tgt := 181) S dX12_skip_295 (by decide) ?_
                                exact ih97008 t97363 _ _ _ v97216 v97359 v97347 v97336 X97365 I97366 F97367 (R_of r97218 rfl) M97364.1 ⟨by omega, by omega⟩ ((M97364.2 131 3 (Or.inr (by decide))).trans ((M97352.2 131 3 (Or.inr (by decide))).trans ((M97340.2 131 3 (Or.inr (by decide))).trans ((M97279.1 131 (by decide) 3).trans z96996)))) ((M97364.2 131 5 (Or.inr (by decide))).trans ((M97352.2 131 5 (Or.inr (by decide))).trans ((M97340.2 131 5 (Or.inr (by decide))).trans ((M97279.1 131 (by decide) 5).trans z96997)))) ((M97364.2 131 12 (Or.inr (by decide))).trans ((M97352.2 131 12 (Or.inr (by decide))).trans ((M97340.2 131 12 (Or.inr (by decide))).trans ((M97279.1 131 (by decide) 12).trans z96998)))) ((M97364.2 131 13 (Or.inr (by decide))).trans M97352.1) ⟨by omega, by omega⟩ ((M97364.2 131 14 (Or.inr (by decide))).trans ((M97352.2 131 14 (Or.inr (by decide))).trans M97340.1)) ⟨by omega, by omega⟩ (LM_upq (i := f96993) (sp := f96999) (al := i96987) x97006 hs65598 (by omega) (by omega) (LM_hw (x := v97264) (y := v97256) x97006 z97255 (by omega) (by rw [z97276, z97260, z97274]) ((qof_of (k := 131) (fun j => ((M97364.2 331 j (Or.inl (by decide))).trans ((M97352.2 331 j (Or.inl (by decide))).trans ((M97340.2 331 j (Or.inl (by decide))).trans rfl)))) 17).trans (Ml_upd M97279)) (by omega) (by omega)) (LM_hn (c := v97312) (x := v97321) (d := v97333) x97006 (by omega) z97316 z97331 (by omega) z97337 (by omega) (by omega)) (by omega) (by omega) (by omega)) (by omega) (lv_sub hl [1, 2, 0] rfl) (by omega)
                          ·
                            refine r_iconst S dX12_skip_216 (by decide) (fun v97368 z97369 => ?_)
                            have r97370 := R_eq z97369
                            refine r_goto (tgt := 221) S dX12_skip_217 (by decide) ?_
                            refine r_istore_n (lv' := [(3, .int v97368), (0, .ref (G.2.2.2.1 131)), (2, .int v65590)]) S dX12_skip_221 rfl hl (by decide) rfl (fun ls hl => ?_)
                            refine r_aload_n S dX12_skip_222 rfl (lv_at hl 1 rfl) ?_
                            refine r_geti (K := 38) S X97208 (Nat.le_of_ble_eq_true rfl) rfl lk12_154_10 (fun _ => ⟨_, rfl, rfl⟩) z97001 dX12_skip_223 ?_
                            refine r_bipush S dX12_skip_226 (by decide) (fun v97371 z97372 => ?_)
                            have r97373 := R_eq z97372
                            refine r_icmp_ge (tgt := 248) S dX12_skip_228 (by decide) (fun c97374 => ?_) (fun c97374 => ?_)
                            ·
                              have r97375 : R (7) (940) f96999 := ⟨by omega, by omega⟩
                              refine r_aload_n S dX12_skip_248 rfl (lv_at hl 1 rfl) ?_
                              refine r_geti (K := 38) S X97208 (Nat.le_of_ble_eq_true rfl) rfl lk12_154_10 (fun _ => ⟨_, rfl, rfl⟩) z97001 dX12_skip_249 ?_
                              refine r_iconst S dX12_skip_252 (by decide) (fun v97376 z97377 => ?_)
                              have r97378 := R_eq z97377
                              refine r_icmp_ge (tgt := 275) S dX12_skip_253 (by decide) (fun c97379 => ?_) (fun c97379 => ?_)
                              ·
                                refine r_aload_n S dX12_skip_275 rfl (lv_at hl 1 rfl) ?_
                                refine r_dup S dX12_skip_276 rfl ?_
                                refine r_geti (K := 38) S X97208 (Nat.le_of_ble_eq_true rfl) rfl lk12_154_10 (fun _ => ⟨_, rfl, rfl⟩) z97001 dX12_skip_277 ?_
                                refine r_iconst S dX12_skip_280 (by decide) (fun v97380 z97381 => ?_)
                                have r97382 := R_eq z97381
                                refine r_iadd S dX12_skip_281 (fun v97383 z97384 => ?_)
                                obtain ⟨e97385, r97386⟩ := i_add (lo := 8) (hi := 941) z97384 r97375 r97382 rfl
                                refine r_put (K := 38) (ty := .int) S X97208 (Nat.le_of_ble_eq_true rfl) rfl lk12_154_10 (fun _ => ⟨_, rfl, Nat.le_of_ble_eq_true rfl, rfl⟩) (fun _ _ _ h => by cases h; exact ⟨rfl, rfl⟩) rfl rfl dX12_skip_282 (fun t97387 H lc M97388 X97389 => ?_)
                                have I97390 := Inv_mu I96990 M97388 (show Rg (kd 131) 13 v97383 from (show R (0) (940) v97383 from ⟨by omega, by omega⟩))
                                have F97391 : Fr [(131, 4), (131, 11), (131, 12), (131, 13), (131, 14)] [331] τ t97387 := Fr_mu F96991 M97388 (by decide)
                                have r97392 : R (8) (940) v97383 := ⟨by omega, by omega⟩
                                refine r_aload_n S dX12_skip_285 rfl (lv_at hl 1 rfl) ?_
                                refine r_dup S dX12_skip_286 rfl ?_
                                refine r_geti (K := 38) S X97389 (Nat.le_of_ble_eq_true rfl) rfl lk12_21_10 (fun _ => ⟨_, rfl, rfl⟩) ((M97388.2 131 4 (Or.inr (by decide))).trans z96995) dX12_skip_287 ?_
                                refine r_iconst S dX12_skip_290 (by decide) (fun v97393 z97394 => ?_)
                                have r97395 := R_eq z97394
                                refine r_iadd S dX12_skip_291 (fun v97396 z97397 => ?_)
                                obtain ⟨e97398, r97399⟩ := i_add (lo := 1) (hi := 940) z97397 r97034 r97395 rfl
                                refine r_put (K := 38) (ty := .int) S X97389 (Nat.le_of_ble_eq_true rfl) rfl lk12_21_10 (fun _ => ⟨_, rfl, Nat.le_of_ble_eq_true rfl, rfl⟩) (fun _ _ _ h => by cases h; exact ⟨rfl, rfl⟩) rfl rfl dX12_skip_292 (fun t97400 H lc M97401 X97402 => ?_)
                                have I97403 := Inv_mu I97390 M97401 (show Rg (kd 131) 4 v97396 from (R_of (lo := 0) (hi := 940) r97399 rfl))
                                have F97404 : Fr [(131, 4), (131, 11), (131, 12), (131, 13), (131, 14)] [331] τ t97400 := Fr_mu F97391 M97401 (by decide)
                                refine r_goto (tgt := 181) S dX12_skip_295 (by decide) ?_
                                exact ih97008 t97400 _ _ _ v97368 v97396 v97383 f97002 X97402 I97403 F97404 (R_of r97370 rfl) M97401.1 ⟨by omega, by omega⟩ ((M97401.2 131 3 (Or.inr (by decide))).trans ((M97388.2 131 3 (Or.inr (by decide))).trans z96996)) ((M97401.2 131 5 (Or.inr (by decide))).trans ((M97388.2 131 5 (Or.inr (by decide))).trans z96997)) ((M97401.2 131 12 (Or.inr (by decide))).trans ((M97388.2 131 12 (Or.inr (by decide))).trans z96998)) ((M97401.2 131 13 (Or.inr (by decide))).trans M97388.1) ⟨by omega, by omega⟩ ((M97401.2 131 14 (Or.inr (by decide))).trans ((M97388.2 131 14 (Or.inr (by decide))).trans z97004)) ⟨by omega, by omega⟩ (by rw [(qof_of (k := 131) (fun j => ((M97401.2 331 j (Or.inl (by decide))).trans ((M97388.2 331 j (Or.inl (by decide))).trans rfl))) 17)]; exact LM_upq (i := f96993) (sp := f96999) (al := i96987) x97006 hs65598 (by omega) (by omega) (fun _ _ h => by exfalso; omega) (fun _ _ h => by exfalso; omega) (by omega) (by omega) (by omega)) (by omega) (lv_sub hl [1, 2, 0] rfl) (by omega)
                              ·
                                exfalso; omega
                            ·
                              have r97405 : R (0) (6) f96999 := ⟨by omega, by omega⟩
                              refine r_aload_n S dX12_skip_231 rfl (lv_at hl 1 rfl) ?_
                              refine r_aload_n S dX12_skip_232 rfl (lv_at hl 1 rfl) ?_
                              refine r_getJ (K := 38) S X97208 (Nat.le_of_ble_eq_true rfl) rfl lk12_170_10 (fun _ => ⟨_, rfl, rfl⟩) dX12_skip_233 (fun j97406 z97407 => ?_)
                              refine r_bipush S dX12_skip_236 (by decide) (fun v97408 z97409 => ?_)
                              have r97410 := R_eq z97409
                              refine lv_lshl S.1.1 S.1.2.1 dX12_skip_238 rfl ?_
                              refine lv_topl (fun j97411 z97412 => ?_)
                              refine r_aload_n S dX12_skip_239 rfl (lv_at hl 1 rfl) ?_
                              refine r_ki (q_V (As := []) (rest := [.long j97411, .ref (G.2.2.2.1 131)]) (K := 38) (ci := 10) S X97208 (c_X12_peek_x l G t96989 I96990 ) ck12_147 (Nat.le_of_ble_eq_true rfl) rfl (fun _ => ⟨_, rfl⟩) ⟨_, _, rfl⟩ ⟨Nat.le_of_ble_eq_true rfl, Nat.le_of_ble_eq_true rfl⟩ rfl hl.1 rfl (Nat.le_of_ble_eq_true rfl) dX12_skip_240 ⟨Nat.le_refl 0, Nat.le_refl 0⟩) X97208 (fun v97416 t97415 H lc q97413 X97414 => ?_)
                              unfold po_X12_peek_x at q97413
                              obtain ⟨q97417, q97418, q97419, q97420⟩ := q97413
                              rw [q97417] at X97414
                              rw [q97417] at q97419
                              rw [q97417] at q97420
                              have pk97421 : PKf bb nb f96993 v97416 := pk_b hB I96990 (F96991 131 3 (by simp [fz])) (fun j => F96991 132 j (by simp [fz])) z96995 (by omega) q97420
                              obtain ⟨e97422, e97423, e97424⟩ := PK_at pk97421 (by omega)
                              refine lv_i2l S.1.1 S.1.2.1 dX12_skip_243 rfl ?_
                              refine lv_topl (fun j97425 z97426 => ?_)
                              refine lv_lor S.1.1 S.1.2.1 dX12_skip_244 ?_
                              refine lv_topl (fun j97427 z97428 => ?_)
                              refine r_putJ (K := 38) S X97414 (Nat.le_of_ble_eq_true rfl) rfl lk12_170_10 (fun _ => ⟨_, rfl, Nat.le_of_ble_eq_true rfl, rfl⟩) (fun _ _ _ h => by cases h; exact ⟨rfl, rfl⟩) dX12_skip_245 (fun t97430 H lc M97431 X97429 => ?_)
                              have I97432 := Inv_ml I96990 M97431
                              have F97433 : Fr [(131, 4), (131, 11), (131, 12), (131, 13), (131, 14)] [331] τ t97430 := Fr_ml F96991 M97431 (by decide)
                              refine r_aload_n S dX12_skip_248 rfl (lv_at hl 1 rfl) ?_
                              refine r_geti (K := 38) S X97429 (Nat.le_of_ble_eq_true rfl) rfl lk12_154_10 (fun _ => ⟨_, rfl, rfl⟩) ((M97431.1 131 (by decide) 13).trans z97001) dX12_skip_249 ?_
                              refine r_iconst S dX12_skip_252 (by decide) (fun v97434 z97435 => ?_)
                              have r97436 := R_eq z97435
                              refine r_icmp_ge (tgt := 275) S dX12_skip_253 (by decide) (fun c97437 => ?_) (fun c97437 => ?_)
                              ·
                                have r97438 : R (2) (6) f96999 := ⟨by omega, by omega⟩
                                refine r_aload_n S dX12_skip_275 rfl (lv_at hl 1 rfl) ?_
                                refine r_dup S dX12_skip_276 rfl ?_
                                refine r_geti (K := 38) S X97429 (Nat.le_of_ble_eq_true rfl) rfl lk12_154_10 (fun _ => ⟨_, rfl, rfl⟩) ((M97431.1 131 (by decide) 13).trans z97001) dX12_skip_277 ?_
                                refine r_iconst S dX12_skip_280 (by decide) (fun v97439 z97440 => ?_)
                                have r97441 := R_eq z97440
                                refine r_iadd S dX12_skip_281 (fun v97442 z97443 => ?_)
                                obtain ⟨e97444, r97445⟩ := i_add (lo := 3) (hi := 7) z97443 r97438 r97441 rfl
                                refine r_put (K := 38) (ty := .int) S X97429 (Nat.le_of_ble_eq_true rfl) rfl lk12_154_10 (fun _ => ⟨_, rfl, Nat.le_of_ble_eq_true rfl, rfl⟩) (fun _ _ _ h => by cases h; exact ⟨rfl, rfl⟩) rfl rfl dX12_skip_282 (fun t97446 H lc M97447 X97448 => ?_)
                                have I97449 := Inv_mu I97432 M97447 (show Rg (kd 131) 13 v97442 from (R_of (lo := 0) (hi := 940) r97445 rfl))
                                have F97450 : Fr [(131, 4), (131, 11), (131, 12), (131, 13), (131, 14)] [331] τ t97446 := Fr_mu F97433 M97447 (by decide)
                                refine r_aload_n S dX12_skip_285 rfl (lv_at hl 1 rfl) ?_
                                refine r_dup S dX12_skip_286 rfl ?_
                                refine r_geti (K := 38) S X97448 (Nat.le_of_ble_eq_true rfl) rfl lk12_21_10 (fun _ => ⟨_, rfl, rfl⟩) ((M97447.2 131 4 (Or.inr (by decide))).trans ((M97431.1 131 (by decide) 4).trans z96995)) dX12_skip_287 ?_
                                refine r_iconst S dX12_skip_290 (by decide) (fun v97451 z97452 => ?_)
                                have r97453 := R_eq z97452
                                refine r_iadd S dX12_skip_291 (fun v97454 z97455 => ?_)
                                obtain ⟨e97456, r97457⟩ := i_add (lo := 1) (hi := 940) z97455 r97034 r97453 rfl
                                refine r_put (K := 38) (ty := .int) S X97448 (Nat.le_of_ble_eq_true rfl) rfl lk12_21_10 (fun _ => ⟨_, rfl, Nat.le_of_ble_eq_true rfl, rfl⟩) (fun _ _ _ h => by cases h; exact ⟨rfl, rfl⟩) rfl rfl dX12_skip_292 (fun t97458 H lc M97459 X97460 => ?_)
                                have I97461 := Inv_mu I97449 M97459 (show Rg (kd 131) 4 v97454 from (R_of (lo := 0) (hi := 940) r97457 rfl))
                                have F97462 : Fr [(131, 4), (131, 11), (131, 12), (131, 13), (131, 14)] [331] τ t97458 := Fr_mu F97450 M97459 (by decide)
                                refine r_goto (tgt := 181) S dX12_skip_295 (by decide) ?_
                                exact ih97008 t97458 _ _ _ v97368 v97454 v97442 f97002 X97460 I97461 F97462 (R_of r97370 rfl) M97459.1 ⟨by omega, by omega⟩ ((M97459.2 131 3 (Or.inr (by decide))).trans ((M97447.2 131 3 (Or.inr (by decide))).trans ((M97431.1 131 (by decide) 3).trans z96996))) ((M97459.2 131 5 (Or.inr (by decide))).trans ((M97447.2 131 5 (Or.inr (by decide))).trans ((M97431.1 131 (by decide) 5).trans z96997))) ((M97459.2 131 12 (Or.inr (by decide))).trans ((M97447.2 131 12 (Or.inr (by decide))).trans ((M97431.1 131 (by decide) 12).trans z96998))) ((M97459.2 131 13 (Or.inr (by decide))).trans M97447.1) ⟨by omega, by omega⟩ ((M97459.2 131 14 (Or.inr (by decide))).trans ((M97447.2 131 14 (Or.inr (by decide))).trans ((M97431.1 131 (by decide) 14).trans z97004))) ⟨by omega, by omega⟩ (LM_upq (i := f96993) (sp := f96999) (al := i96987) x97006 hs65598 (by omega) (by omega) (LM_hw (x := v97416) (y := v97408) x97006 z97407 (by omega) (by rw [z97428, z97412, z97426]) ((qof_of (k := 131) (fun j => ((M97459.2 331 j (Or.inl (by decide))).trans ((M97447.2 331 j (Or.inl (by decide))).trans rfl))) 17).trans (Ml_upd M97431)) (by omega) (by omega)) (fun _ _ h => by exfalso; omega) (by omega) (by omega) (by omega)) (by omega) (lv_sub hl [1, 2, 0] rfl) (by omega)
                              ·
                                have r97463 : R (0) (1) f96999 := ⟨by omega, by omega⟩
                                refine r_aload_n S dX12_skip_256 rfl (lv_at hl 1 rfl) ?_
                                refine r_bipush S dX12_skip_257 (by decide) (fun v97464 z97465 => ?_)
                                have r97466 := R_eq z97465
                                refine r_aload_n S dX12_skip_259 rfl (lv_at hl 1 rfl) ?_
                                refine r_geti (K := 38) S X97429 (Nat.le_of_ble_eq_true rfl) rfl lk12_167_10 (fun _ => ⟨_, rfl, rfl⟩) ((M97431.1 131 (by decide) 14).trans z97004) dX12_skip_260 ?_
                                refine r_imul S dX12_skip_263 (fun v97467 z97468 => ?_)
                                have r97469 := R_any v97467
                                refine r_aload_n S dX12_skip_264 rfl (lv_at hl 1 rfl) ?_
                                refine r_ki (q_V (As := []) (rest := [.int v97467, .ref (G.2.2.2.1 131)]) (K := 38) (ci := 10) S X97429 (c_X12_peek_x l G t97430 I97432 ) ck12_147 (Nat.le_of_ble_eq_true rfl) rfl (fun _ => ⟨_, rfl⟩) ⟨_, _, rfl⟩ ⟨Nat.le_of_ble_eq_true rfl, Nat.le_of_ble_eq_true rfl⟩ rfl hl.1 rfl (Nat.le_of_ble_eq_true rfl) dX12_skip_265 ⟨Nat.le_refl 0, Nat.le_refl 0⟩) X97429 (fun v97473 t97472 H lc q97470 X97471 => ?_)
                                unfold po_X12_peek_x at q97470
                                obtain ⟨q97474, q97475, q97476, q97477⟩ := q97470
                                rw [q97474] at X97471
                                rw [q97474] at q97476
                                rw [q97474] at q97477
                                have pk97478 : PKf bb nb f96993 v97473 := pk_b hB I97432 (F97433 131 3 (by simp [fz])) (fun j => F97433 132 j (by simp [fz])) ((M97431.1 131 (by decide) 4).trans z96995) (by omega) q97477
                                obtain ⟨e97479, e97480, e97481⟩ := PK_at pk97478 (by omega)
                                refine r_iadd S dX12_skip_268 (fun v97482 z97483 => ?_)
                                have r97484 := R_any v97482
                                refine r_bipush S dX12_skip_269 (by decide) (fun v97485 z97486 => ?_)
                                have r97487 := R_eq z97486
                                refine r_isub S dX12_skip_271 (fun v97488 z97489 => ?_)
                                have r97490 := R_any v97488
                                refine r_put (K := 38) (ty := .int) S X97471 (Nat.le_of_ble_eq_true rfl) rfl lk12_167_10 (fun _ => ⟨_, rfl, Nat.le_of_ble_eq_true rfl, rfl⟩) (fun _ _ _ h => by cases h; exact ⟨rfl, rfl⟩) rfl rfl dX12_skip_272 (fun t97491 H lc M97492 X97493 => ?_)
                                have I97494 := Inv_mu I97432 M97492 (R_any v97488)
                                have F97495 : Fr [(131, 4), (131, 11), (131, 12), (131, 13), (131, 14)] [331] τ t97491 := Fr_mu F97433 M97492 (by decide)
                                refine r_aload_n S dX12_skip_275 rfl (lv_at hl 1 rfl) ?_
                                refine r_dup S dX12_skip_276 rfl ?_
                                refine r_geti (K := 38) S X97493 (Nat.le_of_ble_eq_true rfl) rfl lk12_154_10 (fun _ => ⟨_, rfl, rfl⟩) ((M97492.2 131 13 (Or.inr (by decide))).trans ((M97431.1 131 (by decide) 13).trans z97001)) dX12_skip_277 ?_
                                refine r_iconst S dX12_skip_280 (by decide) (fun v97496 z97497 => ?_)
                                have r97498 := R_eq z97497
                                refine r_iadd S dX12_skip_281 (fun v97499 z97500 => ?_)
                                obtain ⟨e97501, r97502⟩ := i_add (lo := 1) (hi := 2) z97500 r97463 r97498 rfl
                                refine r_put (K := 38) (ty := .int) S X97493 (Nat.le_of_ble_eq_true rfl) rfl lk12_154_10 (fun _ => ⟨_, rfl, Nat.le_of_ble_eq_true rfl, rfl⟩) (fun _ _ _ h => by cases h; exact ⟨rfl, rfl⟩) rfl rfl dX12_skip_282 (fun t97503 H lc M97504 X97505 => ?_)
                                have I97506 := Inv_mu I97494 M97504 (show Rg (kd 131) 13 v97499 from (R_of (lo := 0) (hi := 940) r97502 rfl))
                                have F97507 : Fr [(131, 4), (131, 11), (131, 12), (131, 13), (131, 14)] [331] τ t97503 := Fr_mu F97495 M97504 (by decide)
                                refine r_aload_n S dX12_skip_285 rfl (lv_at hl 1 rfl) ?_
                                refine r_dup S dX12_skip_286 rfl ?_
                                refine r_geti (K := 38) S X97505 (Nat.le_of_ble_eq_true rfl) rfl lk12_21_10 (fun _ => ⟨_, rfl, rfl⟩) ((M97504.2 131 4 (Or.inr (by decide))).trans ((M97492.2 131 4 (Or.inr (by decide))).trans ((M97431.1 131 (by decide) 4).trans z96995))) dX12_skip_287 ?_
                                refine r_iconst S dX12_skip_290 (by decide) (fun v97508 z97509 => ?_)
                                have r97510 := R_eq z97509
                                refine r_iadd S dX12_skip_291 (fun v97511 z97512 => ?_)
                                obtain ⟨e97513, r97514⟩ := i_add (lo := 1) (hi := 940) z97512 r97034 r97510 rfl
                                refine r_put (K := 38) (ty := .int) S X97505 (Nat.le_of_ble_eq_true rfl) rfl lk12_21_10 (fun _ => ⟨_, rfl, Nat.le_of_ble_eq_true rfl, rfl⟩) (fun _ _ _ h => by cases h; exact ⟨rfl, rfl⟩) rfl rfl dX12_skip_292 (fun t97515 H lc M97516 X97517 => ?_)
                                have I97518 := Inv_mu I97506 M97516 (show Rg (kd 131) 4 v97511 from (R_of (lo := 0) (hi := 940) r97514 rfl))
                                have F97519 : Fr [(131, 4), (131, 11), (131, 12), (131, 13), (131, 14)] [331] τ t97515 := Fr_mu F97507 M97516 (by decide)
                                refine r_goto (tgt := 181) S dX12_skip_295 (by decide) ?_
                                exact ih97008 t97515 _ _ _ v97368 v97511 v97499 v97488 X97517 I97518 F97519 (R_of r97370 rfl) M97516.1 ⟨by omega, by omega⟩ ((M97516.2 131 3 (Or.inr (by decide))).trans ((M97504.2 131 3 (Or.inr (by decide))).trans ((M97492.2 131 3 (Or.inr (by decide))).trans ((M97431.1 131 (by decide) 3).trans z96996)))) ((M97516.2 131 5 (Or.inr (by decide))).trans ((M97504.2 131 5 (Or.inr (by decide))).trans ((M97492.2 131 5 (Or.inr (by decide))).trans ((M97431.1 131 (by decide) 5).trans z96997)))) ((M97516.2 131 12 (Or.inr (by decide))).trans ((M97504.2 131 12 (Or.inr (by decide))).trans ((M97492.2 131 12 (Or.inr (by decide))).trans ((M97431.1 131 (by decide) 12).trans z96998)))) ((M97516.2 131 13 (Or.inr (by decide))).trans M97504.1) ⟨by omega, by omega⟩ ((M97516.2 131 14 (Or.inr (by decide))).trans ((M97504.2 131 14 (Or.inr (by decide))).trans M97492.1)) ⟨by omega, by omega⟩ (LM_upq (i := f96993) (sp := f96999) (al := i96987) x97006 hs65598 (by omega) (by omega) (LM_hw (x := v97416) (y := v97408) x97006 z97407 (by omega) (by rw [z97428, z97412, z97426]) ((qof_of (k := 131) (fun j => ((M97516.2 331 j (Or.inl (by decide))).trans ((M97504.2 331 j (Or.inl (by decide))).trans ((M97492.2 331 j (Or.inl (by decide))).trans rfl)))) 17).trans (Ml_upd M97431)) (by omega) (by omega)) (LM_hn (c := v97464) (x := v97473) (d := v97485) x97006 (by omega) z97468 z97483 (by omega) z97489 (by omega) (by omega)) (by omega) (by omega) (by omega)) (by omega) (lv_sub hl [1, 2, 0] rfl) (by omega)
                      ·
                        have r97520 : R (0) (0) v97023 := ⟨by omega, by omega⟩
                        refine r_aload_n S dX12_skip_191 rfl (lv_at hl 0 rfl) ?_
                        refine r_ki (q_V (As := []) (rest := []) (K := 38) (ci := 10) S X97021 (c_X12_peek_x l G t96989 I96990 ) ck12_147 (Nat.le_of_ble_eq_true rfl) rfl (fun _ => ⟨_, rfl⟩) ⟨_, _, rfl⟩ ⟨Nat.le_of_ble_eq_true rfl, Nat.le_of_ble_eq_true rfl⟩ rfl hl.1 rfl (Nat.le_of_ble_eq_true rfl) dX12_skip_192 ⟨Nat.le_refl 0, Nat.le_refl 0⟩) X97021 (fun v97524 t97523 H lc q97521 X97522 => ?_)
                        unfold po_X12_peek_x at q97521
                        obtain ⟨q97525, q97526, q97527, q97528⟩ := q97521
                        rw [q97525] at X97522
                        rw [q97525] at q97527
                        rw [q97525] at q97528
                        have pk97529 : PKf bb nb f96993 v97524 := pk_b hB I96990 (F96991 131 3 (by simp [fz])) (fun j => F96991 132 j (by simp [fz])) z96995 (by omega) q97528
                        refine r_ki (q_S (As := [.int v97524]) (rest := []) S X97522 (c_X12_isDigit_x l G t96989 I96990 v97524 (R_of (lo := -2147483648) (hi := 2147483647) q97526 rfl)) ck12_164 ⟨Nat.le_of_ble_eq_true rfl, Nat.le_of_ble_eq_true rfl⟩ rfl hl.1 rfl (Nat.le_of_ble_eq_true rfl) dX12_skip_195 ⟨Nat.le_refl 0, Nat.le_refl 0⟩) X97522 (fun v97533 t97532 H lc q97530 X97531 => ?_)
                        unfold po_X12_isDigit_x at q97530
                        obtain ⟨q97534, q97535, q97536, q97537⟩ := q97530
                        rw [q97534] at X97531
                        refine r_if_eq (tgt := 298) S dX12_skip_198 (by decide) (fun c97538 => ?_) (fun c97538 => ?_)
                        ·
                          have r97539 : R (0) (0) v97533 := ⟨by omega, by omega⟩
                          have he97540 : f96993.toInt.toNat < nb → ¬ aln (bb f96993.toInt.toNat) := fun h => by have q0 := PK_at pk97019 (by omega); have q1 := PK_at pk97529 (by omega); omega
                          have e97541 : 0 < f96999.toInt := LM_pos x97006 hs65598 he97540 (by omega)
                          refine r_aload_n S dX12_skip_298 rfl (lv_at hl 0 rfl) ?_
                          refine r_iload_n S dX12_skip_299 rfl (lv_at hl 2 rfl) ?_
                          refine r_if_eq (tgt := 320) S dX12_skip_300 (by decide) (fun c97542 => ?_) (fun c97542 => ?_)
                          ·
                            have r97543 : R (0) (0) i96987 := ⟨by omega, by omega⟩
                            refine r_iconst S dX12_skip_320 (by decide) (fun v97544 z97545 => ?_)
                            have r97546 := R_eq z97545
                            refine r_goto (tgt := 333) S dX12_skip_321 (by decide) ?_
                            refine r_put (K := 38) (ty := .int) S X97531 (Nat.le_of_ble_eq_true rfl) rfl lk12_157_10 (fun _ => ⟨_, rfl, Nat.le_of_ble_eq_true rfl, rfl⟩) (fun _ _ _ h => by cases h; exact ⟨rfl, rfl⟩) rfl rfl dX12_skip_333 (fun t97547 H lc M97548 X97549 => ?_)
                            have I97550 := Inv_mu I96990 M97548 (show Rg (kd 131) 11 v97544 from (R_of (lo := 0) (hi := 4) r97546 rfl))
                            have F97551 : Fr [(131, 4), (131, 11), (131, 12), (131, 13), (131, 14)] [331] τ t97547 := Fr_mu F96991 M97548 (by decide)
                            exact r_vret S hr hlk X97549 ⟨I97550, F97551, (by rw [((M97548.2 131 4 (Or.inr (by decide))).trans z96995)]; exact R_of r96994 rfl), (by rw [M97548.1]; exact R_of r97546 rfl), (by have h1_0 := congrArg Int32.toInt ((M97548.2 131 4 (Or.inr (by decide))).trans z96995); have h2_0 := congrArg Int32.toInt z2; omega), (by have h1_0 := congrArg Int32.toInt ((M97548.2 131 4 (Or.inr (by decide))).trans z96995); have h2_0 := congrArg Int32.toInt z2; have h1_1 := congrArg Int32.toInt M97548.1; omega), (MT_odd (A := f223.toInt.toNat) (i := f96993.toInt.toNat) (sm := v65590.toInt) (al := i96987.toInt) (sp := f96999.toInt) x97006 (MB_eq hB (F97551 131 3 (by simp [fz])) (F97551 131 5 (by simp [fz])) (fun j => F97551 132 j (by simp [fz]))) ⟨by omega, by omega, x229, fun _ => by omega⟩ (by omega) (by omega) he97540 hs65598 (by omega) (by omega) (by have q := congrArg Int32.toInt ((M97548.2 131 12 (Or.inr (by decide))).trans z96998); omega) (by have q := congrArg Int32.toInt M97548.1; omega))⟩ dX12_skip_336
                          ·
                            have r97552 : R (1) (1) i96987 := ⟨by omega, by omega⟩
                            refine r_aload_n S dX12_skip_303 rfl (lv_at hl 0 rfl) ?_
                            refine r_geti (K := 38) S X97531 (Nat.le_of_ble_eq_true rfl) rfl lk12_154_10 (fun _ => ⟨_, rfl, rfl⟩) z97001 dX12_skip_304 ?_
                            refine r_iload_n S dX12_skip_307 rfl (lv_at hl 1 rfl) ?_
                            refine r_if_eq (tgt := 316) S dX12_skip_308 (by decide) (fun c97553 => ?_) (fun c97553 => ?_)
                            ·
                              have r97554 : R (0) (0) v65590 := ⟨by omega, by omega⟩
                              refine r_iconst S dX12_skip_316 (by decide) (fun v97555 z97556 => ?_)
                              have r97557 := R_eq z97556
                              refine r_icmp_le (tgt := 324) S dX12_skip_317 (by decide) (fun c97558 => ?_) (fun c97558 => ?_)
                              ·
                                have r97559 : R (0) (2) f96999 := ⟨by omega, by omega⟩
                                refine r_iload_n S dX12_skip_324 rfl (lv_at hl 1 rfl) ?_
                                refine r_if_eq (tgt := 332) S dX12_skip_325 (by decide) (fun c97560 => ?_) (fun c97560 => ?_)
                                ·
                                  refine r_iconst S dX12_skip_332 (by decide) (fun v97561 z97562 => ?_)
                                  have r97563 := R_eq z97562
                                  refine r_put (K := 38) (ty := .int) S X97531 (Nat.le_of_ble_eq_true rfl) rfl lk12_157_10 (fun _ => ⟨_, rfl, Nat.le_of_ble_eq_true rfl, rfl⟩) (fun _ _ _ h => by cases h; exact ⟨rfl, rfl⟩) rfl rfl dX12_skip_333 (fun t97564 H lc M97565 X97566 => ?_)
                                  have I97567 := Inv_mu I96990 M97565 (show Rg (kd 131) 11 v97561 from (R_of (lo := 0) (hi := 4) r97563 rfl))
                                  have F97568 : Fr [(131, 4), (131, 11), (131, 12), (131, 13), (131, 14)] [331] τ t97564 := Fr_mu F96991 M97565 (by decide)
                                  exact r_vret S hr hlk X97566 ⟨I97567, F97568, (by rw [((M97565.2 131 4 (Or.inr (by decide))).trans z96995)]; exact R_of r96994 rfl), (by rw [M97565.1]; exact R_of r97563 rfl), (by have h1_0 := congrArg Int32.toInt ((M97565.2 131 4 (Or.inr (by decide))).trans z96995); have h2_0 := congrArg Int32.toInt z2; omega), (by have h1_0 := congrArg Int32.toInt ((M97565.2 131 4 (Or.inr (by decide))).trans z96995); have h2_0 := congrArg Int32.toInt z2; have h1_1 := congrArg Int32.toInt M97565.1; omega), (MT_nbr (A := f223.toInt.toNat) (i := f96993.toInt.toNat) (sm := v65590.toInt) (al := i96987.toInt) (sp := f96999.toInt) (wd := (qof t96989 131 17).toInt) (by rw [((M97565.2 131 14 (Or.inr (by decide))).trans z97004)]; exact x97006) (MB_eq hB (F97568 131 3 (by simp [fz])) (F97568 131 5 (by simp [fz])) (fun j => F97568 132 j (by simp [fz]))) ⟨by omega, by omega, x229, fun _ => by omega⟩ (by omega) (by omega) he97540 (by omega) (by omega) (by omega) (by have q := congrArg Int32.toInt ((M97565.2 131 12 (Or.inr (by decide))).trans z96998); omega) (by have q := congrArg Int32.toInt ((M97565.2 131 4 (Or.inr (by decide))).trans z96995); omega) (by have q := congrArg Int32.toInt M97565.1; omega))⟩ dX12_skip_336
                                ·
                                  exfalso; omega
                              ·
                                have r97569 : R (3) (940) f96999 := ⟨by omega, by omega⟩
                                refine r_iconst S dX12_skip_320 (by decide) (fun v97570 z97571 => ?_)
                                have r97572 := R_eq z97571
                                refine r_goto (tgt := 333) S dX12_skip_321 (by decide) ?_
                                refine r_put (K := 38) (ty := .int) S X97531 (Nat.le_of_ble_eq_true rfl) rfl lk12_157_10 (fun _ => ⟨_, rfl, Nat.le_of_ble_eq_true rfl, rfl⟩) (fun _ _ _ h => by cases h; exact ⟨rfl, rfl⟩) rfl rfl dX12_skip_333 (fun t97573 H lc M97574 X97575 => ?_)
                                have I97576 := Inv_mu I96990 M97574 (show Rg (kd 131) 11 v97570 from (R_of (lo := 0) (hi := 4) r97572 rfl))
                                have F97577 : Fr [(131, 4), (131, 11), (131, 12), (131, 13), (131, 14)] [331] τ t97573 := Fr_mu F96991 M97574 (by decide)
                                exact r_vret S hr hlk X97575 ⟨I97576, F97577, (by rw [((M97574.2 131 4 (Or.inr (by decide))).trans z96995)]; exact R_of r96994 rfl), (by rw [M97574.1]; exact R_of r97572 rfl), (by have h1_0 := congrArg Int32.toInt ((M97574.2 131 4 (Or.inr (by decide))).trans z96995); have h2_0 := congrArg Int32.toInt z2; omega), (by have h1_0 := congrArg Int32.toInt ((M97574.2 131 4 (Or.inr (by decide))).trans z96995); have h2_0 := congrArg Int32.toInt z2; have h1_1 := congrArg Int32.toInt M97574.1; omega), (MT_odd (A := f223.toInt.toNat) (i := f96993.toInt.toNat) (sm := v65590.toInt) (al := i96987.toInt) (sp := f96999.toInt) x97006 (MB_eq hB (F97577 131 3 (by simp [fz])) (F97577 131 5 (by simp [fz])) (fun j => F97577 132 j (by simp [fz]))) ⟨by omega, by omega, x229, fun _ => by omega⟩ (by omega) (by omega) he97540 hs65598 (by omega) (by omega) (by have q := congrArg Int32.toInt ((M97574.2 131 12 (Or.inr (by decide))).trans z96998); omega) (by have q := congrArg Int32.toInt M97574.1; omega))⟩ dX12_skip_336
                            ·
                              have r97578 : R (1) (1) v65590 := ⟨by omega, by omega⟩
                              have p97579 := q65593 (by omega)
                              have r97580 : R (97) (122) v65553 := ⟨by omega, by omega⟩
                              have p97581 := q65556 (by omega)
                              refine r_bipush S dX12_skip_311 (by decide) (fun v97582 z97583 => ?_)
                              have r97584 := R_eq z97583
                              refine r_goto (tgt := 317) S dX12_skip_313 (by decide) ?_
                              refine r_icmp_le (tgt := 324) S dX12_skip_317 (by decide) (fun c97585 => ?_) (fun c97585 => ?_)
                              ·
                                have r97586 : R (0) (7) f96999 := ⟨by omega, by omega⟩
                                refine r_iload_n S dX12_skip_324 rfl (lv_at hl 1 rfl) ?_
                                refine r_if_eq (tgt := 332) S dX12_skip_325 (by decide) (fun c97587 => ?_) (fun c97587 => ?_)
                                ·
                                  exfalso; omega
                                ·
                                  refine r_iconst S dX12_skip_328 (by decide) (fun v97588 z97589 => ?_)
                                  have r97590 := R_eq z97589
                                  refine r_goto (tgt := 333) S dX12_skip_329 (by decide) ?_
                                  refine r_put (K := 38) (ty := .int) S X97531 (Nat.le_of_ble_eq_true rfl) rfl lk12_157_10 (fun _ => ⟨_, rfl, Nat.le_of_ble_eq_true rfl, rfl⟩) (fun _ _ _ h => by cases h; exact ⟨rfl, rfl⟩) rfl rfl dX12_skip_333 (fun t97591 H lc M97592 X97593 => ?_)
                                  have I97594 := Inv_mu I96990 M97592 (show Rg (kd 131) 11 v97588 from (R_of (lo := 0) (hi := 4) r97590 rfl))
                                  have F97595 : Fr [(131, 4), (131, 11), (131, 12), (131, 13), (131, 14)] [331] τ t97591 := Fr_mu F96991 M97592 (by decide)
                                  exact r_vret S hr hlk X97593 ⟨I97594, F97595, (by rw [((M97592.2 131 4 (Or.inr (by decide))).trans z96995)]; exact R_of r96994 rfl), (by rw [M97592.1]; exact R_of r97590 rfl), (by have h1_0 := congrArg Int32.toInt ((M97592.2 131 4 (Or.inr (by decide))).trans z96995); have h2_0 := congrArg Int32.toInt z2; omega), (by have h1_0 := congrArg Int32.toInt ((M97592.2 131 4 (Or.inr (by decide))).trans z96995); have h2_0 := congrArg Int32.toInt z2; have h1_1 := congrArg Int32.toInt M97592.1; omega), (MT_word (A := f223.toInt.toNat) (i := f96993.toInt.toNat) (sm := v65590.toInt) (al := i96987.toInt) (sp := f96999.toInt) (nu := f97002.toInt) (by rw [(qof_of (k := 131) (fun j => ((M97592.2 331 j (Or.inl (by decide))).trans rfl)) 17)]; exact x97006) (MB_eq hB (F97595 131 3 (by simp [fz])) (F97595 131 5 (by simp [fz])) (fun j => F97595 132 j (by simp [fz]))) ⟨by omega, by omega, x229, fun _ => by omega⟩ (by omega) (by omega) he97540 (by omega) (by omega) (by omega) (by have q := congrArg Int32.toInt ((M97592.2 131 12 (Or.inr (by decide))).trans z96998); omega) (by have q := congrArg Int32.toInt ((M97592.2 131 4 (Or.inr (by decide))).trans z96995); omega) (by have q := congrArg Int32.toInt M97592.1; omega))⟩ dX12_skip_336
                              ·
                                have r97596 : R (8) (940) f96999 := ⟨by omega, by omega⟩
                                refine r_iconst S dX12_skip_320 (by decide) (fun v97597 z97598 => ?_)
                                have r97599 := R_eq z97598
                                refine r_goto (tgt := 333) S dX12_skip_321 (by decide) ?_
                                refine r_put (K := 38) (ty := .int) S X97531 (Nat.le_of_ble_eq_true rfl) rfl lk12_157_10 (fun _ => ⟨_, rfl, Nat.le_of_ble_eq_true rfl, rfl⟩) (fun _ _ _ h => by cases h; exact ⟨rfl, rfl⟩) rfl rfl dX12_skip_333 (fun t97600 H lc M97601 X97602 => ?_)
                                have I97603 := Inv_mu I96990 M97601 (show Rg (kd 131) 11 v97597 from (R_of (lo := 0) (hi := 4) r97599 rfl))
                                have F97604 : Fr [(131, 4), (131, 11), (131, 12), (131, 13), (131, 14)] [331] τ t97600 := Fr_mu F96991 M97601 (by decide)
                                exact r_vret S hr hlk X97602 ⟨I97603, F97604, (by rw [((M97601.2 131 4 (Or.inr (by decide))).trans z96995)]; exact R_of r96994 rfl), (by rw [M97601.1]; exact R_of r97599 rfl), (by have h1_0 := congrArg Int32.toInt ((M97601.2 131 4 (Or.inr (by decide))).trans z96995); have h2_0 := congrArg Int32.toInt z2; omega), (by have h1_0 := congrArg Int32.toInt ((M97601.2 131 4 (Or.inr (by decide))).trans z96995); have h2_0 := congrArg Int32.toInt z2; have h1_1 := congrArg Int32.toInt M97601.1; omega), (MT_odd (A := f223.toInt.toNat) (i := f96993.toInt.toNat) (sm := v65590.toInt) (al := i96987.toInt) (sp := f96999.toInt) x97006 (MB_eq hB (F97604 131 3 (by simp [fz])) (F97604 131 5 (by simp [fz])) (fun j => F97604 132 j (by simp [fz]))) ⟨by omega, by omega, x229, fun _ => by omega⟩ (by omega) (by omega) he97540 hs65598 (by omega) (by omega) (by have q := congrArg Int32.toInt ((M97601.2 131 12 (Or.inr (by decide))).trans z96998); omega) (by have q := congrArg Int32.toInt M97601.1; omega))⟩ dX12_skip_336
                        ·
                          have r97605 : R (1) (1) v97533 := ⟨by omega, by omega⟩
                          have p97606 := q97536 (by omega)
                          have r97607 : R (48) (57) v97524 := ⟨by omega, by omega⟩
                          have p97608 := q97527 (by omega)
                          have r97609 : R (0) (939) f96993 := z96995 ▸ p97608
                          have r97610 : R (0) (939) f96993 := ⟨by omega, by omega⟩
                          obtain ⟨e97611, e97612⟩ := PK_in pk97529 (by omega)
                          obtain ⟨e97613, e97614, e97615⟩ := PK_at pk97529 e97611
                          refine r_iload_n S dX12_skip_201 rfl (lv_at hl 2 rfl) ?_
                          refine r_if_eq (tgt := 220) S dX12_skip_202 (by decide) (fun c97616 => ?_) (fun c97616 => ?_)
                          ·
                            have r97617 : R (0) (0) i96987 := ⟨by omega, by omega⟩
                            refine r_iconst S dX12_skip_220 (by decide) (fun v97618 z97619 => ?_)
                            have r97620 := R_eq z97619
                            refine r_istore_n (lv' := [(3, .int v97618), (0, .ref (G.2.2.2.1 131)), (2, .int v65590)]) S dX12_skip_221 rfl hl (by decide) rfl (fun ls hl => ?_)
                            refine r_aload_n S dX12_skip_222 rfl (lv_at hl 1 rfl) ?_
                            refine r_geti (K := 38) S X97531 (Nat.le_of_ble_eq_true rfl) rfl lk12_154_10 (fun _ => ⟨_, rfl, rfl⟩) z97001 dX12_skip_223 ?_
                            refine r_bipush S dX12_skip_226 (by decide) (fun v97621 z97622 => ?_)
                            have r97623 := R_eq z97622
                            refine r_icmp_ge (tgt := 248) S dX12_skip_228 (by decide) (fun c97624 => ?_) (fun c97624 => ?_)
                            ·
                              have r97625 : R (7) (940) f96999 := ⟨by omega, by omega⟩
                              refine r_aload_n S dX12_skip_248 rfl (lv_at hl 1 rfl) ?_
                              refine r_geti (K := 38) S X97531 (Nat.le_of_ble_eq_true rfl) rfl lk12_154_10 (fun _ => ⟨_, rfl, rfl⟩) z97001 dX12_skip_249 ?_
                              refine r_iconst S dX12_skip_252 (by decide) (fun v97626 z97627 => ?_)
                              have r97628 := R_eq z97627
                              refine r_icmp_ge (tgt := 275) S dX12_skip_253 (by decide) (fun c97629 => ?_) (fun c97629 => ?_)
                              ·
                                refine r_aload_n S dX12_skip_275 rfl (lv_at hl 1 rfl) ?_
                                refine r_dup S dX12_skip_276 rfl ?_
                                refine r_geti (K := 38) S X97531 (Nat.le_of_ble_eq_true rfl) rfl lk12_154_10 (fun _ => ⟨_, rfl, rfl⟩) z97001 dX12_skip_277 ?_
                                refine r_iconst S dX12_skip_280 (by decide) (fun v97630 z97631 => ?_)
                                have r97632 := R_eq z97631
                                refine r_iadd S dX12_skip_281 (fun v97633 z97634 => ?_)
                                obtain ⟨e97635, r97636⟩ := i_add (lo := 8) (hi := 941) z97634 r97625 r97632 rfl
                                refine r_put (K := 38) (ty := .int) S X97531 (Nat.le_of_ble_eq_true rfl) rfl lk12_154_10 (fun _ => ⟨_, rfl, Nat.le_of_ble_eq_true rfl, rfl⟩) (fun _ _ _ h => by cases h; exact ⟨rfl, rfl⟩) rfl rfl dX12_skip_282 (fun t97637 H lc M97638 X97639 => ?_)
                                have I97640 := Inv_mu I96990 M97638 (show Rg (kd 131) 13 v97633 from (show R (0) (940) v97633 from ⟨by omega, by omega⟩))
                                have F97641 : Fr [(131, 4), (131, 11), (131, 12), (131, 13), (131, 14)] [331] τ t97637 := Fr_mu F96991 M97638 (by decide)
                                have r97642 : R (8) (940) v97633 := ⟨by omega, by omega⟩
                                refine r_aload_n S dX12_skip_285 rfl (lv_at hl 1 rfl) ?_
                                refine r_dup S dX12_skip_286 rfl ?_
                                refine r_geti (K := 38) S X97639 (Nat.le_of_ble_eq_true rfl) rfl lk12_21_10 (fun _ => ⟨_, rfl, rfl⟩) ((M97638.2 131 4 (Or.inr (by decide))).trans z96995) dX12_skip_287 ?_
                                refine r_iconst S dX12_skip_290 (by decide) (fun v97643 z97644 => ?_)
                                have r97645 := R_eq z97644
                                refine r_iadd S dX12_skip_291 (fun v97646 z97647 => ?_)
                                obtain ⟨e97648, r97649⟩ := i_add (lo := 1) (hi := 940) z97647 r97610 r97645 rfl
                                refine r_put (K := 38) (ty := .int) S X97639 (Nat.le_of_ble_eq_true rfl) rfl lk12_21_10 (fun _ => ⟨_, rfl, Nat.le_of_ble_eq_true rfl, rfl⟩) (fun _ _ _ h => by cases h; exact ⟨rfl, rfl⟩) rfl rfl dX12_skip_292 (fun t97650 H lc M97651 X97652 => ?_)
                                have I97653 := Inv_mu I97640 M97651 (show Rg (kd 131) 4 v97646 from (R_of (lo := 0) (hi := 940) r97649 rfl))
                                have F97654 : Fr [(131, 4), (131, 11), (131, 12), (131, 13), (131, 14)] [331] τ t97650 := Fr_mu F97641 M97651 (by decide)
                                refine r_goto (tgt := 181) S dX12_skip_295 (by decide) ?_
                                exact ih97008 t97650 _ _ _ v97618 v97646 v97633 f97002 X97652 I97653 F97654 (R_of r97620 rfl) M97651.1 ⟨by omega, by omega⟩ ((M97651.2 131 3 (Or.inr (by decide))).trans ((M97638.2 131 3 (Or.inr (by decide))).trans z96996)) ((M97651.2 131 5 (Or.inr (by decide))).trans ((M97638.2 131 5 (Or.inr (by decide))).trans z96997)) ((M97651.2 131 12 (Or.inr (by decide))).trans ((M97638.2 131 12 (Or.inr (by decide))).trans z96998)) ((M97651.2 131 13 (Or.inr (by decide))).trans M97638.1) ⟨by omega, by omega⟩ ((M97651.2 131 14 (Or.inr (by decide))).trans ((M97638.2 131 14 (Or.inr (by decide))).trans z97004)) ⟨by omega, by omega⟩ (by rw [(qof_of (k := 131) (fun j => ((M97651.2 331 j (Or.inl (by decide))).trans ((M97638.2 331 j (Or.inl (by decide))).trans rfl))) 17)]; exact LM_upq (i := f96993) (sp := f96999) (al := i96987) x97006 hs65598 (by omega) (by omega) (fun _ _ h => by exfalso; omega) (fun _ _ h => by exfalso; omega) (by omega) (by omega) (by omega)) (by omega) (lv_sub hl [1, 2, 0] rfl) (by omega)
                              ·
                                exfalso; omega
                            ·
                              have r97655 : R (0) (6) f96999 := ⟨by omega, by omega⟩
                              refine r_aload_n S dX12_skip_231 rfl (lv_at hl 1 rfl) ?_
                              refine r_aload_n S dX12_skip_232 rfl (lv_at hl 1 rfl) ?_
                              refine r_getJ (K := 38) S X97531 (Nat.le_of_ble_eq_true rfl) rfl lk12_170_10 (fun _ => ⟨_, rfl, rfl⟩) dX12_skip_233 (fun j97656 z97657 => ?_)
                              refine r_bipush S dX12_skip_236 (by decide) (fun v97658 z97659 => ?_)
                              have r97660 := R_eq z97659
                              refine lv_lshl S.1.1 S.1.2.1 dX12_skip_238 rfl ?_
                              refine lv_topl (fun j97661 z97662 => ?_)
                              refine r_aload_n S dX12_skip_239 rfl (lv_at hl 1 rfl) ?_
                              refine r_ki (q_V (As := []) (rest := [.long j97661, .ref (G.2.2.2.1 131)]) (K := 38) (ci := 10) S X97531 (c_X12_peek_x l G t96989 I96990 ) ck12_147 (Nat.le_of_ble_eq_true rfl) rfl (fun _ => ⟨_, rfl⟩) ⟨_, _, rfl⟩ ⟨Nat.le_of_ble_eq_true rfl, Nat.le_of_ble_eq_true rfl⟩ rfl hl.1 rfl (Nat.le_of_ble_eq_true rfl) dX12_skip_240 ⟨Nat.le_refl 0, Nat.le_refl 0⟩) X97531 (fun v97666 t97665 H lc q97663 X97664 => ?_)
                              unfold po_X12_peek_x at q97663
                              obtain ⟨q97667, q97668, q97669, q97670⟩ := q97663
                              rw [q97667] at X97664
                              rw [q97667] at q97669
                              rw [q97667] at q97670
                              have pk97671 : PKf bb nb f96993 v97666 := pk_b hB I96990 (F96991 131 3 (by simp [fz])) (fun j => F96991 132 j (by simp [fz])) z96995 (by omega) q97670
                              obtain ⟨e97672, e97673, e97674⟩ := PK_at pk97671 (by omega)
                              refine lv_i2l S.1.1 S.1.2.1 dX12_skip_243 rfl ?_
                              refine lv_topl (fun j97675 z97676 => ?_)
                              refine lv_lor S.1.1 S.1.2.1 dX12_skip_244 ?_
                              refine lv_topl (fun j97677 z97678 => ?_)
                              refine r_putJ (K := 38) S X97664 (Nat.le_of_ble_eq_true rfl) rfl lk12_170_10 (fun _ => ⟨_, rfl, Nat.le_of_ble_eq_true rfl, rfl⟩) (fun _ _ _ h => by cases h; exact ⟨rfl, rfl⟩) dX12_skip_245 (fun t97680 H lc M97681 X97679 => ?_)
                              have I97682 := Inv_ml I96990 M97681
                              have F97683 : Fr [(131, 4), (131, 11), (131, 12), (131, 13), (131, 14)] [331] τ t97680 := Fr_ml F96991 M97681 (by decide)
                              refine r_aload_n S dX12_skip_248 rfl (lv_at hl 1 rfl) ?_
                              refine r_geti (K := 38) S X97679 (Nat.le_of_ble_eq_true rfl) rfl lk12_154_10 (fun _ => ⟨_, rfl, rfl⟩) ((M97681.1 131 (by decide) 13).trans z97001) dX12_skip_249 ?_
                              refine r_iconst S dX12_skip_252 (by decide) (fun v97684 z97685 => ?_)
                              have r97686 := R_eq z97685
                              refine r_icmp_ge (tgt := 275) S dX12_skip_253 (by decide) (fun c97687 => ?_) (fun c97687 => ?_)
                              ·
                                have r97688 : R (2) (6) f96999 := ⟨by omega, by omega⟩
                                refine r_aload_n S dX12_skip_275 rfl (lv_at hl 1 rfl) ?_
                                refine r_dup S dX12_skip_276 rfl ?_
                                refine r_geti (K := 38) S X97679 (Nat.le_of_ble_eq_true rfl) rfl lk12_154_10 (fun _ => ⟨_, rfl, rfl⟩) ((M97681.1 131 (by decide) 13).trans z97001) dX12_skip_277 ?_
                                refine r_iconst S dX12_skip_280 (by decide) (fun v97689 z97690 => ?_)
                                have r97691 := R_eq z97690
                                refine r_iadd S dX12_skip_281 (fun v97692 z97693 => ?_)
                                obtain ⟨e97694, r97695⟩ := i_add (lo := 3) (hi := 7) z97693 r97688 r97691 rfl
                                refine r_put (K := 38) (ty := .int) S X97679 (Nat.le_of_ble_eq_true rfl) rfl lk12_154_10 (fun _ => ⟨_, rfl, Nat.le_of_ble_eq_true rfl, rfl⟩) (fun _ _ _ h => by cases h; exact ⟨rfl, rfl⟩) rfl rfl dX12_skip_282 (fun t97696 H lc M97697 X97698 => ?_)
                                have I97699 := Inv_mu I97682 M97697 (show Rg (kd 131) 13 v97692 from (R_of (lo := 0) (hi := 940) r97695 rfl))
                                have F97700 : Fr [(131, 4), (131, 11), (131, 12), (131, 13), (131, 14)] [331] τ t97696 := Fr_mu F97683 M97697 (by decide)
                                refine r_aload_n S dX12_skip_285 rfl (lv_at hl 1 rfl) ?_
                                refine r_dup S dX12_skip_286 rfl ?_
                                refine r_geti (K := 38) S X97698 (Nat.le_of_ble_eq_true rfl) rfl lk12_21_10 (fun _ => ⟨_, rfl, rfl⟩) ((M97697.2 131 4 (Or.inr (by decide))).trans ((M97681.1 131 (by decide) 4).trans z96995)) dX12_skip_287 ?_
                                refine r_iconst S dX12_skip_290 (by decide) (fun v97701 z97702 => ?_)
                                have r97703 := R_eq z97702
                                refine r_iadd S dX12_skip_291 (fun v97704 z97705 => ?_)
                                obtain ⟨e97706, r97707⟩ := i_add (lo := 1) (hi := 940) z97705 r97610 r97703 rfl
                                refine r_put (K := 38) (ty := .int) S X97698 (Nat.le_of_ble_eq_true rfl) rfl lk12_21_10 (fun _ => ⟨_, rfl, Nat.le_of_ble_eq_true rfl, rfl⟩) (fun _ _ _ h => by cases h; exact ⟨rfl, rfl⟩) rfl rfl dX12_skip_292 (fun t97708 H lc M97709 X97710 => ?_)
                                have I97711 := Inv_mu I97699 M97709 (show Rg (kd 131) 4 v97704 from (R_of (lo := 0) (hi := 940) r97707 rfl))
                                have F97712 : Fr [(131, 4), (131, 11), (131, 12), (131, 13), (131, 14)] [331] τ t97708 := Fr_mu F97700 M97709 (by decide)
                                refine r_goto (tgt := 181) S dX12_skip_295 (by decide) ?_
                                exact ih97008 t97708 _ _ _ v97618 v97704 v97692 f97002 X97710 I97711 F97712 (R_of r97620 rfl) M97709.1 ⟨by omega, by omega⟩ ((M97709.2 131 3 (Or.inr (by decide))).trans ((M97697.2 131 3 (Or.inr (by decide))).trans ((M97681.1 131 (by decide) 3).trans z96996))) ((M97709.2 131 5 (Or.inr (by decide))).trans ((M97697.2 131 5 (Or.inr (by decide))).trans ((M97681.1 131 (by decide) 5).trans z96997))) ((M97709.2 131 12 (Or.inr (by decide))).trans ((M97697.2 131 12 (Or.inr (by decide))).trans ((M97681.1 131 (by decide) 12).trans z96998))) ((M97709.2 131 13 (Or.inr (by decide))).trans M97697.1) ⟨by omega, by omega⟩ ((M97709.2 131 14 (Or.inr (by decide))).trans ((M97697.2 131 14 (Or.inr (by decide))).trans ((M97681.1 131 (by decide) 14).trans z97004))) ⟨by omega, by omega⟩ (LM_upq (i := f96993) (sp := f96999) (al := i96987) x97006 hs65598 (by omega) (by omega) (LM_hw (x := v97666) (y := v97658) x97006 z97657 (by omega) (by rw [z97678, z97662, z97676]) ((qof_of (k := 131) (fun j => ((M97709.2 331 j (Or.inl (by decide))).trans ((M97697.2 331 j (Or.inl (by decide))).trans rfl))) 17).trans (Ml_upd M97681)) (by omega) (by omega)) (fun _ _ h => by exfalso; omega) (by omega) (by omega) (by omega)) (by omega) (lv_sub hl [1, 2, 0] rfl) (by omega)
                              ·
                                have r97713 : R (0) (1) f96999 := ⟨by omega, by omega⟩
                                refine r_aload_n S dX12_skip_256 rfl (lv_at hl 1 rfl) ?_
                                refine r_bipush S dX12_skip_257 (by decide) (fun v97714 z97715 => ?_)
                                have r97716 := R_eq z97715
                                refine r_aload_n S dX12_skip_259 rfl (lv_at hl 1 rfl) ?_
                                refine r_geti (K := 38) S X97679 (Nat.le_of_ble_eq_true rfl) rfl lk12_167_10 (fun _ => ⟨_, rfl, rfl⟩) ((M97681.1 131 (by decide) 14).trans z97004) dX12_skip_260 ?_
                                refine r_imul S dX12_skip_263 (fun v97717 z97718 => ?_)
                                have r97719 := R_any v97717
                                refine r_aload_n S dX12_skip_264 rfl (lv_at hl 1 rfl) ?_
                                refine r_ki (q_V (As := []) (rest := [.int v97717, .ref (G.2.2.2.1 131)]) (K := 38) (ci := 10) S X97679 (c_X12_peek_x l G t97680 I97682 ) ck12_147 (Nat.le_of_ble_eq_true rfl) rfl (fun _ => ⟨_, rfl⟩) ⟨_, _, rfl⟩ ⟨Nat.le_of_ble_eq_true rfl, Nat.le_of_ble_eq_true rfl⟩ rfl hl.1 rfl (Nat.le_of_ble_eq_true rfl) dX12_skip_265 ⟨Nat.le_refl 0, Nat.le_refl 0⟩) X97679 (fun v97723 t97722 H lc q97720 X97721 => ?_)
                                unfold po_X12_peek_x at q97720
                                obtain ⟨q97724, q97725, q97726, q97727⟩ := q97720
                                rw [q97724] at X97721
                                rw [q97724] at q97726
                                rw [q97724] at q97727
                                have pk97728 : PKf bb nb f96993 v97723 := pk_b hB I97682 (F97683 131 3 (by simp [fz])) (fun j => F97683 132 j (by simp [fz])) ((M97681.1 131 (by decide) 4).trans z96995) (by omega) q97727
                                obtain ⟨e97729, e97730, e97731⟩ := PK_at pk97728 (by omega)
                                refine r_iadd S dX12_skip_268 (fun v97732 z97733 => ?_)
                                have r97734 := R_any v97732
                                refine r_bipush S dX12_skip_269 (by decide) (fun v97735 z97736 => ?_)
                                have r97737 := R_eq z97736
                                refine r_isub S dX12_skip_271 (fun v97738 z97739 => ?_)
                                have r97740 := R_any v97738
                                refine r_put (K := 38) (ty := .int) S X97721 (Nat.le_of_ble_eq_true rfl) rfl lk12_167_10 (fun _ => ⟨_, rfl, Nat.le_of_ble_eq_true rfl, rfl⟩) (fun _ _ _ h => by cases h; exact ⟨rfl, rfl⟩) rfl rfl dX12_skip_272 (fun t97741 H lc M97742 X97743 => ?_)
                                have I97744 := Inv_mu I97682 M97742 (R_any v97738)
                                have F97745 : Fr [(131, 4), (131, 11), (131, 12), (131, 13), (131, 14)] [331] τ t97741 := Fr_mu F97683 M97742 (by decide)
                                refine r_aload_n S dX12_skip_275 rfl (lv_at hl 1 rfl) ?_
                                refine r_dup S dX12_skip_276 rfl ?_
                                refine r_geti (K := 38) S X97743 (Nat.le_of_ble_eq_true rfl) rfl lk12_154_10 (fun _ => ⟨_, rfl, rfl⟩) ((M97742.2 131 13 (Or.inr (by decide))).trans ((M97681.1 131 (by decide) 13).trans z97001)) dX12_skip_277 ?_
                                refine r_iconst S dX12_skip_280 (by decide) (fun v97746 z97747 => ?_)
                                have r97748 := R_eq z97747
                                refine r_iadd S dX12_skip_281 (fun v97749 z97750 => ?_)
                                obtain ⟨e97751, r97752⟩ := i_add (lo := 1) (hi := 2) z97750 r97713 r97748 rfl
                                refine r_put (K := 38) (ty := .int) S X97743 (Nat.le_of_ble_eq_true rfl) rfl lk12_154_10 (fun _ => ⟨_, rfl, Nat.le_of_ble_eq_true rfl, rfl⟩) (fun _ _ _ h => by cases h; exact ⟨rfl, rfl⟩) rfl rfl dX12_skip_282 (fun t97753 H lc M97754 X97755 => ?_)
                                have I97756 := Inv_mu I97744 M97754 (show Rg (kd 131) 13 v97749 from (R_of (lo := 0) (hi := 940) r97752 rfl))
                                have F97757 : Fr [(131, 4), (131, 11), (131, 12), (131, 13), (131, 14)] [331] τ t97753 := Fr_mu F97745 M97754 (by decide)
                                refine r_aload_n S dX12_skip_285 rfl (lv_at hl 1 rfl) ?_
                                refine r_dup S dX12_skip_286 rfl ?_
                                refine r_geti (K := 38) S X97755 (Nat.le_of_ble_eq_true rfl) rfl lk12_21_10 (fun _ => ⟨_, rfl, rfl⟩) ((M97754.2 131 4 (Or.inr (by decide))).trans ((M97742.2 131 4 (Or.inr (by decide))).trans ((M97681.1 131 (by decide) 4).trans z96995))) dX12_skip_287 ?_
                                refine r_iconst S dX12_skip_290 (by decide) (fun v97758 z97759 => ?_)
                                have r97760 := R_eq z97759
                                refine r_iadd S dX12_skip_291 (fun v97761 z97762 => ?_)
                                obtain ⟨e97763, r97764⟩ := i_add (lo := 1) (hi := 940) z97762 r97610 r97760 rfl
                                refine r_put (K := 38) (ty := .int) S X97755 (Nat.le_of_ble_eq_true rfl) rfl lk12_21_10 (fun _ => ⟨_, rfl, Nat.le_of_ble_eq_true rfl, rfl⟩) (fun _ _ _ h => by cases h; exact ⟨rfl, rfl⟩) rfl rfl dX12_skip_292 (fun t97765 H lc M97766 X97767 => ?_)
                                have I97768 := Inv_mu I97756 M97766 (show Rg (kd 131) 4 v97761 from (R_of (lo := 0) (hi := 940) r97764 rfl))
                                have F97769 : Fr [(131, 4), (131, 11), (131, 12), (131, 13), (131, 14)] [331] τ t97765 := Fr_mu F97757 M97766 (by decide)
                                refine r_goto (tgt := 181) S dX12_skip_295 (by decide) ?_
                                exact ih97008 t97765 _ _ _ v97618 v97761 v97749 v97738 X97767 I97768 F97769 (R_of r97620 rfl) M97766.1 ⟨by omega, by omega⟩ ((M97766.2 131 3 (Or.inr (by decide))).trans ((M97754.2 131 3 (Or.inr (by decide))).trans ((M97742.2 131 3 (Or.inr (by decide))).trans ((M97681.1 131 (by decide) 3).trans z96996)))) ((M97766.2 131 5 (Or.inr (by decide))).trans ((M97754.2 131 5 (Or.inr (by decide))).trans ((M97742.2 131 5 (Or.inr (by decide))).trans ((M97681.1 131 (by decide) 5).trans z96997)))) ((M97766.2 131 12 (Or.inr (by decide))).trans ((M97754.2 131 12 (Or.inr (by decide))).trans ((M97742.2 131 12 (Or.inr (by decide))).trans ((M97681.1 131 (by decide) 12).trans z96998)))) ((M97766.2 131 13 (Or.inr (by decide))).trans M97754.1) ⟨by omega, by omega⟩ ((M97766.2 131 14 (Or.inr (by decide))).trans ((M97754.2 131 14 (Or.inr (by decide))).trans M97742.1)) ⟨by omega, by omega⟩ (LM_upq (i := f96993) (sp := f96999) (al := i96987) x97006 hs65598 (by omega) (by omega) (LM_hw (x := v97666) (y := v97658) x97006 z97657 (by omega) (by rw [z97678, z97662, z97676]) ((qof_of (k := 131) (fun j => ((M97766.2 331 j (Or.inl (by decide))).trans ((M97754.2 331 j (Or.inl (by decide))).trans ((M97742.2 331 j (Or.inl (by decide))).trans rfl)))) 17).trans (Ml_upd M97681)) (by omega) (by omega)) (LM_hn (c := v97714) (x := v97723) (d := v97735) x97006 (by omega) z97718 z97733 (by omega) z97739 (by omega) (by omega)) (by omega) (by omega) (by omega)) (by omega) (lv_sub hl [1, 2, 0] rfl) (by omega)
                          ·
                            have r97770 : R (1) (1) i96987 := ⟨by omega, by omega⟩
                            refine r_aload_n S dX12_skip_205 rfl (lv_at hl 0 rfl) ?_
                            refine r_ki (q_V (As := []) (rest := []) (K := 38) (ci := 10) S X97531 (c_X12_peek_x l G t96989 I96990 ) ck12_147 (Nat.le_of_ble_eq_true rfl) rfl (fun _ => ⟨_, rfl⟩) ⟨_, _, rfl⟩ ⟨Nat.le_of_ble_eq_true rfl, Nat.le_of_ble_eq_true rfl⟩ rfl hl.1 rfl (Nat.le_of_ble_eq_true rfl) dX12_skip_206 ⟨Nat.le_refl 0, Nat.le_refl 0⟩) X97531 (fun v97774 t97773 H lc q97771 X97772 => ?_)
                            unfold po_X12_peek_x at q97771
                            obtain ⟨q97775, q97776, q97777, q97778⟩ := q97771
                            rw [q97775] at X97772
                            rw [q97775] at q97777
                            rw [q97775] at q97778
                            have pk97779 : PKf bb nb f96993 v97774 := pk_b hB I96990 (F96991 131 3 (by simp [fz])) (fun j => F96991 132 j (by simp [fz])) z96995 (by omega) q97778
                            obtain ⟨e97780, e97781, e97782⟩ := PK_at pk97779 (by omega)
                            refine r_ki (q_S (As := [.int v97774]) (rest := []) S X97772 (c_X12_isSmall_x l G t96989 I96990 v97774 (R_of (lo := -2147483648) (hi := 2147483647) q97776 rfl)) ck12_160 ⟨Nat.le_of_ble_eq_true rfl, Nat.le_of_ble_eq_true rfl⟩ rfl hl.1 rfl (Nat.le_of_ble_eq_true rfl) dX12_skip_209 ⟨Nat.le_refl 0, Nat.le_refl 0⟩) X97772 (fun v97786 t97785 H lc q97783 X97784 => ?_)
                            unfold po_X12_isSmall_x at q97783
                            obtain ⟨q97787, q97788, q97789, q97790⟩ := q97783
                            rw [q97787] at X97784
                            refine r_iload_n S dX12_skip_212 rfl (lv_at hl 1 rfl) ?_
                            refine r_icmp_ne (tgt := 220) S dX12_skip_213 (by decide) (fun c97791 => ?_) (fun c97791 => ?_)
                            ·
                              refine r_iconst S dX12_skip_220 (by decide) (fun v97792 z97793 => ?_)
                              have r97794 := R_eq z97793
                              refine r_istore_n (lv' := [(3, .int v97792), (0, .ref (G.2.2.2.1 131)), (2, .int v65590)]) S dX12_skip_221 rfl hl (by decide) rfl (fun ls hl => ?_)
                              refine r_aload_n S dX12_skip_222 rfl (lv_at hl 1 rfl) ?_
                              refine r_geti (K := 38) S X97784 (Nat.le_of_ble_eq_true rfl) rfl lk12_154_10 (fun _ => ⟨_, rfl, rfl⟩) z97001 dX12_skip_223 ?_
                              refine r_bipush S dX12_skip_226 (by decide) (fun v97795 z97796 => ?_)
                              have r97797 := R_eq z97796
                              refine r_icmp_ge (tgt := 248) S dX12_skip_228 (by decide) (fun c97798 => ?_) (fun c97798 => ?_)
                              ·
                                have r97799 : R (7) (940) f96999 := ⟨by omega, by omega⟩
                                refine r_aload_n S dX12_skip_248 rfl (lv_at hl 1 rfl) ?_
                                refine r_geti (K := 38) S X97784 (Nat.le_of_ble_eq_true rfl) rfl lk12_154_10 (fun _ => ⟨_, rfl, rfl⟩) z97001 dX12_skip_249 ?_
                                refine r_iconst S dX12_skip_252 (by decide) (fun v97800 z97801 => ?_)
                                have r97802 := R_eq z97801
                                refine r_icmp_ge (tgt := 275) S dX12_skip_253 (by decide) (fun c97803 => ?_) (fun c97803 => ?_)
                                ·
                                  refine r_aload_n S dX12_skip_275 rfl (lv_at hl 1 rfl) ?_
                                  refine r_dup S dX12_skip_276 rfl ?_
                                  refine r_geti (K := 38) S X97784 (Nat.le_of_ble_eq_true rfl) rfl lk12_154_10 (fun _ => ⟨_, rfl, rfl⟩) z97001 dX12_skip_277 ?_
                                  refine r_iconst S dX12_skip_280 (by decide) (fun v97804 z97805 => ?_)
                                  have r97806 := R_eq z97805
                                  refine r_iadd S dX12_skip_281 (fun v97807 z97808 => ?_)
                                  obtain ⟨e97809, r97810⟩ := i_add (lo := 8) (hi := 941) z97808 r97799 r97806 rfl
                                  refine r_put (K := 38) (ty := .int) S X97784 (Nat.le_of_ble_eq_true rfl) rfl lk12_154_10 (fun _ => ⟨_, rfl, Nat.le_of_ble_eq_true rfl, rfl⟩) (fun _ _ _ h => by cases h; exact ⟨rfl, rfl⟩) rfl rfl dX12_skip_282 (fun t97811 H lc M97812 X97813 => ?_)
                                  have I97814 := Inv_mu I96990 M97812 (show Rg (kd 131) 13 v97807 from (show R (0) (940) v97807 from ⟨by omega, by omega⟩))
                                  have F97815 : Fr [(131, 4), (131, 11), (131, 12), (131, 13), (131, 14)] [331] τ t97811 := Fr_mu F96991 M97812 (by decide)
                                  have r97816 : R (8) (940) v97807 := ⟨by omega, by omega⟩
                                  refine r_aload_n S dX12_skip_285 rfl (lv_at hl 1 rfl) ?_
                                  refine r_dup S dX12_skip_286 rfl ?_
                                  refine r_geti (K := 38) S X97813 (Nat.le_of_ble_eq_true rfl) rfl lk12_21_10 (fun _ => ⟨_, rfl, rfl⟩) ((M97812.2 131 4 (Or.inr (by decide))).trans z96995) dX12_skip_287 ?_
                                  refine r_iconst S dX12_skip_290 (by decide) (fun v97817 z97818 => ?_)
                                  have r97819 := R_eq z97818
                                  refine r_iadd S dX12_skip_291 (fun v97820 z97821 => ?_)
                                  obtain ⟨e97822, r97823⟩ := i_add (lo := 1) (hi := 940) z97821 r97610 r97819 rfl
                                  refine r_put (K := 38) (ty := .int) S X97813 (Nat.le_of_ble_eq_true rfl) rfl lk12_21_10 (fun _ => ⟨_, rfl, Nat.le_of_ble_eq_true rfl, rfl⟩) (fun _ _ _ h => by cases h; exact ⟨rfl, rfl⟩) rfl rfl dX12_skip_292 (fun t97824 H lc M97825 X97826 => ?_)
                                  have I97827 := Inv_mu I97814 M97825 (show Rg (kd 131) 4 v97820 from (R_of (lo := 0) (hi := 940) r97823 rfl))
                                  have F97828 : Fr [(131, 4), (131, 11), (131, 12), (131, 13), (131, 14)] [331] τ t97824 := Fr_mu F97815 M97825 (by decide)
                                  refine r_goto (tgt := 181) S dX12_skip_295 (by decide) ?_
                                  exact ih97008 t97824 _ _ _ v97792 v97820 v97807 f97002 X97826 I97827 F97828 (R_of r97794 rfl) M97825.1 ⟨by omega, by omega⟩ ((M97825.2 131 3 (Or.inr (by decide))).trans ((M97812.2 131 3 (Or.inr (by decide))).trans z96996)) ((M97825.2 131 5 (Or.inr (by decide))).trans ((M97812.2 131 5 (Or.inr (by decide))).trans z96997)) ((M97825.2 131 12 (Or.inr (by decide))).trans ((M97812.2 131 12 (Or.inr (by decide))).trans z96998)) ((M97825.2 131 13 (Or.inr (by decide))).trans M97812.1) ⟨by omega, by omega⟩ ((M97825.2 131 14 (Or.inr (by decide))).trans ((M97812.2 131 14 (Or.inr (by decide))).trans z97004)) ⟨by omega, by omega⟩ (by rw [(qof_of (k := 131) (fun j => ((M97825.2 331 j (Or.inl (by decide))).trans ((M97812.2 331 j (Or.inl (by decide))).trans rfl))) 17)]; exact LM_upq (i := f96993) (sp := f96999) (al := i96987) x97006 hs65598 (by omega) (by omega) (fun _ _ h => by exfalso; omega) (fun _ _ h => by exfalso; omega) (by omega) (by omega) (by omega)) (by omega) (lv_sub hl [1, 2, 0] rfl) (by omega)
                                ·
                                  exfalso; omega
                              ·
                                have r97829 : R (0) (6) f96999 := ⟨by omega, by omega⟩
                                refine r_aload_n S dX12_skip_231 rfl (lv_at hl 1 rfl) ?_
                                refine r_aload_n S dX12_skip_232 rfl (lv_at hl 1 rfl) ?_
                                refine r_getJ (K := 38) S X97784 (Nat.le_of_ble_eq_true rfl) rfl lk12_170_10 (fun _ => ⟨_, rfl, rfl⟩) dX12_skip_233 (fun j97830 z97831 => ?_)
                                refine r_bipush S dX12_skip_236 (by decide) (fun v97832 z97833 => ?_)
                                have r97834 := R_eq z97833
                                refine lv_lshl S.1.1 S.1.2.1 dX12_skip_238 rfl ?_
                                refine lv_topl (fun j97835 z97836 => ?_)
                                refine r_aload_n S dX12_skip_239 rfl (lv_at hl 1 rfl) ?_
                                refine r_ki (q_V (As := []) (rest := [.long j97835, .ref (G.2.2.2.1 131)]) (K := 38) (ci := 10) S X97784 (c_X12_peek_x l G t96989 I96990 ) ck12_147 (Nat.le_of_ble_eq_true rfl) rfl (fun _ => ⟨_, rfl⟩) ⟨_, _, rfl⟩ ⟨Nat.le_of_ble_eq_true rfl, Nat.le_of_ble_eq_true rfl⟩ rfl hl.1 rfl (Nat.le_of_ble_eq_true rfl) dX12_skip_240 ⟨Nat.le_refl 0, Nat.le_refl 0⟩) X97784 (fun v97840 t97839 H lc q97837 X97838 => ?_)
                                unfold po_X12_peek_x at q97837
                                obtain ⟨q97841, q97842, q97843, q97844⟩ := q97837
                                rw [q97841] at X97838
                                rw [q97841] at q97843
                                rw [q97841] at q97844
                                have pk97845 : PKf bb nb f96993 v97840 := pk_b hB I96990 (F96991 131 3 (by simp [fz])) (fun j => F96991 132 j (by simp [fz])) z96995 (by omega) q97844
                                obtain ⟨e97846, e97847, e97848⟩ := PK_at pk97845 (by omega)
                                refine lv_i2l S.1.1 S.1.2.1 dX12_skip_243 rfl ?_
                                refine lv_topl (fun j97849 z97850 => ?_)
                                refine lv_lor S.1.1 S.1.2.1 dX12_skip_244 ?_
                                refine lv_topl (fun j97851 z97852 => ?_)
                                refine r_putJ (K := 38) S X97838 (Nat.le_of_ble_eq_true rfl) rfl lk12_170_10 (fun _ => ⟨_, rfl, Nat.le_of_ble_eq_true rfl, rfl⟩) (fun _ _ _ h => by cases h; exact ⟨rfl, rfl⟩) dX12_skip_245 (fun t97854 H lc M97855 X97853 => ?_)
                                have I97856 := Inv_ml I96990 M97855
                                have F97857 : Fr [(131, 4), (131, 11), (131, 12), (131, 13), (131, 14)] [331] τ t97854 := Fr_ml F96991 M97855 (by decide)
                                refine r_aload_n S dX12_skip_248 rfl (lv_at hl 1 rfl) ?_
                                refine r_geti (K := 38) S X97853 (Nat.le_of_ble_eq_true rfl) rfl lk12_154_10 (fun _ => ⟨_, rfl, rfl⟩) ((M97855.1 131 (by decide) 13).trans z97001) dX12_skip_249 ?_
                                refine r_iconst S dX12_skip_252 (by decide) (fun v97858 z97859 => ?_)
                                have r97860 := R_eq z97859
                                refine r_icmp_ge (tgt := 275) S dX12_skip_253 (by decide) (fun c97861 => ?_) (fun c97861 => ?_)
                                ·
                                  have r97862 : R (2) (6) f96999 := ⟨by omega, by omega⟩
                                  refine r_aload_n S dX12_skip_275 rfl (lv_at hl 1 rfl) ?_
                                  refine r_dup S dX12_skip_276 rfl ?_
                                  refine r_geti (K := 38) S X97853 (Nat.le_of_ble_eq_true rfl) rfl lk12_154_10 (fun _ => ⟨_, rfl, rfl⟩) ((M97855.1 131 (by decide) 13).trans z97001) dX12_skip_277 ?_
                                  refine r_iconst S dX12_skip_280 (by decide) (fun v97863 z97864 => ?_)
                                  have r97865 := R_eq z97864
                                  refine r_iadd S dX12_skip_281 (fun v97866 z97867 => ?_)
                                  obtain ⟨e97868, r97869⟩ := i_add (lo := 3) (hi := 7) z97867 r97862 r97865 rfl
                                  refine r_put (K := 38) (ty := .int) S X97853 (Nat.le_of_ble_eq_true rfl) rfl lk12_154_10 (fun _ => ⟨_, rfl, Nat.le_of_ble_eq_true rfl, rfl⟩) (fun _ _ _ h => by cases h; exact ⟨rfl, rfl⟩) rfl rfl dX12_skip_282 (fun t97870 H lc M97871 X97872 => ?_)
                                  have I97873 := Inv_mu I97856 M97871 (show Rg (kd 131) 13 v97866 from (R_of (lo := 0) (hi := 940) r97869 rfl))
                                  have F97874 : Fr [(131, 4), (131, 11), (131, 12), (131, 13), (131, 14)] [331] τ t97870 := Fr_mu F97857 M97871 (by decide)
                                  refine r_aload_n S dX12_skip_285 rfl (lv_at hl 1 rfl) ?_
                                  refine r_dup S dX12_skip_286 rfl ?_
                                  refine r_geti (K := 38) S X97872 (Nat.le_of_ble_eq_true rfl) rfl lk12_21_10 (fun _ => ⟨_, rfl, rfl⟩) ((M97871.2 131 4 (Or.inr (by decide))).trans ((M97855.1 131 (by decide) 4).trans z96995)) dX12_skip_287 ?_
                                  refine r_iconst S dX12_skip_290 (by decide) (fun v97875 z97876 => ?_)
                                  have r97877 := R_eq z97876
                                  refine r_iadd S dX12_skip_291 (fun v97878 z97879 => ?_)
                                  obtain ⟨e97880, r97881⟩ := i_add (lo := 1) (hi := 940) z97879 r97610 r97877 rfl
                                  refine r_put (K := 38) (ty := .int) S X97872 (Nat.le_of_ble_eq_true rfl) rfl lk12_21_10 (fun _ => ⟨_, rfl, Nat.le_of_ble_eq_true rfl, rfl⟩) (fun _ _ _ h => by cases h; exact ⟨rfl, rfl⟩) rfl rfl dX12_skip_292 (fun t97882 H lc M97883 X97884 => ?_)
                                  have I97885 := Inv_mu I97873 M97883 (show Rg (kd 131) 4 v97878 from (R_of (lo := 0) (hi := 940) r97881 rfl))
                                  have F97886 : Fr [(131, 4), (131, 11), (131, 12), (131, 13), (131, 14)] [331] τ t97882 := Fr_mu F97874 M97883 (by decide)
                                  refine r_goto (tgt := 181) S dX12_skip_295 (by decide) ?_
                                  exact ih97008 t97882 _ _ _ v97792 v97878 v97866 f97002 X97884 I97885 F97886 (R_of r97794 rfl) M97883.1 ⟨by omega, by omega⟩ ((M97883.2 131 3 (Or.inr (by decide))).trans ((M97871.2 131 3 (Or.inr (by decide))).trans ((M97855.1 131 (by decide) 3).trans z96996))) ((M97883.2 131 5 (Or.inr (by decide))).trans ((M97871.2 131 5 (Or.inr (by decide))).trans ((M97855.1 131 (by decide) 5).trans z96997))) ((M97883.2 131 12 (Or.inr (by decide))).trans ((M97871.2 131 12 (Or.inr (by decide))).trans ((M97855.1 131 (by decide) 12).trans z96998))) ((M97883.2 131 13 (Or.inr (by decide))).trans M97871.1) ⟨by omega, by omega⟩ ((M97883.2 131 14 (Or.inr (by decide))).trans ((M97871.2 131 14 (Or.inr (by decide))).trans ((M97855.1 131 (by decide) 14).trans z97004))) ⟨by omega, by omega⟩ (LM_upq (i := f96993) (sp := f96999) (al := i96987) x97006 hs65598 (by omega) (by omega) (LM_hw (x := v97840) (y := v97832) x97006 z97831 (by omega) (by rw [z97852, z97836, z97850]) ((qof_of (k := 131) (fun j => ((M97883.2 331 j (Or.inl (by decide))).trans ((M97871.2 331 j (Or.inl (by decide))).trans rfl))) 17).trans (Ml_upd M97855)) (by omega) (by omega)) (fun _ _ h => by exfalso; omega) (by omega) (by omega) (by omega)) (by omega) (lv_sub hl [1, 2, 0] rfl) (by omega)
                                ·
                                  have r97887 : R (0) (1) f96999 := ⟨by omega, by omega⟩
                                  refine r_aload_n S dX12_skip_256 rfl (lv_at hl 1 rfl) ?_
                                  refine r_bipush S dX12_skip_257 (by decide) (fun v97888 z97889 => ?_)
                                  have r97890 := R_eq z97889
                                  refine r_aload_n S dX12_skip_259 rfl (lv_at hl 1 rfl) ?_
                                  refine r_geti (K := 38) S X97853 (Nat.le_of_ble_eq_true rfl) rfl lk12_167_10 (fun _ => ⟨_, rfl, rfl⟩) ((M97855.1 131 (by decide) 14).trans z97004) dX12_skip_260 ?_
                                  refine r_imul S dX12_skip_263 (fun v97891 z97892 => ?_)
                                  have r97893 := R_any v97891
                                  refine r_aload_n S dX12_skip_264 rfl (lv_at hl 1 rfl) ?_
                                  refine r_ki (q_V (As := []) (rest := [.int v97891, .ref (G.2.2.2.1 131)]) (K := 38) (ci := 10) S X97853 (c_X12_peek_x l G t97854 I97856 ) ck12_147 (Nat.le_of_ble_eq_true rfl) rfl (fun _ => ⟨_, rfl⟩) ⟨_, _, rfl⟩ ⟨Nat.le_of_ble_eq_true rfl, Nat.le_of_ble_eq_true rfl⟩ rfl hl.1 rfl (Nat.le_of_ble_eq_true rfl) dX12_skip_265 ⟨Nat.le_refl 0, Nat.le_refl 0⟩) X97853 (fun v97897 t97896 H lc q97894 X97895 => ?_)
                                  unfold po_X12_peek_x at q97894
                                  obtain ⟨q97898, q97899, q97900, q97901⟩ := q97894
                                  rw [q97898] at X97895
                                  rw [q97898] at q97900
                                  rw [q97898] at q97901
                                  have pk97902 : PKf bb nb f96993 v97897 := pk_b hB I97856 (F97857 131 3 (by simp [fz])) (fun j => F97857 132 j (by simp [fz])) ((M97855.1 131 (by decide) 4).trans z96995) (by omega) q97901
                                  obtain ⟨e97903, e97904, e97905⟩ := PK_at pk97902 (by omega)
                                  refine r_iadd S dX12_skip_268 (fun v97906 z97907 => ?_)
                                  have r97908 := R_any v97906
                                  refine r_bipush S dX12_skip_269 (by decide) (fun v97909 z97910 => ?_)
                                  have r97911 := R_eq z97910
                                  refine r_isub S dX12_skip_271 (fun v97912 z97913 => ?_)
                                  have r97914 := R_any v97912
                                  refine r_put (K := 38) (ty := .int) S X97895 (Nat.le_of_ble_eq_true rfl) rfl lk12_167_10 (fun _ => ⟨_, rfl, Nat.le_of_ble_eq_true rfl, rfl⟩) (fun _ _ _ h => by cases h; exact ⟨rfl, rfl⟩) rfl rfl dX12_skip_272 (fun t97915 H lc M97916 X97917 => ?_)
                                  have I97918 := Inv_mu I97856 M97916 (R_any v97912)
                                  have F97919 : Fr [(131, 4), (131, 11), (131, 12), (131, 13), (131, 14)] [331] τ t97915 := Fr_mu F97857 M97916 (by decide)
                                  refine r_aload_n S dX12_skip_275 rfl (lv_at hl 1 rfl) ?_
                                  refine r_dup S dX12_skip_276 rfl ?_
                                  refine r_geti (K := 38) S X97917 (Nat.le_of_ble_eq_true rfl) rfl lk12_154_10 (fun _ => ⟨_, rfl, rfl⟩) ((M97916.2 131 13 (Or.inr (by decide))).trans ((M97855.1 131 (by decide) 13).trans z97001)) dX12_skip_277 ?_
                                  refine r_iconst S dX12_skip_280 (by decide) (fun v97920 z97921 => ?_)
                                  have r97922 := R_eq z97921
                                  refine r_iadd S dX12_skip_281 (fun v97923 z97924 => ?_)
                                  obtain ⟨e97925, r97926⟩ := i_add (lo := 1) (hi := 2) z97924 r97887 r97922 rfl
                                  refine r_put (K := 38) (ty := .int) S X97917 (Nat.le_of_ble_eq_true rfl) rfl lk12_154_10 (fun _ => ⟨_, rfl, Nat.le_of_ble_eq_true rfl, rfl⟩) (fun _ _ _ h => by cases h; exact ⟨rfl, rfl⟩) rfl rfl dX12_skip_282 (fun t97927 H lc M97928 X97929 => ?_)
                                  have I97930 := Inv_mu I97918 M97928 (show Rg (kd 131) 13 v97923 from (R_of (lo := 0) (hi := 940) r97926 rfl))
                                  have F97931 : Fr [(131, 4), (131, 11), (131, 12), (131, 13), (131, 14)] [331] τ t97927 := Fr_mu F97919 M97928 (by decide)
                                  refine r_aload_n S dX12_skip_285 rfl (lv_at hl 1 rfl) ?_
                                  refine r_dup S dX12_skip_286 rfl ?_
                                  refine r_geti (K := 38) S X97929 (Nat.le_of_ble_eq_true rfl) rfl lk12_21_10 (fun _ => ⟨_, rfl, rfl⟩) ((M97928.2 131 4 (Or.inr (by decide))).trans ((M97916.2 131 4 (Or.inr (by decide))).trans ((M97855.1 131 (by decide) 4).trans z96995))) dX12_skip_287 ?_
                                  refine r_iconst S dX12_skip_290 (by decide) (fun v97932 z97933 => ?_)
                                  have r97934 := R_eq z97933
                                  refine r_iadd S dX12_skip_291 (fun v97935 z97936 => ?_)
                                  obtain ⟨e97937, r97938⟩ := i_add (lo := 1) (hi := 940) z97936 r97610 r97934 rfl
                                  refine r_put (K := 38) (ty := .int) S X97929 (Nat.le_of_ble_eq_true rfl) rfl lk12_21_10 (fun _ => ⟨_, rfl, Nat.le_of_ble_eq_true rfl, rfl⟩) (fun _ _ _ h => by cases h; exact ⟨rfl, rfl⟩) rfl rfl dX12_skip_292 (fun t97939 H lc M97940 X97941 => ?_)
                                  have I97942 := Inv_mu I97930 M97940 (show Rg (kd 131) 4 v97935 from (R_of (lo := 0) (hi := 940) r97938 rfl))
                                  have F97943 : Fr [(131, 4), (131, 11), (131, 12), (131, 13), (131, 14)] [331] τ t97939 := Fr_mu F97931 M97940 (by decide)
                                  refine r_goto (tgt := 181) S dX12_skip_295 (by decide) ?_
                                  exact ih97008 t97939 _ _ _ v97792 v97935 v97923 v97912 X97941 I97942 F97943 (R_of r97794 rfl) M97940.1 ⟨by omega, by omega⟩ ((M97940.2 131 3 (Or.inr (by decide))).trans ((M97928.2 131 3 (Or.inr (by decide))).trans ((M97916.2 131 3 (Or.inr (by decide))).trans ((M97855.1 131 (by decide) 3).trans z96996)))) ((M97940.2 131 5 (Or.inr (by decide))).trans ((M97928.2 131 5 (Or.inr (by decide))).trans ((M97916.2 131 5 (Or.inr (by decide))).trans ((M97855.1 131 (by decide) 5).trans z96997)))) ((M97940.2 131 12 (Or.inr (by decide))).trans ((M97928.2 131 12 (Or.inr (by decide))).trans ((M97916.2 131 12 (Or.inr (by decide))).trans ((M97855.1 131 (by decide) 12).trans z96998)))) ((M97940.2 131 13 (Or.inr (by decide))).trans M97928.1) ⟨by omega, by omega⟩ ((M97940.2 131 14 (Or.inr (by decide))).trans ((M97928.2 131 14 (Or.inr (by decide))).trans M97916.1)) ⟨by omega, by omega⟩ (LM_upq (i := f96993) (sp := f96999) (al := i96987) x97006 hs65598 (by omega) (by omega) (LM_hw (x := v97840) (y := v97832) x97006 z97831 (by omega) (by rw [z97852, z97836, z97850]) ((qof_of (k := 131) (fun j => ((M97940.2 331 j (Or.inl (by decide))).trans ((M97928.2 331 j (Or.inl (by decide))).trans ((M97916.2 331 j (Or.inl (by decide))).trans rfl)))) 17).trans (Ml_upd M97855)) (by omega) (by omega)) (LM_hn (c := v97888) (x := v97897) (d := v97909) x97006 (by omega) z97892 z97907 (by omega) z97913 (by omega) (by omega)) (by omega) (by omega) (by omega)) (by omega) (lv_sub hl [1, 2, 0] rfl) (by omega)
                            ·
                              refine r_iconst S dX12_skip_216 (by decide) (fun v97944 z97945 => ?_)
                              have r97946 := R_eq z97945
                              refine r_goto (tgt := 221) S dX12_skip_217 (by decide) ?_
                              refine r_istore_n (lv' := [(3, .int v97944), (0, .ref (G.2.2.2.1 131)), (2, .int v65590)]) S dX12_skip_221 rfl hl (by decide) rfl (fun ls hl => ?_)
                              refine r_aload_n S dX12_skip_222 rfl (lv_at hl 1 rfl) ?_
                              refine r_geti (K := 38) S X97784 (Nat.le_of_ble_eq_true rfl) rfl lk12_154_10 (fun _ => ⟨_, rfl, rfl⟩) z97001 dX12_skip_223 ?_
                              refine r_bipush S dX12_skip_226 (by decide) (fun v97947 z97948 => ?_)
                              have r97949 := R_eq z97948
                              refine r_icmp_ge (tgt := 248) S dX12_skip_228 (by decide) (fun c97950 => ?_) (fun c97950 => ?_)
                              ·
                                have r97951 : R (7) (940) f96999 := ⟨by omega, by omega⟩
                                refine r_aload_n S dX12_skip_248 rfl (lv_at hl 1 rfl) ?_
                                refine r_geti (K := 38) S X97784 (Nat.le_of_ble_eq_true rfl) rfl lk12_154_10 (fun _ => ⟨_, rfl, rfl⟩) z97001 dX12_skip_249 ?_
                                refine r_iconst S dX12_skip_252 (by decide) (fun v97952 z97953 => ?_)
                                have r97954 := R_eq z97953
                                refine r_icmp_ge (tgt := 275) S dX12_skip_253 (by decide) (fun c97955 => ?_) (fun c97955 => ?_)
                                ·
                                  refine r_aload_n S dX12_skip_275 rfl (lv_at hl 1 rfl) ?_
                                  refine r_dup S dX12_skip_276 rfl ?_
                                  refine r_geti (K := 38) S X97784 (Nat.le_of_ble_eq_true rfl) rfl lk12_154_10 (fun _ => ⟨_, rfl, rfl⟩) z97001 dX12_skip_277 ?_
                                  refine r_iconst S dX12_skip_280 (by decide) (fun v97956 z97957 => ?_)
                                  have r97958 := R_eq z97957
                                  refine r_iadd S dX12_skip_281 (fun v97959 z97960 => ?_)
                                  obtain ⟨e97961, r97962⟩ := i_add (lo := 8) (hi := 941) z97960 r97951 r97958 rfl
                                  refine r_put (K := 38) (ty := .int) S X97784 (Nat.le_of_ble_eq_true rfl) rfl lk12_154_10 (fun _ => ⟨_, rfl, Nat.le_of_ble_eq_true rfl, rfl⟩) (fun _ _ _ h => by cases h; exact ⟨rfl, rfl⟩) rfl rfl dX12_skip_282 (fun t97963 H lc M97964 X97965 => ?_)
                                  have I97966 := Inv_mu I96990 M97964 (show Rg (kd 131) 13 v97959 from (show R (0) (940) v97959 from ⟨by omega, by omega⟩))
                                  have F97967 : Fr [(131, 4), (131, 11), (131, 12), (131, 13), (131, 14)] [331] τ t97963 := Fr_mu F96991 M97964 (by decide)
                                  have r97968 : R (8) (940) v97959 := ⟨by omega, by omega⟩
                                  refine r_aload_n S dX12_skip_285 rfl (lv_at hl 1 rfl) ?_
                                  refine r_dup S dX12_skip_286 rfl ?_
                                  refine r_geti (K := 38) S X97965 (Nat.le_of_ble_eq_true rfl) rfl lk12_21_10 (fun _ => ⟨_, rfl, rfl⟩) ((M97964.2 131 4 (Or.inr (by decide))).trans z96995) dX12_skip_287 ?_
                                  refine r_iconst S dX12_skip_290 (by decide) (fun v97969 z97970 => ?_)
                                  have r97971 := R_eq z97970
                                  refine r_iadd S dX12_skip_291 (fun v97972 z97973 => ?_)
                                  obtain ⟨e97974, r97975⟩ := i_add (lo := 1) (hi := 940) z97973 r97610 r97971 rfl
                                  refine r_put (K := 38) (ty := .int) S X97965 (Nat.le_of_ble_eq_true rfl) rfl lk12_21_10 (fun _ => ⟨_, rfl, Nat.le_of_ble_eq_true rfl, rfl⟩) (fun _ _ _ h => by cases h; exact ⟨rfl, rfl⟩) rfl rfl dX12_skip_292 (fun t97976 H lc M97977 X97978 => ?_)
                                  have I97979 := Inv_mu I97966 M97977 (show Rg (kd 131) 4 v97972 from (R_of (lo := 0) (hi := 940) r97975 rfl))
                                  have F97980 : Fr [(131, 4), (131, 11), (131, 12), (131, 13), (131, 14)] [331] τ t97976 := Fr_mu F97967 M97977 (by decide)
                                  refine r_goto (tgt := 181) S dX12_skip_295 (by decide) ?_
                                  exact ih97008 t97976 _ _ _ v97944 v97972 v97959 f97002 X97978 I97979 F97980 (R_of r97946 rfl) M97977.1 ⟨by omega, by omega⟩ ((M97977.2 131 3 (Or.inr (by decide))).trans ((M97964.2 131 3 (Or.inr (by decide))).trans z96996)) ((M97977.2 131 5 (Or.inr (by decide))).trans ((M97964.2 131 5 (Or.inr (by decide))).trans z96997)) ((M97977.2 131 12 (Or.inr (by decide))).trans ((M97964.2 131 12 (Or.inr (by decide))).trans z96998)) ((M97977.2 131 13 (Or.inr (by decide))).trans M97964.1) ⟨by omega, by omega⟩ ((M97977.2 131 14 (Or.inr (by decide))).trans ((M97964.2 131 14 (Or.inr (by decide))).trans z97004)) ⟨by omega, by omega⟩ (by rw [(qof_of (k := 131) (fun j => ((M97977.2 331 j (Or.inl (by decide))).trans ((M97964.2 331 j (Or.inl (by decide))).trans rfl))) 17)]; exact LM_upq (i := f96993) (sp := f96999) (al := i96987) x97006 hs65598 (by omega) (by omega) (fun _ _ h => by exfalso; omega) (fun _ _ h => by exfalso; omega) (by omega) (by omega) (by omega)) (by omega) (lv_sub hl [1, 2, 0] rfl) (by omega)
                                ·
                                  exfalso; omega
                              ·
                                have r97981 : R (0) (6) f96999 := ⟨by omega, by omega⟩
                                refine r_aload_n S dX12_skip_231 rfl (lv_at hl 1 rfl) ?_
                                refine r_aload_n S dX12_skip_232 rfl (lv_at hl 1 rfl) ?_
                                refine r_getJ (K := 38) S X97784 (Nat.le_of_ble_eq_true rfl) rfl lk12_170_10 (fun _ => ⟨_, rfl, rfl⟩) dX12_skip_233 (fun j97982 z97983 => ?_)
                                refine r_bipush S dX12_skip_236 (by decide) (fun v97984 z97985 => ?_)
                                have r97986 := R_eq z97985
                                refine lv_lshl S.1.1 S.1.2.1 dX12_skip_238 rfl ?_
                                refine lv_topl (fun j97987 z97988 => ?_)
                                refine r_aload_n S dX12_skip_239 rfl (lv_at hl 1 rfl) ?_
                                refine r_ki (q_V (As := []) (rest := [.long j97987, .ref (G.2.2.2.1 131)]) (K := 38) (ci := 10) S X97784 (c_X12_peek_x l G t96989 I96990 ) ck12_147 (Nat.le_of_ble_eq_true rfl) rfl (fun _ => ⟨_, rfl⟩) ⟨_, _, rfl⟩ ⟨Nat.le_of_ble_eq_true rfl, Nat.le_of_ble_eq_true rfl⟩ rfl hl.1 rfl (Nat.le_of_ble_eq_true rfl) dX12_skip_240 ⟨Nat.le_refl 0, Nat.le_refl 0⟩) X97784 (fun v97992 t97991 H lc q97989 X97990 => ?_)
                                unfold po_X12_peek_x at q97989
                                obtain ⟨q97993, q97994, q97995, q97996⟩ := q97989
                                rw [q97993] at X97990
                                rw [q97993] at q97995
                                rw [q97993] at q97996
                                have pk97997 : PKf bb nb f96993 v97992 := pk_b hB I96990 (F96991 131 3 (by simp [fz])) (fun j => F96991 132 j (by simp [fz])) z96995 (by omega) q97996
                                obtain ⟨e97998, e97999, e98000⟩ := PK_at pk97997 (by omega)
                                refine lv_i2l S.1.1 S.1.2.1 dX12_skip_243 rfl ?_
                                refine lv_topl (fun j98001 z98002 => ?_)
                                refine lv_lor S.1.1 S.1.2.1 dX12_skip_244 ?_
                                refine lv_topl (fun j98003 z98004 => ?_)
                                refine r_putJ (K := 38) S X97990 (Nat.le_of_ble_eq_true rfl) rfl lk12_170_10 (fun _ => ⟨_, rfl, Nat.le_of_ble_eq_true rfl, rfl⟩) (fun _ _ _ h => by cases h; exact ⟨rfl, rfl⟩) dX12_skip_245 (fun t98006 H lc M98007 X98005 => ?_)
                                have I98008 := Inv_ml I96990 M98007
                                have F98009 : Fr [(131, 4), (131, 11), (131, 12), (131, 13), (131, 14)] [331] τ t98006 := Fr_ml F96991 M98007 (by decide)
                                refine r_aload_n S dX12_skip_248 rfl (lv_at hl 1 rfl) ?_
                                refine r_geti (K := 38) S X98005 (Nat.le_of_ble_eq_true rfl) rfl lk12_154_10 (fun _ => ⟨_, rfl, rfl⟩) ((M98007.1 131 (by decide) 13).trans z97001) dX12_skip_249 ?_
                                refine r_iconst S dX12_skip_252 (by decide) (fun v98010 z98011 => ?_)
                                have r98012 := R_eq z98011
                                refine r_icmp_ge (tgt := 275) S dX12_skip_253 (by decide) (fun c98013 => ?_) (fun c98013 => ?_)
                                ·
                                  have r98014 : R (2) (6) f96999 := ⟨by omega, by omega⟩
                                  refine r_aload_n S dX12_skip_275 rfl (lv_at hl 1 rfl) ?_
                                  refine r_dup S dX12_skip_276 rfl ?_
                                  refine r_geti (K := 38) S X98005 (Nat.le_of_ble_eq_true rfl) rfl lk12_154_10 (fun _ => ⟨_, rfl, rfl⟩) ((M98007.1 131 (by decide) 13).trans z97001) dX12_skip_277 ?_
                                  refine r_iconst S dX12_skip_280 (by decide) (fun v98015 z98016 => ?_)
                                  have r98017 := R_eq z98016
                                  refine r_iadd S dX12_skip_281 (fun v98018 z98019 => ?_)
                                  obtain ⟨e98020, r98021⟩ := i_add (lo := 3) (hi := 7) z98019 r98014 r98017 rfl
                                  refine r_put (K := 38) (ty := .int) S X98005 (Nat.le_of_ble_eq_true rfl) rfl lk12_154_10 (fun _ => ⟨_, rfl, Nat.le_of_ble_eq_true rfl, rfl⟩) (fun _ _ _ h => by cases h; exact ⟨rfl, rfl⟩) rfl rfl dX12_skip_282 (fun t98022 H lc M98023 X98024 => ?_)
                                  have I98025 := Inv_mu I98008 M98023 (show Rg (kd 131) 13 v98018 from (R_of (lo := 0) (hi := 940) r98021 rfl))
                                  have F98026 : Fr [(131, 4), (131, 11), (131, 12), (131, 13), (131, 14)] [331] τ t98022 := Fr_mu F98009 M98023 (by decide)
                                  refine r_aload_n S dX12_skip_285 rfl (lv_at hl 1 rfl) ?_
                                  refine r_dup S dX12_skip_286 rfl ?_
                                  refine r_geti (K := 38) S X98024 (Nat.le_of_ble_eq_true rfl) rfl lk12_21_10 (fun _ => ⟨_, rfl, rfl⟩) ((M98023.2 131 4 (Or.inr (by decide))).trans ((M98007.1 131 (by decide) 4).trans z96995)) dX12_skip_287 ?_
                                  refine r_iconst S dX12_skip_290 (by decide) (fun v98027 z98028 => ?_)
                                  have r98029 := R_eq z98028
                                  refine r_iadd S dX12_skip_291 (fun v98030 z98031 => ?_)
                                  obtain ⟨e98032, r98033⟩ := i_add (lo := 1) (hi := 940) z98031 r97610 r98029 rfl
                                  refine r_put (K := 38) (ty := .int) S X98024 (Nat.le_of_ble_eq_true rfl) rfl lk12_21_10 (fun _ => ⟨_, rfl, Nat.le_of_ble_eq_true rfl, rfl⟩) (fun _ _ _ h => by cases h; exact ⟨rfl, rfl⟩) rfl rfl dX12_skip_292 (fun t98034 H lc M98035 X98036 => ?_)
                                  have I98037 := Inv_mu I98025 M98035 (show Rg (kd 131) 4 v98030 from (R_of (lo := 0) (hi := 940) r98033 rfl))
                                  have F98038 : Fr [(131, 4), (131, 11), (131, 12), (131, 13), (131, 14)] [331] τ t98034 := Fr_mu F98026 M98035 (by decide)
                                  refine r_goto (tgt := 181) S dX12_skip_295 (by decide) ?_
                                  exact ih97008 t98034 _ _ _ v97944 v98030 v98018 f97002 X98036 I98037 F98038 (R_of r97946 rfl) M98035.1 ⟨by omega, by omega⟩ ((M98035.2 131 3 (Or.inr (by decide))).trans ((M98023.2 131 3 (Or.inr (by decide))).trans ((M98007.1 131 (by decide) 3).trans z96996))) ((M98035.2 131 5 (Or.inr (by decide))).trans ((M98023.2 131 5 (Or.inr (by decide))).trans ((M98007.1 131 (by decide) 5).trans z96997))) ((M98035.2 131 12 (Or.inr (by decide))).trans ((M98023.2 131 12 (Or.inr (by decide))).trans ((M98007.1 131 (by decide) 12).trans z96998))) ((M98035.2 131 13 (Or.inr (by decide))).trans M98023.1) ⟨by omega, by omega⟩ ((M98035.2 131 14 (Or.inr (by decide))).trans ((M98023.2 131 14 (Or.inr (by decide))).trans ((M98007.1 131 (by decide) 14).trans z97004))) ⟨by omega, by omega⟩ (LM_upq (i := f96993) (sp := f96999) (al := i96987) x97006 hs65598 (by omega) (by omega) (LM_hw (x := v97992) (y := v97984) x97006 z97983 (by omega) (by rw [z98004, z97988, z98002]) ((qof_of (k := 131) (fun j => ((M98035.2 331 j (Or.inl (by decide))).trans ((M98023.2 331 j (Or.inl (by decide))).trans rfl))) 17).trans (Ml_upd M98007)) (by omega) (by omega)) (fun _ _ h => by exfalso; omega) (by omega) (by omega) (by omega)) (by omega) (lv_sub hl [1, 2, 0] rfl) (by omega)
                                ·
                                  have r98039 : R (0) (1) f96999 := ⟨by omega, by omega⟩
                                  refine r_aload_n S dX12_skip_256 rfl (lv_at hl 1 rfl) ?_
                                  refine r_bipush S dX12_skip_257 (by decide) (fun v98040 z98041 => ?_)
                                  have r98042 := R_eq z98041
                                  refine r_aload_n S dX12_skip_259 rfl (lv_at hl 1 rfl) ?_
                                  refine r_geti (K := 38) S X98005 (Nat.le_of_ble_eq_true rfl) rfl lk12_167_10 (fun _ => ⟨_, rfl, rfl⟩) ((M98007.1 131 (by decide) 14).trans z97004) dX12_skip_260 ?_
                                  refine r_imul S dX12_skip_263 (fun v98043 z98044 => ?_)
                                  have r98045 := R_any v98043
                                  refine r_aload_n S dX12_skip_264 rfl (lv_at hl 1 rfl) ?_
                                  refine r_ki (q_V (As := []) (rest := [.int v98043, .ref (G.2.2.2.1 131)]) (K := 38) (ci := 10) S X98005 (c_X12_peek_x l G t98006 I98008 ) ck12_147 (Nat.le_of_ble_eq_true rfl) rfl (fun _ => ⟨_, rfl⟩) ⟨_, _, rfl⟩ ⟨Nat.le_of_ble_eq_true rfl, Nat.le_of_ble_eq_true rfl⟩ rfl hl.1 rfl (Nat.le_of_ble_eq_true rfl) dX12_skip_265 ⟨Nat.le_refl 0, Nat.le_refl 0⟩) X98005 (fun v98049 t98048 H lc q98046 X98047 => ?_)
                                  unfold po_X12_peek_x at q98046
                                  obtain ⟨q98050, q98051, q98052, q98053⟩ := q98046
                                  rw [q98050] at X98047
                                  rw [q98050] at q98052
                                  rw [q98050] at q98053
                                  have pk98054 : PKf bb nb f96993 v98049 := pk_b hB I98008 (F98009 131 3 (by simp [fz])) (fun j => F98009 132 j (by simp [fz])) ((M98007.1 131 (by decide) 4).trans z96995) (by omega) q98053
                                  obtain ⟨e98055, e98056, e98057⟩ := PK_at pk98054 (by omega)
                                  refine r_iadd S dX12_skip_268 (fun v98058 z98059 => ?_)
                                  have r98060 := R_any v98058
                                  refine r_bipush S dX12_skip_269 (by decide) (fun v98061 z98062 => ?_)
                                  have r98063 := R_eq z98062
                                  refine r_isub S dX12_skip_271 (fun v98064 z98065 => ?_)
                                  have r98066 := R_any v98064
                                  refine r_put (K := 38) (ty := .int) S X98047 (Nat.le_of_ble_eq_true rfl) rfl lk12_167_10 (fun _ => ⟨_, rfl, Nat.le_of_ble_eq_true rfl, rfl⟩) (fun _ _ _ h => by cases h; exact ⟨rfl, rfl⟩) rfl rfl dX12_skip_272 (fun t98067 H lc M98068 X98069 => ?_)
                                  have I98070 := Inv_mu I98008 M98068 (R_any v98064)
                                  have F98071 : Fr [(131, 4), (131, 11), (131, 12), (131, 13), (131, 14)] [331] τ t98067 := Fr_mu F98009 M98068 (by decide)
                                  refine r_aload_n S dX12_skip_275 rfl (lv_at hl 1 rfl) ?_
                                  refine r_dup S dX12_skip_276 rfl ?_
                                  refine r_geti (K := 38) S X98069 (Nat.le_of_ble_eq_true rfl) rfl lk12_154_10 (fun _ => ⟨_, rfl, rfl⟩) ((M98068.2 131 13 (Or.inr (by decide))).trans ((M98007.1 131 (by decide) 13).trans z97001)) dX12_skip_277 ?_
                                  refine r_iconst S dX12_skip_280 (by decide) (fun v98072 z98073 => ?_)
                                  have r98074 := R_eq z98073
                                  refine r_iadd S dX12_skip_281 (fun v98075 z98076 => ?_)
                                  obtain ⟨e98077, r98078⟩ := i_add (lo := 1) (hi := 2) z98076 r98039 r98074 rfl
                                  refine r_put (K := 38) (ty := .int) S X98069 (Nat.le_of_ble_eq_true rfl) rfl lk12_154_10 (fun _ => ⟨_, rfl, Nat.le_of_ble_eq_true rfl, rfl⟩) (fun _ _ _ h => by cases h; exact ⟨rfl, rfl⟩) rfl rfl dX12_skip_282 (fun t98079 H lc M98080 X98081 => ?_)
                                  have I98082 := Inv_mu I98070 M98080 (show Rg (kd 131) 13 v98075 from (R_of (lo := 0) (hi := 940) r98078 rfl))
                                  have F98083 : Fr [(131, 4), (131, 11), (131, 12), (131, 13), (131, 14)] [331] τ t98079 := Fr_mu F98071 M98080 (by decide)
                                  refine r_aload_n S dX12_skip_285 rfl (lv_at hl 1 rfl) ?_
                                  refine r_dup S dX12_skip_286 rfl ?_
                                  refine r_geti (K := 38) S X98081 (Nat.le_of_ble_eq_true rfl) rfl lk12_21_10 (fun _ => ⟨_, rfl, rfl⟩) ((M98080.2 131 4 (Or.inr (by decide))).trans ((M98068.2 131 4 (Or.inr (by decide))).trans ((M98007.1 131 (by decide) 4).trans z96995))) dX12_skip_287 ?_
                                  refine r_iconst S dX12_skip_290 (by decide) (fun v98084 z98085 => ?_)
                                  have r98086 := R_eq z98085
                                  refine r_iadd S dX12_skip_291 (fun v98087 z98088 => ?_)
                                  obtain ⟨e98089, r98090⟩ := i_add (lo := 1) (hi := 940) z98088 r97610 r98086 rfl
                                  refine r_put (K := 38) (ty := .int) S X98081 (Nat.le_of_ble_eq_true rfl) rfl lk12_21_10 (fun _ => ⟨_, rfl, Nat.le_of_ble_eq_true rfl, rfl⟩) (fun _ _ _ h => by cases h; exact ⟨rfl, rfl⟩) rfl rfl dX12_skip_292 (fun t98091 H lc M98092 X98093 => ?_)
                                  have I98094 := Inv_mu I98082 M98092 (show Rg (kd 131) 4 v98087 from (R_of (lo := 0) (hi := 940) r98090 rfl))
                                  have F98095 : Fr [(131, 4), (131, 11), (131, 12), (131, 13), (131, 14)] [331] τ t98091 := Fr_mu F98083 M98092 (by decide)
                                  refine r_goto (tgt := 181) S dX12_skip_295 (by decide) ?_
                                  exact ih97008 t98091 _ _ _ v97944 v98087 v98075 v98064 X98093 I98094 F98095 (R_of r97946 rfl) M98092.1 ⟨by omega, by omega⟩ ((M98092.2 131 3 (Or.inr (by decide))).trans ((M98080.2 131 3 (Or.inr (by decide))).trans ((M98068.2 131 3 (Or.inr (by decide))).trans ((M98007.1 131 (by decide) 3).trans z96996)))) ((M98092.2 131 5 (Or.inr (by decide))).trans ((M98080.2 131 5 (Or.inr (by decide))).trans ((M98068.2 131 5 (Or.inr (by decide))).trans ((M98007.1 131 (by decide) 5).trans z96997)))) ((M98092.2 131 12 (Or.inr (by decide))).trans ((M98080.2 131 12 (Or.inr (by decide))).trans ((M98068.2 131 12 (Or.inr (by decide))).trans ((M98007.1 131 (by decide) 12).trans z96998)))) ((M98092.2 131 13 (Or.inr (by decide))).trans M98080.1) ⟨by omega, by omega⟩ ((M98092.2 131 14 (Or.inr (by decide))).trans ((M98080.2 131 14 (Or.inr (by decide))).trans M98068.1)) ⟨by omega, by omega⟩ (LM_upq (i := f96993) (sp := f96999) (al := i96987) x97006 hs65598 (by omega) (by omega) (LM_hw (x := v97992) (y := v97984) x97006 z97983 (by omega) (by rw [z98004, z97988, z98002]) ((qof_of (k := 131) (fun j => ((M98092.2 331 j (Or.inl (by decide))).trans ((M98080.2 331 j (Or.inl (by decide))).trans ((M98068.2 331 j (Or.inl (by decide))).trans rfl)))) 17).trans (Ml_upd M98007)) (by omega) (by omega)) (LM_hn (c := v98040) (x := v98049) (d := v98061) x97006 (by omega) z98044 z98059 (by omega) z98065 (by omega) (by omega)) (by omega) (by omega) (by omega)) (by omega) (lv_sub hl [1, 2, 0] rfl) (by omega)
                  exact L97005 _ t65609 _ _ _ v65595 f223 v281 v65606 X65611 I65612 F65613 (R_of r65597 rfl) ((M65610.2 131 4 (Or.inr (by decide))).trans ((M65603.1 131 (by decide) 4).trans ((M285.2 131 4 (Or.inr (by decide))).trans ((M277.2 131 4 (Or.inr (by decide))).trans z225)))) ⟨by omega, by omega⟩ ((M65610.2 131 3 (Or.inr (by decide))).trans ((M65603.1 131 (by decide) 3).trans ((M285.2 131 3 (Or.inr (by decide))).trans ((M277.2 131 3 (Or.inr (by decide))).trans z226)))) ((M65610.2 131 5 (Or.inr (by decide))).trans ((M65603.1 131 (by decide) 5).trans ((M285.2 131 5 (Or.inr (by decide))).trans ((M277.2 131 5 (Or.inr (by decide))).trans z227)))) ((M65610.2 131 12 (Or.inr (by decide))).trans ((M65603.1 131 (by decide) 12).trans ((M285.2 131 12 (Or.inr (by decide))).trans M277.1))) ((M65610.2 131 13 (Or.inr (by decide))).trans ((M65603.1 131 (by decide) 13).trans M285.1)) ⟨by omega, by omega⟩ M65610.1 ⟨by omega, by omega⟩ (LM_0q (by omega) (by omega) (by omega) ((qof_of (k := 131) (fun j => ((M65610.2 331 j (Or.inl (by decide))).trans rfl)) 17).trans (Ml_upd M65603)) z65600) (by omega) (lv_sub hl [3, 1, 0] rfl) (Nat.lt_succ_self _)
                ·
                  have r98096 : R (0) (0) v65575 := ⟨by omega, by omega⟩
                  refine r_iload_n S dX12_skip_102 rfl (lv_at hl 0 rfl) ?_
                  refine r_ki (q_S (As := [.int v65553]) (rest := []) S X65573 (c_X12_isDigit_x l G t284 I287 v65553 (R_of (lo := -2147483648) (hi := 2147483647) r65560 rfl)) ck12_164 ⟨Nat.le_of_ble_eq_true rfl, Nat.le_of_ble_eq_true rfl⟩ rfl hl.1 rfl (Nat.le_of_ble_eq_true rfl) dX12_skip_103 ⟨Nat.le_refl 0, Nat.le_refl 0⟩) X65573 (fun v98100 t98099 H lc q98097 X98098 => ?_)
                  unfold po_X12_isDigit_x at q98097
                  obtain ⟨q98101, q98102, q98103, q98104⟩ := q98097
                  rw [q98101] at X98098
                  refine r_if_ne (tgt := 164) S dX12_skip_106 (by decide) (fun c98105 => ?_) (fun c98105 => ?_)
                  ·
                    have r98106 : R (1) (1) v98100 := ⟨by omega, by omega⟩
                    have p98107 := q98103 (by omega)
                    have r98108 : R (48) (57) v65553 := ⟨by omega, by omega⟩
                    have p98109 := q65556 (by omega)
                    have r98110 : R (0) (939) f223 := ((M285.2 131 4 (Or.inr (by decide))).trans ((M277.2 131 4 (Or.inr (by decide))).trans z225)) ▸ p98109
                    have r98111 : R (0) (938) f223 := ⟨by omega, by omega⟩
                    refine r_iload_n S dX12_skip_164 rfl (lv_at hl 0 rfl) ?_
                    refine r_ki (q_S (As := [.int v65553]) (rest := []) S X98098 (c_X12_isSmall_x l G t284 I287 v65553 (R_of (lo := -2147483648) (hi := 2147483647) r98108 rfl)) ck12_160 ⟨Nat.le_of_ble_eq_true rfl, Nat.le_of_ble_eq_true rfl⟩ rfl hl.1 rfl (Nat.le_of_ble_eq_true rfl) dX12_skip_165 ⟨Nat.le_refl 0, Nat.le_refl 0⟩) X98098 (fun v98115 t98114 H lc q98112 X98113 => ?_)
                    unfold po_X12_isSmall_x at q98112
                    obtain ⟨q98116, q98117, q98118, q98119⟩ := q98112
                    rw [q98116] at X98113
                    refine r_istore_n (lv' := [(2, .int v98115), (1, .int v65553), (0, .ref (G.2.2.2.1 131))]) S dX12_skip_168 rfl hl (by decide) rfl (fun ls hl => ?_)
                    refine r_iconst S dX12_skip_169 (by decide) (fun v98120 z98121 => ?_)
                    have r98122 := R_eq z98121
                    refine r_istore_n (lv' := [(3, .int v98120), (2, .int v98115), (1, .int v65553), (0, .ref (G.2.2.2.1 131))]) S dX12_skip_170 rfl hl (by decide) rfl (fun ls hl => ?_)
                    have hs98123 : (v98115.toInt = 1 ∧ low (bb f223.toInt.toNat)) ∨ (v98115.toInt = 0 ∧ dig (bb f223.toInt.toNat)) := by omega
                    refine r_aload_n S dX12_skip_171 rfl (lv_at hl 3 rfl) ?_
                    refine lv_lconst S.1.1 S.1.2.1 dX12_skip_172 rfl ?_
                    refine lv_topl (fun j98124 z98125 => ?_)
                    refine r_putJ (K := 38) S X98113 (Nat.le_of_ble_eq_true rfl) rfl lk12_170_10 (fun _ => ⟨_, rfl, Nat.le_of_ble_eq_true rfl, rfl⟩) (fun _ _ _ h => by cases h; exact ⟨rfl, rfl⟩) dX12_skip_173 (fun t98127 H lc M98128 X98126 => ?_)
                    have I98129 := Inv_ml I287 M98128
                    have F98130 : Fr [(131, 4), (131, 11), (131, 12), (131, 13), (131, 14)] [331] τ t98127 := Fr_ml F288 M98128 (by decide)
                    refine r_aload_n S dX12_skip_176 rfl (lv_at hl 3 rfl) ?_
                    refine r_iconst S dX12_skip_177 (by decide) (fun v98131 z98132 => ?_)
                    have r98133 := R_eq z98132
                    refine r_put (K := 38) (ty := .int) S X98126 (Nat.le_of_ble_eq_true rfl) rfl lk12_167_10 (fun _ => ⟨_, rfl, Nat.le_of_ble_eq_true rfl, rfl⟩) (fun _ _ _ h => by cases h; exact ⟨rfl, rfl⟩) rfl rfl dX12_skip_178 (fun t98134 H lc M98135 X98136 => ?_)
                    have I98137 := Inv_mu I98129 M98135 (R_any v98131)
                    have F98138 : Fr [(131, 4), (131, 11), (131, 12), (131, 13), (131, 14)] [331] τ t98134 := Fr_mu F98130 M98135 (by decide)
                    have L129530 : ∀ (n : Nat) (t129514 : Tau) (H : Heap) (lc : List Loc) (ls : Array Slot) (i129512 : Int32) (f129518 : Int32) (f129524 : Int32) (f129527 : Int32), Xd G s H lc t129514 → Inv t129514 → Fr [(131, 4), (131, 11), (131, 12), (131, 13), (131, 14)] [331] τ t129514 → R (0) (1) i129512 → t129514 131 4 = f129518 → R (0) (940) f129518 → t129514 131 3 = v4 → t129514 131 5 = v7 → t129514 131 12 = f223 → t129514 131 13 = f129524 → R (0) (940) f129524 → t129514 131 14 = f129527 → R (-2147483648) (2147483647) f129527 → LM bb (f223).toInt.toNat (f129518).toInt.toNat (v98115).toInt (i129512).toInt (f129524).toInt (qof t129514 131 17).toInt (f129527).toInt → (f129518).toInt ≤ nb → lv_has ls 4 [(0, .ref (G.2.2.2.1 131)), (2, .int v98115), (3, .int i129512)] → (940 - f129518.toInt).toNat < n → W p l e (Rm 1 20) s m ([.ref (G.2.2.2.1 131)] : List Value).toArray below meth c H lc 0 0 (MQ below (va_Qv (po_X12_skip_q τ    bb nb lm pp) (Bs G) G.2.2.2.2) ([.ref (G.2.2.2.1 131)] : List Value).toArray s 0 0 G.2.2.2.2) (F0 m 181 ls []) := by
                      intro n
                      induction n with
                      | zero => intros; omega
                      | succ n ih129533 =>
                        intro t129514 H lc ls i129512 f129518 f129524 f129527 X129517 I129515 F129516 r129513 z129520 r129519 z129521 z129522 z129523 z129526 r129525 z129529 r129528 x129531 x129532 hl hm
                        obtain ⟨e129534, e129535⟩ := LM_b x129531
                        refine r_aload_n S dX12_skip_181 rfl (lv_at hl 0 rfl) ?_
                        refine r_ki (q_V (As := []) (rest := []) (K := 38) (ci := 10) S X129517 (c_X12_peek_x l G t129514 I129515 ) ck12_147 (Nat.le_of_ble_eq_true rfl) rfl (fun _ => ⟨_, rfl⟩) ⟨_, _, rfl⟩ ⟨Nat.le_of_ble_eq_true rfl, Nat.le_of_ble_eq_true rfl⟩ rfl hl.1 rfl (Nat.le_of_ble_eq_true rfl) dX12_skip_182 ⟨Nat.le_refl 0, Nat.le_refl 0⟩) X129517 (fun v129539 t129538 H lc q129536 X129537 => ?_)
                        unfold po_X12_peek_x at q129536
                        obtain ⟨q129540, q129541, q129542, q129543⟩ := q129536
                        rw [q129540] at X129537
                        rw [q129540] at q129542
                        rw [q129540] at q129543
                        have pk129544 : PKf bb nb f129518 v129539 := pk_b hB I129515 (F129516 131 3 (by simp [fz])) (fun j => F129516 132 j (by simp [fz])) z129520 (by omega) q129543
                        refine r_ki (q_S (As := [.int v129539]) (rest := []) S X129537 (c_X12_isSmall_x l G t129514 I129515 v129539 (R_of (lo := -2147483648) (hi := 2147483647) q129541 rfl)) ck12_160 ⟨Nat.le_of_ble_eq_true rfl, Nat.le_of_ble_eq_true rfl⟩ rfl hl.1 rfl (Nat.le_of_ble_eq_true rfl) dX12_skip_185 ⟨Nat.le_refl 0, Nat.le_refl 0⟩) X129537 (fun v129548 t129547 H lc q129545 X129546 => ?_)
                        unfold po_X12_isSmall_x at q129545
                        obtain ⟨q129549, q129550, q129551, q129552⟩ := q129545
                        rw [q129549] at X129546
                        refine r_if_ne (tgt := 201) S dX12_skip_188 (by decide) (fun c129553 => ?_) (fun c129553 => ?_)
                        ·
                          have r129554 : R (1) (1) v129548 := ⟨by omega, by omega⟩
                          have p129555 := q129551 (by omega)
                          have r129556 : R (97) (122) v129539 := ⟨by omega, by omega⟩
                          have p129557 := q129542 (by omega)
                          have r129558 : R (0) (939) f129518 := z129520 ▸ p129557
                          have r129559 : R (0) (939) f129518 := ⟨by omega, by omega⟩
                          obtain ⟨e129560, e129561⟩ := PK_in pk129544 (by omega)
                          obtain ⟨e129562, e129563, e129564⟩ := PK_at pk129544 e129560
                          refine r_iload_n S dX12_skip_201 rfl (lv_at hl 2 rfl) ?_
                          refine r_if_eq (tgt := 220) S dX12_skip_202 (by decide) (fun c129565 => ?_) (fun c129565 => ?_)
                          ·
                            have r129566 : R (0) (0) i129512 := ⟨by omega, by omega⟩
                            refine r_iconst S dX12_skip_220 (by decide) (fun v129567 z129568 => ?_)
                            have r129569 := R_eq z129568
                            refine r_istore_n (lv' := [(3, .int v129567), (0, .ref (G.2.2.2.1 131)), (2, .int v98115)]) S dX12_skip_221 rfl hl (by decide) rfl (fun ls hl => ?_)
                            refine r_aload_n S dX12_skip_222 rfl (lv_at hl 1 rfl) ?_
                            refine r_geti (K := 38) S X129546 (Nat.le_of_ble_eq_true rfl) rfl lk12_154_10 (fun _ => ⟨_, rfl, rfl⟩) z129526 dX12_skip_223 ?_
                            refine r_bipush S dX12_skip_226 (by decide) (fun v129570 z129571 => ?_)
                            have r129572 := R_eq z129571
                            refine r_icmp_ge (tgt := 248) S dX12_skip_228 (by decide) (fun c129573 => ?_) (fun c129573 => ?_)
                            ·
                              have r129574 : R (7) (940) f129524 := ⟨by omega, by omega⟩
                              refine r_aload_n S dX12_skip_248 rfl (lv_at hl 1 rfl) ?_
                              refine r_geti (K := 38) S X129546 (Nat.le_of_ble_eq_true rfl) rfl lk12_154_10 (fun _ => ⟨_, rfl, rfl⟩) z129526 dX12_skip_249 ?_
                              refine r_iconst S dX12_skip_252 (by decide) (fun v129575 z129576 => ?_)
                              have r129577 := R_eq z129576
                              refine r_icmp_ge (tgt := 275) S dX12_skip_253 (by decide) (fun c129578 => ?_) (fun c129578 => ?_)
                              ·
                                refine r_aload_n S dX12_skip_275 rfl (lv_at hl 1 rfl) ?_
                                refine r_dup S dX12_skip_276 rfl ?_
                                refine r_geti (K := 38) S X129546 (Nat.le_of_ble_eq_true rfl) rfl lk12_154_10 (fun _ => ⟨_, rfl, rfl⟩) z129526 dX12_skip_277 ?_
                                refine r_iconst S dX12_skip_280 (by decide) (fun v129579 z129580 => ?_)
                                have r129581 := R_eq z129580
                                refine r_iadd S dX12_skip_281 (fun v129582 z129583 => ?_)
                                obtain ⟨e129584, r129585⟩ := i_add (lo := 8) (hi := 941) z129583 r129574 r129581 rfl
                                refine r_put (K := 38) (ty := .int) S X129546 (Nat.le_of_ble_eq_true rfl) rfl lk12_154_10 (fun _ => ⟨_, rfl, Nat.le_of_ble_eq_true rfl, rfl⟩) (fun _ _ _ h => by cases h; exact ⟨rfl, rfl⟩) rfl rfl dX12_skip_282 (fun t129586 H lc M129587 X129588 => ?_)
                                have I129589 := Inv_mu I129515 M129587 (show Rg (kd 131) 13 v129582 from (show R (0) (940) v129582 from ⟨by omega, by omega⟩))
                                have F129590 : Fr [(131, 4), (131, 11), (131, 12), (131, 13), (131, 14)] [331] τ t129586 := Fr_mu F129516 M129587 (by decide)
                                have r129591 : R (8) (940) v129582 := ⟨by omega, by omega⟩
                                refine r_aload_n S dX12_skip_285 rfl (lv_at hl 1 rfl) ?_
                                refine r_dup S dX12_skip_286 rfl ?_
                                refine r_geti (K := 38) S X129588 (Nat.le_of_ble_eq_true rfl) rfl lk12_21_10 (fun _ => ⟨_, rfl, rfl⟩) ((M129587.2 131 4 (Or.inr (by decide))).trans z129520) dX12_skip_287 ?_
                                refine r_iconst S dX12_skip_290 (by decide) (fun v129592 z129593 => ?_)
                                have r129594 := R_eq z129593
                                refine r_iadd S dX12_skip_291 (fun v129595 z129596 => ?_)
                                obtain ⟨e129597, r129598⟩ := i_add (lo := 1) (hi := 940) z129596 r129559 r129594 rfl
                                refine r_put (K := 38) (ty := .int) S X129588 (Nat.le_of_ble_eq_true rfl) rfl lk12_21_10 (fun _ => ⟨_, rfl, Nat.le_of_ble_eq_true rfl, rfl⟩) (fun _ _ _ h => by cases h; exact ⟨rfl, rfl⟩) rfl rfl dX12_skip_292 (fun t129599 H lc M129600 X129601 => ?_)
                                have I129602 := Inv_mu I129589 M129600 (show Rg (kd 131) 4 v129595 from (R_of (lo := 0) (hi := 940) r129598 rfl))
                                have F129603 : Fr [(131, 4), (131, 11), (131, 12), (131, 13), (131, 14)] [331] τ t129599 := Fr_mu F129590 M129600 (by decide)
                                refine r_goto (tgt := 181) S dX12_skip_295 (by decide) ?_
                                exact ih129533 t129599 _ _ _ v129567 v129595 v129582 f129527 X129601 I129602 F129603 (R_of r129569 rfl) M129600.1 ⟨by omega, by omega⟩ ((M129600.2 131 3 (Or.inr (by decide))).trans ((M129587.2 131 3 (Or.inr (by decide))).trans z129521)) ((M129600.2 131 5 (Or.inr (by decide))).trans ((M129587.2 131 5 (Or.inr (by decide))).trans z129522)) ((M129600.2 131 12 (Or.inr (by decide))).trans ((M129587.2 131 12 (Or.inr (by decide))).trans z129523)) ((M129600.2 131 13 (Or.inr (by decide))).trans M129587.1) ⟨by omega, by omega⟩ ((M129600.2 131 14 (Or.inr (by decide))).trans ((M129587.2 131 14 (Or.inr (by decide))).trans z129529)) ⟨by omega, by omega⟩ (by rw [(qof_of (k := 131) (fun j => ((M129600.2 331 j (Or.inl (by decide))).trans ((M129587.2 331 j (Or.inl (by decide))).trans rfl))) 17)]; exact LM_upq (i := f129518) (sp := f129524) (al := i129512) x129531 hs98123 (by omega) (by omega) (fun _ _ h => by exfalso; omega) (fun _ _ h => by exfalso; omega) (by omega) (by omega) (by omega)) (by omega) (lv_sub hl [1, 2, 0] rfl) (by omega)
                              ·
                                exfalso; omega
                            ·
                              have r129604 : R (0) (6) f129524 := ⟨by omega, by omega⟩
                              refine r_aload_n S dX12_skip_231 rfl (lv_at hl 1 rfl) ?_
                              refine r_aload_n S dX12_skip_232 rfl (lv_at hl 1 rfl) ?_
                              refine r_getJ (K := 38) S X129546 (Nat.le_of_ble_eq_true rfl) rfl lk12_170_10 (fun _ => ⟨_, rfl, rfl⟩) dX12_skip_233 (fun j129605 z129606 => ?_)
                              refine r_bipush S dX12_skip_236 (by decide) (fun v129607 z129608 => ?_)
                              have r129609 := R_eq z129608
                              refine lv_lshl S.1.1 S.1.2.1 dX12_skip_238 rfl ?_
                              refine lv_topl (fun j129610 z129611 => ?_)
                              refine r_aload_n S dX12_skip_239 rfl (lv_at hl 1 rfl) ?_
                              refine r_ki (q_V (As := []) (rest := [.long j129610, .ref (G.2.2.2.1 131)]) (K := 38) (ci := 10) S X129546 (c_X12_peek_x l G t129514 I129515 ) ck12_147 (Nat.le_of_ble_eq_true rfl) rfl (fun _ => ⟨_, rfl⟩) ⟨_, _, rfl⟩ ⟨Nat.le_of_ble_eq_true rfl, Nat.le_of_ble_eq_true rfl⟩ rfl hl.1 rfl (Nat.le_of_ble_eq_true rfl) dX12_skip_240 ⟨Nat.le_refl 0, Nat.le_refl 0⟩) X129546 (fun v129615 t129614 H lc q129612 X129613 => ?_)
                              unfold po_X12_peek_x at q129612
                              obtain ⟨q129616, q129617, q129618, q129619⟩ := q129612
                              rw [q129616] at X129613
                              rw [q129616] at q129618
                              rw [q129616] at q129619
                              have pk129620 : PKf bb nb f129518 v129615 := pk_b hB I129515 (F129516 131 3 (by simp [fz])) (fun j => F129516 132 j (by simp [fz])) z129520 (by omega) q129619
                              obtain ⟨e129621, e129622, e129623⟩ := PK_at pk129620 (by omega)
                              refine lv_i2l S.1.1 S.1.2.1 dX12_skip_243 rfl ?_
                              refine lv_topl (fun j129624 z129625 => ?_)
                              refine lv_lor S.1.1 S.1.2.1 dX12_skip_244 ?_
                              refine lv_topl (fun j129626 z129627 => ?_)
                              refine r_putJ (K := 38) S X129613 (Nat.le_of_ble_eq_true rfl) rfl lk12_170_10 (fun _ => ⟨_, rfl, Nat.le_of_ble_eq_true rfl, rfl⟩) (fun _ _ _ h => by cases h; exact ⟨rfl, rfl⟩) dX12_skip_245 (fun t129629 H lc M129630 X129628 => ?_)
                              have I129631 := Inv_ml I129515 M129630
                              have F129632 : Fr [(131, 4), (131, 11), (131, 12), (131, 13), (131, 14)] [331] τ t129629 := Fr_ml F129516 M129630 (by decide)
                              refine r_aload_n S dX12_skip_248 rfl (lv_at hl 1 rfl) ?_
                              refine r_geti (K := 38) S X129628 (Nat.le_of_ble_eq_true rfl) rfl lk12_154_10 (fun _ => ⟨_, rfl, rfl⟩) ((M129630.1 131 (by decide) 13).trans z129526) dX12_skip_249 ?_
                              refine r_iconst S dX12_skip_252 (by decide) (fun v129633 z129634 => ?_)
                              have r129635 := R_eq z129634
                              refine r_icmp_ge (tgt := 275) S dX12_skip_253 (by decide) (fun c129636 => ?_) (fun c129636 => ?_)
                              ·
                                have r129637 : R (2) (6) f129524 := ⟨by omega, by omega⟩
                                refine r_aload_n S dX12_skip_275 rfl (lv_at hl 1 rfl) ?_
                                refine r_dup S dX12_skip_276 rfl ?_
                                refine r_geti (K := 38) S X129628 (Nat.le_of_ble_eq_true rfl) rfl lk12_154_10 (fun _ => ⟨_, rfl, rfl⟩) ((M129630.1 131 (by decide) 13).trans z129526) dX12_skip_277 ?_
                                refine r_iconst S dX12_skip_280 (by decide) (fun v129638 z129639 => ?_)
                                have r129640 := R_eq z129639
                                refine r_iadd S dX12_skip_281 (fun v129641 z129642 => ?_)
                                obtain ⟨e129643, r129644⟩ := i_add (lo := 3) (hi := 7) z129642 r129637 r129640 rfl
                                refine r_put (K := 38) (ty := .int) S X129628 (Nat.le_of_ble_eq_true rfl) rfl lk12_154_10 (fun _ => ⟨_, rfl, Nat.le_of_ble_eq_true rfl, rfl⟩) (fun _ _ _ h => by cases h; exact ⟨rfl, rfl⟩) rfl rfl dX12_skip_282 (fun t129645 H lc M129646 X129647 => ?_)
                                have I129648 := Inv_mu I129631 M129646 (show Rg (kd 131) 13 v129641 from (R_of (lo := 0) (hi := 940) r129644 rfl))
                                have F129649 : Fr [(131, 4), (131, 11), (131, 12), (131, 13), (131, 14)] [331] τ t129645 := Fr_mu F129632 M129646 (by decide)
                                refine r_aload_n S dX12_skip_285 rfl (lv_at hl 1 rfl) ?_
                                refine r_dup S dX12_skip_286 rfl ?_
                                refine r_geti (K := 38) S X129647 (Nat.le_of_ble_eq_true rfl) rfl lk12_21_10 (fun _ => ⟨_, rfl, rfl⟩) ((M129646.2 131 4 (Or.inr (by decide))).trans ((M129630.1 131 (by decide) 4).trans z129520)) dX12_skip_287 ?_
                                refine r_iconst S dX12_skip_290 (by decide) (fun v129650 z129651 => ?_)
                                have r129652 := R_eq z129651
                                refine r_iadd S dX12_skip_291 (fun v129653 z129654 => ?_)
                                obtain ⟨e129655, r129656⟩ := i_add (lo := 1) (hi := 940) z129654 r129559 r129652 rfl
                                refine r_put (K := 38) (ty := .int) S X129647 (Nat.le_of_ble_eq_true rfl) rfl lk12_21_10 (fun _ => ⟨_, rfl, Nat.le_of_ble_eq_true rfl, rfl⟩) (fun _ _ _ h => by cases h; exact ⟨rfl, rfl⟩) rfl rfl dX12_skip_292 (fun t129657 H lc M129658 X129659 => ?_)
                                have I129660 := Inv_mu I129648 M129658 (show Rg (kd 131) 4 v129653 from (R_of (lo := 0) (hi := 940) r129656 rfl))
                                have F129661 : Fr [(131, 4), (131, 11), (131, 12), (131, 13), (131, 14)] [331] τ t129657 := Fr_mu F129649 M129658 (by decide)
                                refine r_goto (tgt := 181) S dX12_skip_295 (by decide) ?_
                                exact ih129533 t129657 _ _ _ v129567 v129653 v129641 f129527 X129659 I129660 F129661 (R_of r129569 rfl) M129658.1 ⟨by omega, by omega⟩ ((M129658.2 131 3 (Or.inr (by decide))).trans ((M129646.2 131 3 (Or.inr (by decide))).trans ((M129630.1 131 (by decide) 3).trans z129521))) ((M129658.2 131 5 (Or.inr (by decide))).trans ((M129646.2 131 5 (Or.inr (by decide))).trans ((M129630.1 131 (by decide) 5).trans z129522))) ((M129658.2 131 12 (Or.inr (by decide))).trans ((M129646.2 131 12 (Or.inr (by decide))).trans ((M129630.1 131 (by decide) 12).trans z129523))) ((M129658.2 131 13 (Or.inr (by decide))).trans M129646.1) ⟨by omega, by omega⟩ ((M129658.2 131 14 (Or.inr (by decide))).trans ((M129646.2 131 14 (Or.inr (by decide))).trans ((M129630.1 131 (by decide) 14).trans z129529))) ⟨by omega, by omega⟩ (LM_upq (i := f129518) (sp := f129524) (al := i129512) x129531 hs98123 (by omega) (by omega) (LM_hw (x := v129615) (y := v129607) x129531 z129606 (by omega) (by rw [z129627, z129611, z129625]) ((qof_of (k := 131) (fun j => ((M129658.2 331 j (Or.inl (by decide))).trans ((M129646.2 331 j (Or.inl (by decide))).trans rfl))) 17).trans (Ml_upd M129630)) (by omega) (by omega)) (fun _ _ h => by exfalso; omega) (by omega) (by omega) (by omega)) (by omega) (lv_sub hl [1, 2, 0] rfl) (by omega)
                              ·
                                have r129662 : R (0) (1) f129524 := ⟨by omega, by omega⟩
                                refine r_aload_n S dX12_skip_256 rfl (lv_at hl 1 rfl) ?_
                                refine r_bipush S dX12_skip_257 (by decide) (fun v129663 z129664 => ?_)
                                have r129665 := R_eq z129664
                                refine r_aload_n S dX12_skip_259 rfl (lv_at hl 1 rfl) ?_
                                refine r_geti (K := 38) S X129628 (Nat.le_of_ble_eq_true rfl) rfl lk12_167_10 (fun _ => ⟨_, rfl, rfl⟩) ((M129630.1 131 (by decide) 14).trans z129529) dX12_skip_260 ?_
                                refine r_imul S dX12_skip_263 (fun v129666 z129667 => ?_)
                                have r129668 := R_any v129666
                                refine r_aload_n S dX12_skip_264 rfl (lv_at hl 1 rfl) ?_
                                refine r_ki (q_V (As := []) (rest := [.int v129666, .ref (G.2.2.2.1 131)]) (K := 38) (ci := 10) S X129628 (c_X12_peek_x l G t129629 I129631 ) ck12_147 (Nat.le_of_ble_eq_true rfl) rfl (fun _ => ⟨_, rfl⟩) ⟨_, _, rfl⟩ ⟨Nat.le_of_ble_eq_true rfl, Nat.le_of_ble_eq_true rfl⟩ rfl hl.1 rfl (Nat.le_of_ble_eq_true rfl) dX12_skip_265 ⟨Nat.le_refl 0, Nat.le_refl 0⟩) X129628 (fun v129672 t129671 H lc q129669 X129670 => ?_)
                                unfold po_X12_peek_x at q129669
                                obtain ⟨q129673, q129674, q129675, q129676⟩ := q129669
                                rw [q129673] at X129670
                                rw [q129673] at q129675
                                rw [q129673] at q129676
                                have pk129677 : PKf bb nb f129518 v129672 := pk_b hB I129631 (F129632 131 3 (by simp [fz])) (fun j => F129632 132 j (by simp [fz])) ((M129630.1 131 (by decide) 4).trans z129520) (by omega) q129676
                                obtain ⟨e129678, e129679, e129680⟩ := PK_at pk129677 (by omega)
                                refine r_iadd S dX12_skip_268 (fun v129681 z129682 => ?_)
                                have r129683 := R_any v129681
                                refine r_bipush S dX12_skip_269 (by decide) (fun v129684 z129685 => ?_)
                                have r129686 := R_eq z129685
                                refine r_isub S dX12_skip_271 (fun v129687 z129688 => ?_)
                                have r129689 := R_any v129687
                                refine r_put (K := 38) (ty := .int) S X129670 (Nat.le_of_ble_eq_true rfl) rfl lk12_167_10 (fun _ => ⟨_, rfl, Nat.le_of_ble_eq_true rfl, rfl⟩) (fun _ _ _ h => by cases h; exact ⟨rfl, rfl⟩) rfl rfl dX12_skip_272 (fun t129690 H lc M129691 X129692 => ?_)
                                have I129693 := Inv_mu I129631 M129691 (R_any v129687)
                                have F129694 : Fr [(131, 4), (131, 11), (131, 12), (131, 13), (131, 14)] [331] τ t129690 := Fr_mu F129632 M129691 (by decide)
                                refine r_aload_n S dX12_skip_275 rfl (lv_at hl 1 rfl) ?_
                                refine r_dup S dX12_skip_276 rfl ?_
                                refine r_geti (K := 38) S X129692 (Nat.le_of_ble_eq_true rfl) rfl lk12_154_10 (fun _ => ⟨_, rfl, rfl⟩) ((M129691.2 131 13 (Or.inr (by decide))).trans ((M129630.1 131 (by decide) 13).trans z129526)) dX12_skip_277 ?_
                                refine r_iconst S dX12_skip_280 (by decide) (fun v129695 z129696 => ?_)
                                have r129697 := R_eq z129696
                                refine r_iadd S dX12_skip_281 (fun v129698 z129699 => ?_)
                                obtain ⟨e129700, r129701⟩ := i_add (lo := 1) (hi := 2) z129699 r129662 r129697 rfl
                                refine r_put (K := 38) (ty := .int) S X129692 (Nat.le_of_ble_eq_true rfl) rfl lk12_154_10 (fun _ => ⟨_, rfl, Nat.le_of_ble_eq_true rfl, rfl⟩) (fun _ _ _ h => by cases h; exact ⟨rfl, rfl⟩) rfl rfl dX12_skip_282 (fun t129702 H lc M129703 X129704 => ?_)
                                have I129705 := Inv_mu I129693 M129703 (show Rg (kd 131) 13 v129698 from (R_of (lo := 0) (hi := 940) r129701 rfl))
                                have F129706 : Fr [(131, 4), (131, 11), (131, 12), (131, 13), (131, 14)] [331] τ t129702 := Fr_mu F129694 M129703 (by decide)
                                refine r_aload_n S dX12_skip_285 rfl (lv_at hl 1 rfl) ?_
                                refine r_dup S dX12_skip_286 rfl ?_
                                refine r_geti (K := 38) S X129704 (Nat.le_of_ble_eq_true rfl) rfl lk12_21_10 (fun _ => ⟨_, rfl, rfl⟩) ((M129703.2 131 4 (Or.inr (by decide))).trans ((M129691.2 131 4 (Or.inr (by decide))).trans ((M129630.1 131 (by decide) 4).trans z129520))) dX12_skip_287 ?_
                                refine r_iconst S dX12_skip_290 (by decide) (fun v129707 z129708 => ?_)
                                have r129709 := R_eq z129708
                                refine r_iadd S dX12_skip_291 (fun v129710 z129711 => ?_)
                                obtain ⟨e129712, r129713⟩ := i_add (lo := 1) (hi := 940) z129711 r129559 r129709 rfl
                                refine r_put (K := 38) (ty := .int) S X129704 (Nat.le_of_ble_eq_true rfl) rfl lk12_21_10 (fun _ => ⟨_, rfl, Nat.le_of_ble_eq_true rfl, rfl⟩) (fun _ _ _ h => by cases h; exact ⟨rfl, rfl⟩) rfl rfl dX12_skip_292 (fun t129714 H lc M129715 X129716 => ?_)
                                have I129717 := Inv_mu I129705 M129715 (show Rg (kd 131) 4 v129710 from (R_of (lo := 0) (hi := 940) r129713 rfl))
                                have F129718 : Fr [(131, 4), (131, 11), (131, 12), (131, 13), (131, 14)] [331] τ t129714 := Fr_mu F129706 M129715 (by decide)
                                refine r_goto (tgt := 181) S dX12_skip_295 (by decide) ?_
                                exact ih129533 t129714 _ _ _ v129567 v129710 v129698 v129687 X129716 I129717 F129718 (R_of r129569 rfl) M129715.1 ⟨by omega, by omega⟩ ((M129715.2 131 3 (Or.inr (by decide))).trans ((M129703.2 131 3 (Or.inr (by decide))).trans ((M129691.2 131 3 (Or.inr (by decide))).trans ((M129630.1 131 (by decide) 3).trans z129521)))) ((M129715.2 131 5 (Or.inr (by decide))).trans ((M129703.2 131 5 (Or.inr (by decide))).trans ((M129691.2 131 5 (Or.inr (by decide))).trans ((M129630.1 131 (by decide) 5).trans z129522)))) ((M129715.2 131 12 (Or.inr (by decide))).trans ((M129703.2 131 12 (Or.inr (by decide))).trans ((M129691.2 131 12 (Or.inr (by decide))).trans ((M129630.1 131 (by decide) 12).trans z129523)))) ((M129715.2 131 13 (Or.inr (by decide))).trans M129703.1) ⟨by omega, by omega⟩ ((M129715.2 131 14 (Or.inr (by decide))).trans ((M129703.2 131 14 (Or.inr (by decide))).trans M129691.1)) ⟨by omega, by omega⟩ (LM_upq (i := f129518) (sp := f129524) (al := i129512) x129531 hs98123 (by omega) (by omega) (LM_hw (x := v129615) (y := v129607) x129531 z129606 (by omega) (by rw [z129627, z129611, z129625]) ((qof_of (k := 131) (fun j => ((M129715.2 331 j (Or.inl (by decide))).trans ((M129703.2 331 j (Or.inl (by decide))).trans ((M129691.2 331 j (Or.inl (by decide))).trans rfl)))) 17).trans (Ml_upd M129630)) (by omega) (by omega)) (LM_hn (c := v129663) (x := v129672) (d := v129684) x129531 (by omega) z129667 z129682 (by omega) z129688 (by omega) (by omega)) (by omega) (by omega) (by omega)) (by omega) (lv_sub hl [1, 2, 0] rfl) (by omega)
                          ·
                            have r129719 : R (1) (1) i129512 := ⟨by omega, by omega⟩
                            refine r_aload_n S dX12_skip_205 rfl (lv_at hl 0 rfl) ?_
                            refine r_ki (q_V (As := []) (rest := []) (K := 38) (ci := 10) S X129546 (c_X12_peek_x l G t129514 I129515 ) ck12_147 (Nat.le_of_ble_eq_true rfl) rfl (fun _ => ⟨_, rfl⟩) ⟨_, _, rfl⟩ ⟨Nat.le_of_ble_eq_true rfl, Nat.le_of_ble_eq_true rfl⟩ rfl hl.1 rfl (Nat.le_of_ble_eq_true rfl) dX12_skip_206 ⟨Nat.le_refl 0, Nat.le_refl 0⟩) X129546 (fun v129723 t129722 H lc q129720 X129721 => ?_)
                            unfold po_X12_peek_x at q129720
                            obtain ⟨q129724, q129725, q129726, q129727⟩ := q129720
                            rw [q129724] at X129721
                            rw [q129724] at q129726
                            rw [q129724] at q129727
                            have pk129728 : PKf bb nb f129518 v129723 := pk_b hB I129515 (F129516 131 3 (by simp [fz])) (fun j => F129516 132 j (by simp [fz])) z129520 (by omega) q129727
                            obtain ⟨e129729, e129730, e129731⟩ := PK_at pk129728 (by omega)
                            refine r_ki (q_S (As := [.int v129723]) (rest := []) S X129721 (c_X12_isSmall_x l G t129514 I129515 v129723 (R_of (lo := -2147483648) (hi := 2147483647) q129725 rfl)) ck12_160 ⟨Nat.le_of_ble_eq_true rfl, Nat.le_of_ble_eq_true rfl⟩ rfl hl.1 rfl (Nat.le_of_ble_eq_true rfl) dX12_skip_209 ⟨Nat.le_refl 0, Nat.le_refl 0⟩) X129721 (fun v129735 t129734 H lc q129732 X129733 => ?_)
                            unfold po_X12_isSmall_x at q129732
                            obtain ⟨q129736, q129737, q129738, q129739⟩ := q129732
                            rw [q129736] at X129733
                            refine r_iload_n S dX12_skip_212 rfl (lv_at hl 1 rfl) ?_
                            refine r_icmp_ne (tgt := 220) S dX12_skip_213 (by decide) (fun c129740 => ?_) (fun c129740 => ?_)
                            ·
                              refine r_iconst S dX12_skip_220 (by decide) (fun v129741 z129742 => ?_)
                              have r129743 := R_eq z129742
                              refine r_istore_n (lv' := [(3, .int v129741), (0, .ref (G.2.2.2.1 131)), (2, .int v98115)]) S dX12_skip_221 rfl hl (by decide) rfl (fun ls hl => ?_)
                              refine r_aload_n S dX12_skip_222 rfl (lv_at hl 1 rfl) ?_
                              refine r_geti (K := 38) S X129733 (Nat.le_of_ble_eq_true rfl) rfl lk12_154_10 (fun _ => ⟨_, rfl, rfl⟩) z129526 dX12_skip_223 ?_
                              refine r_bipush S dX12_skip_226 (by decide) (fun v129744 z129745 => ?_)
                              have r129746 := R_eq z129745
                              refine r_icmp_ge (tgt := 248) S dX12_skip_228 (by decide) (fun c129747 => ?_) (fun c129747 => ?_)
                              ·
                                have r129748 : R (7) (940) f129524 := ⟨by omega, by omega⟩
                                refine r_aload_n S dX12_skip_248 rfl (lv_at hl 1 rfl) ?_
                                refine r_geti (K := 38) S X129733 (Nat.le_of_ble_eq_true rfl) rfl lk12_154_10 (fun _ => ⟨_, rfl, rfl⟩) z129526 dX12_skip_249 ?_
                                refine r_iconst S dX12_skip_252 (by decide) (fun v129749 z129750 => ?_)
                                have r129751 := R_eq z129750
                                refine r_icmp_ge (tgt := 275) S dX12_skip_253 (by decide) (fun c129752 => ?_) (fun c129752 => ?_)
                                ·
                                  refine r_aload_n S dX12_skip_275 rfl (lv_at hl 1 rfl) ?_
                                  refine r_dup S dX12_skip_276 rfl ?_
                                  refine r_geti (K := 38) S X129733 (Nat.le_of_ble_eq_true rfl) rfl lk12_154_10 (fun _ => ⟨_, rfl, rfl⟩) z129526 dX12_skip_277 ?_
                                  refine r_iconst S dX12_skip_280 (by decide) (fun v129753 z129754 => ?_)
                                  have r129755 := R_eq z129754
                                  refine r_iadd S dX12_skip_281 (fun v129756 z129757 => ?_)
                                  obtain ⟨e129758, r129759⟩ := i_add (lo := 8) (hi := 941) z129757 r129748 r129755 rfl
                                  refine r_put (K := 38) (ty := .int) S X129733 (Nat.le_of_ble_eq_true rfl) rfl lk12_154_10 (fun _ => ⟨_, rfl, Nat.le_of_ble_eq_true rfl, rfl⟩) (fun _ _ _ h => by cases h; exact ⟨rfl, rfl⟩) rfl rfl dX12_skip_282 (fun t129760 H lc M129761 X129762 => ?_)
                                  have I129763 := Inv_mu I129515 M129761 (show Rg (kd 131) 13 v129756 from (show R (0) (940) v129756 from ⟨by omega, by omega⟩))
                                  have F129764 : Fr [(131, 4), (131, 11), (131, 12), (131, 13), (131, 14)] [331] τ t129760 := Fr_mu F129516 M129761 (by decide)
                                  have r129765 : R (8) (940) v129756 := ⟨by omega, by omega⟩
                                  refine r_aload_n S dX12_skip_285 rfl (lv_at hl 1 rfl) ?_
                                  refine r_dup S dX12_skip_286 rfl ?_
                                  refine r_geti (K := 38) S X129762 (Nat.le_of_ble_eq_true rfl) rfl lk12_21_10 (fun _ => ⟨_, rfl, rfl⟩) ((M129761.2 131 4 (Or.inr (by decide))).trans z129520) dX12_skip_287 ?_
                                  refine r_iconst S dX12_skip_290 (by decide) (fun v129766 z129767 => ?_)
                                  have r129768 := R_eq z129767
                                  refine r_iadd S dX12_skip_291 (fun v129769 z129770 => ?_)
                                  obtain ⟨e129771, r129772⟩ := i_add (lo := 1) (hi := 940) z129770 r129559 r129768 rfl
                                  refine r_put (K := 38) (ty := .int) S X129762 (Nat.le_of_ble_eq_true rfl) rfl lk12_21_10 (fun _ => ⟨_, rfl, Nat.le_of_ble_eq_true rfl, rfl⟩) (fun _ _ _ h => by cases h; exact ⟨rfl, rfl⟩) rfl rfl dX12_skip_292 (fun t129773 H lc M129774 X129775 => ?_)
                                  have I129776 := Inv_mu I129763 M129774 (show Rg (kd 131) 4 v129769 from (R_of (lo := 0) (hi := 940) r129772 rfl))
                                  have F129777 : Fr [(131, 4), (131, 11), (131, 12), (131, 13), (131, 14)] [331] τ t129773 := Fr_mu F129764 M129774 (by decide)
                                  refine r_goto (tgt := 181) S dX12_skip_295 (by decide) ?_
                                  exact ih129533 t129773 _ _ _ v129741 v129769 v129756 f129527 X129775 I129776 F129777 (R_of r129743 rfl) M129774.1 ⟨by omega, by omega⟩ ((M129774.2 131 3 (Or.inr (by decide))).trans ((M129761.2 131 3 (Or.inr (by decide))).trans z129521)) ((M129774.2 131 5 (Or.inr (by decide))).trans ((M129761.2 131 5 (Or.inr (by decide))).trans z129522)) ((M129774.2 131 12 (Or.inr (by decide))).trans ((M129761.2 131 12 (Or.inr (by decide))).trans z129523)) ((M129774.2 131 13 (Or.inr (by decide))).trans M129761.1) ⟨by omega, by omega⟩ ((M129774.2 131 14 (Or.inr (by decide))).trans ((M129761.2 131 14 (Or.inr (by decide))).trans z129529)) ⟨by omega, by omega⟩ (by rw [(qof_of (k := 131) (fun j => ((M129774.2 331 j (Or.inl (by decide))).trans ((M129761.2 331 j (Or.inl (by decide))).trans rfl))) 17)]; exact LM_upq (i := f129518) (sp := f129524) (al := i129512) x129531 hs98123 (by omega) (by omega) (fun _ _ h => by exfalso; omega) (fun _ _ h => by exfalso; omega) (by omega) (by omega) (by omega)) (by omega) (lv_sub hl [1, 2, 0] rfl) (by omega)
                                ·
                                  exfalso; omega
                              ·
                                have r129778 : R (0) (6) f129524 := ⟨by omega, by omega⟩
                                refine r_aload_n S dX12_skip_231 rfl (lv_at hl 1 rfl) ?_
                                refine r_aload_n S dX12_skip_232 rfl (lv_at hl 1 rfl) ?_
                                refine r_getJ (K := 38) S X129733 (Nat.le_of_ble_eq_true rfl) rfl lk12_170_10 (fun _ => ⟨_, rfl, rfl⟩) dX12_skip_233 (fun j129779 z129780 => ?_)
                                refine r_bipush S dX12_skip_236 (by decide) (fun v129781 z129782 => ?_)
                                have r129783 := R_eq z129782
                                refine lv_lshl S.1.1 S.1.2.1 dX12_skip_238 rfl ?_
                                refine lv_topl (fun j129784 z129785 => ?_)
                                refine r_aload_n S dX12_skip_239 rfl (lv_at hl 1 rfl) ?_
                                refine r_ki (q_V (As := []) (rest := [.long j129784, .ref (G.2.2.2.1 131)]) (K := 38) (ci := 10) S X129733 (c_X12_peek_x l G t129514 I129515 ) ck12_147 (Nat.le_of_ble_eq_true rfl) rfl (fun _ => ⟨_, rfl⟩) ⟨_, _, rfl⟩ ⟨Nat.le_of_ble_eq_true rfl, Nat.le_of_ble_eq_true rfl⟩ rfl hl.1 rfl (Nat.le_of_ble_eq_true rfl) dX12_skip_240 ⟨Nat.le_refl 0, Nat.le_refl 0⟩) X129733 (fun v129789 t129788 H lc q129786 X129787 => ?_)
                                unfold po_X12_peek_x at q129786
                                obtain ⟨q129790, q129791, q129792, q129793⟩ := q129786
                                rw [q129790] at X129787
                                rw [q129790] at q129792
                                rw [q129790] at q129793
                                have pk129794 : PKf bb nb f129518 v129789 := pk_b hB I129515 (F129516 131 3 (by simp [fz])) (fun j => F129516 132 j (by simp [fz])) z129520 (by omega) q129793
                                obtain ⟨e129795, e129796, e129797⟩ := PK_at pk129794 (by omega)
                                refine lv_i2l S.1.1 S.1.2.1 dX12_skip_243 rfl ?_
                                refine lv_topl (fun j129798 z129799 => ?_)
                                refine lv_lor S.1.1 S.1.2.1 dX12_skip_244 ?_
                                refine lv_topl (fun j129800 z129801 => ?_)
                                refine r_putJ (K := 38) S X129787 (Nat.le_of_ble_eq_true rfl) rfl lk12_170_10 (fun _ => ⟨_, rfl, Nat.le_of_ble_eq_true rfl, rfl⟩) (fun _ _ _ h => by cases h; exact ⟨rfl, rfl⟩) dX12_skip_245 (fun t129803 H lc M129804 X129802 => ?_)
                                have I129805 := Inv_ml I129515 M129804
                                have F129806 : Fr [(131, 4), (131, 11), (131, 12), (131, 13), (131, 14)] [331] τ t129803 := Fr_ml F129516 M129804 (by decide)
                                refine r_aload_n S dX12_skip_248 rfl (lv_at hl 1 rfl) ?_
                                refine r_geti (K := 38) S X129802 (Nat.le_of_ble_eq_true rfl) rfl lk12_154_10 (fun _ => ⟨_, rfl, rfl⟩) ((M129804.1 131 (by decide) 13).trans z129526) dX12_skip_249 ?_
                                refine r_iconst S dX12_skip_252 (by decide) (fun v129807 z129808 => ?_)
                                have r129809 := R_eq z129808
                                refine r_icmp_ge (tgt := 275) S dX12_skip_253 (by decide) (fun c129810 => ?_) (fun c129810 => ?_)
                                ·
                                  have r129811 : R (2) (6) f129524 := ⟨by omega, by omega⟩
                                  refine r_aload_n S dX12_skip_275 rfl (lv_at hl 1 rfl) ?_
                                  refine r_dup S dX12_skip_276 rfl ?_
                                  refine r_geti (K := 38) S X129802 (Nat.le_of_ble_eq_true rfl) rfl lk12_154_10 (fun _ => ⟨_, rfl, rfl⟩) ((M129804.1 131 (by decide) 13).trans z129526) dX12_skip_277 ?_
                                  refine r_iconst S dX12_skip_280 (by decide) (fun v129812 z129813 => ?_)
                                  have r129814 := R_eq z129813
                                  refine r_iadd S dX12_skip_281 (fun v129815 z129816 => ?_)
                                  obtain ⟨e129817, r129818⟩ := i_add (lo := 3) (hi := 7) z129816 r129811 r129814 rfl
                                  refine r_put (K := 38) (ty := .int) S X129802 (Nat.le_of_ble_eq_true rfl) rfl lk12_154_10 (fun _ => ⟨_, rfl, Nat.le_of_ble_eq_true rfl, rfl⟩) (fun _ _ _ h => by cases h; exact ⟨rfl, rfl⟩) rfl rfl dX12_skip_282 (fun t129819 H lc M129820 X129821 => ?_)
                                  have I129822 := Inv_mu I129805 M129820 (show Rg (kd 131) 13 v129815 from (R_of (lo := 0) (hi := 940) r129818 rfl))
                                  have F129823 : Fr [(131, 4), (131, 11), (131, 12), (131, 13), (131, 14)] [331] τ t129819 := Fr_mu F129806 M129820 (by decide)
                                  refine r_aload_n S dX12_skip_285 rfl (lv_at hl 1 rfl) ?_
                                  refine r_dup S dX12_skip_286 rfl ?_
                                  refine r_geti (K := 38) S X129821 (Nat.le_of_ble_eq_true rfl) rfl lk12_21_10 (fun _ => ⟨_, rfl, rfl⟩) ((M129820.2 131 4 (Or.inr (by decide))).trans ((M129804.1 131 (by decide) 4).trans z129520)) dX12_skip_287 ?_
                                  refine r_iconst S dX12_skip_290 (by decide) (fun v129824 z129825 => ?_)
                                  have r129826 := R_eq z129825
                                  refine r_iadd S dX12_skip_291 (fun v129827 z129828 => ?_)
                                  obtain ⟨e129829, r129830⟩ := i_add (lo := 1) (hi := 940) z129828 r129559 r129826 rfl
                                  refine r_put (K := 38) (ty := .int) S X129821 (Nat.le_of_ble_eq_true rfl) rfl lk12_21_10 (fun _ => ⟨_, rfl, Nat.le_of_ble_eq_true rfl, rfl⟩) (fun _ _ _ h => by cases h; exact ⟨rfl, rfl⟩) rfl rfl dX12_skip_292 (fun t129831 H lc M129832 X129833 => ?_)
                                  have I129834 := Inv_mu I129822 M129832 (show Rg (kd 131) 4 v129827 from (R_of (lo := 0) (hi := 940) r129830 rfl))
                                  have F129835 : Fr [(131, 4), (131, 11), (131, 12), (131, 13), (131, 14)] [331] τ t129831 := Fr_mu F129823 M129832 (by decide)
                                  refine r_goto (tgt := 181) S dX12_skip_295 (by decide) ?_
                                  exact ih129533 t129831 _ _ _ v129741 v129827 v129815 f129527 X129833 I129834 F129835 (R_of r129743 rfl) M129832.1 ⟨by omega, by omega⟩ ((M129832.2 131 3 (Or.inr (by decide))).trans ((M129820.2 131 3 (Or.inr (by decide))).trans ((M129804.1 131 (by decide) 3).trans z129521))) ((M129832.2 131 5 (Or.inr (by decide))).trans ((M129820.2 131 5 (Or.inr (by decide))).trans ((M129804.1 131 (by decide) 5).trans z129522))) ((M129832.2 131 12 (Or.inr (by decide))).trans ((M129820.2 131 12 (Or.inr (by decide))).trans ((M129804.1 131 (by decide) 12).trans z129523))) ((M129832.2 131 13 (Or.inr (by decide))).trans M129820.1) ⟨by omega, by omega⟩ ((M129832.2 131 14 (Or.inr (by decide))).trans ((M129820.2 131 14 (Or.inr (by decide))).trans ((M129804.1 131 (by decide) 14).trans z129529))) ⟨by omega, by omega⟩ (LM_upq (i := f129518) (sp := f129524) (al := i129512) x129531 hs98123 (by omega) (by omega) (LM_hw (x := v129789) (y := v129781) x129531 z129780 (by omega) (by rw [z129801, z129785, z129799]) ((qof_of (k := 131) (fun j => ((M129832.2 331 j (Or.inl (by decide))).trans ((M129820.2 331 j (Or.inl (by decide))).trans rfl))) 17).trans (Ml_upd M129804)) (by omega) (by omega)) (fun _ _ h => by exfalso; omega) (by omega) (by omega) (by omega)) (by omega) (lv_sub hl [1, 2, 0] rfl) (by omega)
                                ·
                                  have r129836 : R (0) (1) f129524 := ⟨by omega, by omega⟩
                                  refine r_aload_n S dX12_skip_256 rfl (lv_at hl 1 rfl) ?_
                                  refine r_bipush S dX12_skip_257 (by decide) (fun v129837 z129838 => ?_)
                                  have r129839 := R_eq z129838
                                  refine r_aload_n S dX12_skip_259 rfl (lv_at hl 1 rfl) ?_
                                  refine r_geti (K := 38) S X129802 (Nat.le_of_ble_eq_true rfl) rfl lk12_167_10 (fun _ => ⟨_, rfl, rfl⟩) ((M129804.1 131 (by decide) 14).trans z129529) dX12_skip_260 ?_
                                  refine r_imul S dX12_skip_263 (fun v129840 z129841 => ?_)
                                  have r129842 := R_any v129840
                                  refine r_aload_n S dX12_skip_264 rfl (lv_at hl 1 rfl) ?_
                                  refine r_ki (q_V (As := []) (rest := [.int v129840, .ref (G.2.2.2.1 131)]) (K := 38) (ci := 10) S X129802 (c_X12_peek_x l G t129803 I129805 ) ck12_147 (Nat.le_of_ble_eq_true rfl) rfl (fun _ => ⟨_, rfl⟩) ⟨_, _, rfl⟩ ⟨Nat.le_of_ble_eq_true rfl, Nat.le_of_ble_eq_true rfl⟩ rfl hl.1 rfl (Nat.le_of_ble_eq_true rfl) dX12_skip_265 ⟨Nat.le_refl 0, Nat.le_refl 0⟩) X129802 (fun v129846 t129845 H lc q129843 X129844 => ?_)
                                  unfold po_X12_peek_x at q129843
                                  obtain ⟨q129847, q129848, q129849, q129850⟩ := q129843
                                  rw [q129847] at X129844
                                  rw [q129847] at q129849
                                  rw [q129847] at q129850
                                  have pk129851 : PKf bb nb f129518 v129846 := pk_b hB I129805 (F129806 131 3 (by simp [fz])) (fun j => F129806 132 j (by simp [fz])) ((M129804.1 131 (by decide) 4).trans z129520) (by omega) q129850
                                  obtain ⟨e129852, e129853, e129854⟩ := PK_at pk129851 (by omega)
                                  refine r_iadd S dX12_skip_268 (fun v129855 z129856 => ?_)
                                  have r129857 := R_any v129855
                                  refine r_bipush S dX12_skip_269 (by decide) (fun v129858 z129859 => ?_)
                                  have r129860 := R_eq z129859
                                  refine r_isub S dX12_skip_271 (fun v129861 z129862 => ?_)
                                  have r129863 := R_any v129861
                                  refine r_put (K := 38) (ty := .int) S X129844 (Nat.le_of_ble_eq_true rfl) rfl lk12_167_10 (fun _ => ⟨_, rfl, Nat.le_of_ble_eq_true rfl, rfl⟩) (fun _ _ _ h => by cases h; exact ⟨rfl, rfl⟩) rfl rfl dX12_skip_272 (fun t129864 H lc M129865 X129866 => ?_)
                                  have I129867 := Inv_mu I129805 M129865 (R_any v129861)
                                  have F129868 : Fr [(131, 4), (131, 11), (131, 12), (131, 13), (131, 14)] [331] τ t129864 := Fr_mu F129806 M129865 (by decide)
                                  refine r_aload_n S dX12_skip_275 rfl (lv_at hl 1 rfl) ?_
                                  refine r_dup S dX12_skip_276 rfl ?_
                                  refine r_geti (K := 38) S X129866 (Nat.le_of_ble_eq_true rfl) rfl lk12_154_10 (fun _ => ⟨_, rfl, rfl⟩) ((M129865.2 131 13 (Or.inr (by decide))).trans ((M129804.1 131 (by decide) 13).trans z129526)) dX12_skip_277 ?_
                                  refine r_iconst S dX12_skip_280 (by decide) (fun v129869 z129870 => ?_)
                                  have r129871 := R_eq z129870
                                  refine r_iadd S dX12_skip_281 (fun v129872 z129873 => ?_)
                                  obtain ⟨e129874, r129875⟩ := i_add (lo := 1) (hi := 2) z129873 r129836 r129871 rfl
                                  refine r_put (K := 38) (ty := .int) S X129866 (Nat.le_of_ble_eq_true rfl) rfl lk12_154_10 (fun _ => ⟨_, rfl, Nat.le_of_ble_eq_true rfl, rfl⟩) (fun _ _ _ h => by cases h; exact ⟨rfl, rfl⟩) rfl rfl dX12_skip_282 (fun t129876 H lc M129877 X129878 => ?_)
                                  have I129879 := Inv_mu I129867 M129877 (show Rg (kd 131) 13 v129872 from (R_of (lo := 0) (hi := 940) r129875 rfl))
                                  have F129880 : Fr [(131, 4), (131, 11), (131, 12), (131, 13), (131, 14)] [331] τ t129876 := Fr_mu F129868 M129877 (by decide)
                                  refine r_aload_n S dX12_skip_285 rfl (lv_at hl 1 rfl) ?_
                                  refine r_dup S dX12_skip_286 rfl ?_
                                  refine r_geti (K := 38) S X129878 (Nat.le_of_ble_eq_true rfl) rfl lk12_21_10 (fun _ => ⟨_, rfl, rfl⟩) ((M129877.2 131 4 (Or.inr (by decide))).trans ((M129865.2 131 4 (Or.inr (by decide))).trans ((M129804.1 131 (by decide) 4).trans z129520))) dX12_skip_287 ?_
                                  refine r_iconst S dX12_skip_290 (by decide) (fun v129881 z129882 => ?_)
                                  have r129883 := R_eq z129882
                                  refine r_iadd S dX12_skip_291 (fun v129884 z129885 => ?_)
                                  obtain ⟨e129886, r129887⟩ := i_add (lo := 1) (hi := 940) z129885 r129559 r129883 rfl
                                  refine r_put (K := 38) (ty := .int) S X129878 (Nat.le_of_ble_eq_true rfl) rfl lk12_21_10 (fun _ => ⟨_, rfl, Nat.le_of_ble_eq_true rfl, rfl⟩) (fun _ _ _ h => by cases h; exact ⟨rfl, rfl⟩) rfl rfl dX12_skip_292 (fun t129888 H lc M129889 X129890 => ?_)
                                  have I129891 := Inv_mu I129879 M129889 (show Rg (kd 131) 4 v129884 from (R_of (lo := 0) (hi := 940) r129887 rfl))
                                  have F129892 : Fr [(131, 4), (131, 11), (131, 12), (131, 13), (131, 14)] [331] τ t129888 := Fr_mu F129880 M129889 (by decide)
                                  refine r_goto (tgt := 181) S dX12_skip_295 (by decide) ?_
                                  exact ih129533 t129888 _ _ _ v129741 v129884 v129872 v129861 X129890 I129891 F129892 (R_of r129743 rfl) M129889.1 ⟨by omega, by omega⟩ ((M129889.2 131 3 (Or.inr (by decide))).trans ((M129877.2 131 3 (Or.inr (by decide))).trans ((M129865.2 131 3 (Or.inr (by decide))).trans ((M129804.1 131 (by decide) 3).trans z129521)))) ((M129889.2 131 5 (Or.inr (by decide))).trans ((M129877.2 131 5 (Or.inr (by decide))).trans ((M129865.2 131 5 (Or.inr (by decide))).trans ((M129804.1 131 (by decide) 5).trans z129522)))) ((M129889.2 131 12 (Or.inr (by decide))).trans ((M129877.2 131 12 (Or.inr (by decide))).trans ((M129865.2 131 12 (Or.inr (by decide))).trans ((M129804.1 131 (by decide) 12).trans z129523)))) ((M129889.2 131 13 (Or.inr (by decide))).trans M129877.1) ⟨by omega, by omega⟩ ((M129889.2 131 14 (Or.inr (by decide))).trans ((M129877.2 131 14 (Or.inr (by decide))).trans M129865.1)) ⟨by omega, by omega⟩ (LM_upq (i := f129518) (sp := f129524) (al := i129512) x129531 hs98123 (by omega) (by omega) (LM_hw (x := v129789) (y := v129781) x129531 z129780 (by omega) (by rw [z129801, z129785, z129799]) ((qof_of (k := 131) (fun j => ((M129889.2 331 j (Or.inl (by decide))).trans ((M129877.2 331 j (Or.inl (by decide))).trans ((M129865.2 331 j (Or.inl (by decide))).trans rfl)))) 17).trans (Ml_upd M129804)) (by omega) (by omega)) (LM_hn (c := v129837) (x := v129846) (d := v129858) x129531 (by omega) z129841 z129856 (by omega) z129862 (by omega) (by omega)) (by omega) (by omega) (by omega)) (by omega) (lv_sub hl [1, 2, 0] rfl) (by omega)
                            ·
                              refine r_iconst S dX12_skip_216 (by decide) (fun v129893 z129894 => ?_)
                              have r129895 := R_eq z129894
                              refine r_goto (tgt := 221) S dX12_skip_217 (by decide) ?_
                              refine r_istore_n (lv' := [(3, .int v129893), (0, .ref (G.2.2.2.1 131)), (2, .int v98115)]) S dX12_skip_221 rfl hl (by decide) rfl (fun ls hl => ?_)
                              refine r_aload_n S dX12_skip_222 rfl (lv_at hl 1 rfl) ?_
                              refine r_geti (K := 38) S X129733 (Nat.le_of_ble_eq_true rfl) rfl lk12_154_10 (fun _ => ⟨_, rfl, rfl⟩) z129526 dX12_skip_223 ?_
                              refine r_bipush S dX12_skip_226 (by decide) (fun v129896 z129897 => ?_)
                              have r129898 := R_eq z129897
                              refine r_icmp_ge (tgt := 248) S dX12_skip_228 (by decide) (fun c129899 => ?_) (fun c129899 => ?_)
                              ·
                                have r129900 : R (7) (940) f129524 := ⟨by omega, by omega⟩
                                refine r_aload_n S dX12_skip_248 rfl (lv_at hl 1 rfl) ?_
                                refine r_geti (K := 38) S X129733 (Nat.le_of_ble_eq_true rfl) rfl lk12_154_10 (fun _ => ⟨_, rfl, rfl⟩) z129526 dX12_skip_249 ?_
                                refine r_iconst S dX12_skip_252 (by decide) (fun v129901 z129902 => ?_)
                                have r129903 := R_eq z129902
                                refine r_icmp_ge (tgt := 275) S dX12_skip_253 (by decide) (fun c129904 => ?_) (fun c129904 => ?_)
                                ·
                                  refine r_aload_n S dX12_skip_275 rfl (lv_at hl 1 rfl) ?_
                                  refine r_dup S dX12_skip_276 rfl ?_
                                  refine r_geti (K := 38) S X129733 (Nat.le_of_ble_eq_true rfl) rfl lk12_154_10 (fun _ => ⟨_, rfl, rfl⟩) z129526 dX12_skip_277 ?_
                                  refine r_iconst S dX12_skip_280 (by decide) (fun v129905 z129906 => ?_)
                                  have r129907 := R_eq z129906
                                  refine r_iadd S dX12_skip_281 (fun v129908 z129909 => ?_)
                                  obtain ⟨e129910, r129911⟩ := i_add (lo := 8) (hi := 941) z129909 r129900 r129907 rfl
                                  refine r_put (K := 38) (ty := .int) S X129733 (Nat.le_of_ble_eq_true rfl) rfl lk12_154_10 (fun _ => ⟨_, rfl, Nat.le_of_ble_eq_true rfl, rfl⟩) (fun _ _ _ h => by cases h; exact ⟨rfl, rfl⟩) rfl rfl dX12_skip_282 (fun t129912 H lc M129913 X129914 => ?_)
                                  have I129915 := Inv_mu I129515 M129913 (show Rg (kd 131) 13 v129908 from (show R (0) (940) v129908 from ⟨by omega, by omega⟩))
                                  have F129916 : Fr [(131, 4), (131, 11), (131, 12), (131, 13), (131, 14)] [331] τ t129912 := Fr_mu F129516 M129913 (by decide)
                                  have r129917 : R (8) (940) v129908 := ⟨by omega, by omega⟩
                                  refine r_aload_n S dX12_skip_285 rfl (lv_at hl 1 rfl) ?_
                                  refine r_dup S dX12_skip_286 rfl ?_
                                  refine r_geti (K := 38) S X129914 (Nat.le_of_ble_eq_true rfl) rfl lk12_21_10 (fun _ => ⟨_, rfl, rfl⟩) ((M129913.2 131 4 (Or.inr (by decide))).trans z129520) dX12_skip_287 ?_
                                  refine r_iconst S dX12_skip_290 (by decide) (fun v129918 z129919 => ?_)
                                  have r129920 := R_eq z129919
                                  refine r_iadd S dX12_skip_291 (fun v129921 z129922 => ?_)
                                  obtain ⟨e129923, r129924⟩ := i_add (lo := 1) (hi := 940) z129922 r129559 r129920 rfl
                                  refine r_put (K := 38) (ty := .int) S X129914 (Nat.le_of_ble_eq_true rfl) rfl lk12_21_10 (fun _ => ⟨_, rfl, Nat.le_of_ble_eq_true rfl, rfl⟩) (fun _ _ _ h => by cases h; exact ⟨rfl, rfl⟩) rfl rfl dX12_skip_292 (fun t129925 H lc M129926 X129927 => ?_)
                                  have I129928 := Inv_mu I129915 M129926 (show Rg (kd 131) 4 v129921 from (R_of (lo := 0) (hi := 940) r129924 rfl))
                                  have F129929 : Fr [(131, 4), (131, 11), (131, 12), (131, 13), (131, 14)] [331] τ t129925 := Fr_mu F129916 M129926 (by decide)
                                  refine r_goto (tgt := 181) S dX12_skip_295 (by decide) ?_
                                  exact ih129533 t129925 _ _ _ v129893 v129921 v129908 f129527 X129927 I129928 F129929 (R_of r129895 rfl) M129926.1 ⟨by omega, by omega⟩ ((M129926.2 131 3 (Or.inr (by decide))).trans ((M129913.2 131 3 (Or.inr (by decide))).trans z129521)) ((M129926.2 131 5 (Or.inr (by decide))).trans ((M129913.2 131 5 (Or.inr (by decide))).trans z129522)) ((M129926.2 131 12 (Or.inr (by decide))).trans ((M129913.2 131 12 (Or.inr (by decide))).trans z129523)) ((M129926.2 131 13 (Or.inr (by decide))).trans M129913.1) ⟨by omega, by omega⟩ ((M129926.2 131 14 (Or.inr (by decide))).trans ((M129913.2 131 14 (Or.inr (by decide))).trans z129529)) ⟨by omega, by omega⟩ (by rw [(qof_of (k := 131) (fun j => ((M129926.2 331 j (Or.inl (by decide))).trans ((M129913.2 331 j (Or.inl (by decide))).trans rfl))) 17)]; exact LM_upq (i := f129518) (sp := f129524) (al := i129512) x129531 hs98123 (by omega) (by omega) (fun _ _ h => by exfalso; omega) (fun _ _ h => by exfalso; omega) (by omega) (by omega) (by omega)) (by omega) (lv_sub hl [1, 2, 0] rfl) (by omega)
                                ·
                                  exfalso; omega
                              ·
                                have r129930 : R (0) (6) f129524 := ⟨by omega, by omega⟩
                                refine r_aload_n S dX12_skip_231 rfl (lv_at hl 1 rfl) ?_
                                refine r_aload_n S dX12_skip_232 rfl (lv_at hl 1 rfl) ?_
                                refine r_getJ (K := 38) S X129733 (Nat.le_of_ble_eq_true rfl) rfl lk12_170_10 (fun _ => ⟨_, rfl, rfl⟩) dX12_skip_233 (fun j129931 z129932 => ?_)
                                refine r_bipush S dX12_skip_236 (by decide) (fun v129933 z129934 => ?_)
                                have r129935 := R_eq z129934
                                refine lv_lshl S.1.1 S.1.2.1 dX12_skip_238 rfl ?_
                                refine lv_topl (fun j129936 z129937 => ?_)
                                refine r_aload_n S dX12_skip_239 rfl (lv_at hl 1 rfl) ?_
                                refine r_ki (q_V (As := []) (rest := [.long j129936, .ref (G.2.2.2.1 131)]) (K := 38) (ci := 10) S X129733 (c_X12_peek_x l G t129514 I129515 ) ck12_147 (Nat.le_of_ble_eq_true rfl) rfl (fun _ => ⟨_, rfl⟩) ⟨_, _, rfl⟩ ⟨Nat.le_of_ble_eq_true rfl, Nat.le_of_ble_eq_true rfl⟩ rfl hl.1 rfl (Nat.le_of_ble_eq_true rfl) dX12_skip_240 ⟨Nat.le_refl 0, Nat.le_refl 0⟩) X129733 (fun v129941 t129940 H lc q129938 X129939 => ?_)
                                unfold po_X12_peek_x at q129938
                                obtain ⟨q129942, q129943, q129944, q129945⟩ := q129938
                                rw [q129942] at X129939
                                rw [q129942] at q129944
                                rw [q129942] at q129945
                                have pk129946 : PKf bb nb f129518 v129941 := pk_b hB I129515 (F129516 131 3 (by simp [fz])) (fun j => F129516 132 j (by simp [fz])) z129520 (by omega) q129945
                                obtain ⟨e129947, e129948, e129949⟩ := PK_at pk129946 (by omega)
                                refine lv_i2l S.1.1 S.1.2.1 dX12_skip_243 rfl ?_
                                refine lv_topl (fun j129950 z129951 => ?_)
                                refine lv_lor S.1.1 S.1.2.1 dX12_skip_244 ?_
                                refine lv_topl (fun j129952 z129953 => ?_)
                                refine r_putJ (K := 38) S X129939 (Nat.le_of_ble_eq_true rfl) rfl lk12_170_10 (fun _ => ⟨_, rfl, Nat.le_of_ble_eq_true rfl, rfl⟩) (fun _ _ _ h => by cases h; exact ⟨rfl, rfl⟩) dX12_skip_245 (fun t129955 H lc M129956 X129954 => ?_)
                                have I129957 := Inv_ml I129515 M129956
                                have F129958 : Fr [(131, 4), (131, 11), (131, 12), (131, 13), (131, 14)] [331] τ t129955 := Fr_ml F129516 M129956 (by decide)
                                refine r_aload_n S dX12_skip_248 rfl (lv_at hl 1 rfl) ?_
                                refine r_geti (K := 38) S X129954 (Nat.le_of_ble_eq_true rfl) rfl lk12_154_10 (fun _ => ⟨_, rfl, rfl⟩) ((M129956.1 131 (by decide) 13).trans z129526) dX12_skip_249 ?_
                                refine r_iconst S dX12_skip_252 (by decide) (fun v129959 z129960 => ?_)
                                have r129961 := R_eq z129960
                                refine r_icmp_ge (tgt := 275) S dX12_skip_253 (by decide) (fun c129962 => ?_) (fun c129962 => ?_)
                                ·
                                  have r129963 : R (2) (6) f129524 := ⟨by omega, by omega⟩
                                  refine r_aload_n S dX12_skip_275 rfl (lv_at hl 1 rfl) ?_
                                  refine r_dup S dX12_skip_276 rfl ?_
                                  refine r_geti (K := 38) S X129954 (Nat.le_of_ble_eq_true rfl) rfl lk12_154_10 (fun _ => ⟨_, rfl, rfl⟩) ((M129956.1 131 (by decide) 13).trans z129526) dX12_skip_277 ?_
                                  refine r_iconst S dX12_skip_280 (by decide) (fun v129964 z129965 => ?_)
                                  have r129966 := R_eq z129965
                                  refine r_iadd S dX12_skip_281 (fun v129967 z129968 => ?_)
                                  obtain ⟨e129969, r129970⟩ := i_add (lo := 3) (hi := 7) z129968 r129963 r129966 rfl
                                  refine r_put (K := 38) (ty := .int) S X129954 (Nat.le_of_ble_eq_true rfl) rfl lk12_154_10 (fun _ => ⟨_, rfl, Nat.le_of_ble_eq_true rfl, rfl⟩) (fun _ _ _ h => by cases h; exact ⟨rfl, rfl⟩) rfl rfl dX12_skip_282 (fun t129971 H lc M129972 X129973 => ?_)
                                  have I129974 := Inv_mu I129957 M129972 (show Rg (kd 131) 13 v129967 from (R_of (lo := 0) (hi := 940) r129970 rfl))
                                  have F129975 : Fr [(131, 4), (131, 11), (131, 12), (131, 13), (131, 14)] [331] τ t129971 := Fr_mu F129958 M129972 (by decide)
                                  refine r_aload_n S dX12_skip_285 rfl (lv_at hl 1 rfl) ?_
                                  refine r_dup S dX12_skip_286 rfl ?_
                                  refine r_geti (K := 38) S X129973 (Nat.le_of_ble_eq_true rfl) rfl lk12_21_10 (fun _ => ⟨_, rfl, rfl⟩) ((M129972.2 131 4 (Or.inr (by decide))).trans ((M129956.1 131 (by decide) 4).trans z129520)) dX12_skip_287 ?_
                                  refine r_iconst S dX12_skip_290 (by decide) (fun v129976 z129977 => ?_)
                                  have r129978 := R_eq z129977
                                  refine r_iadd S dX12_skip_291 (fun v129979 z129980 => ?_)
                                  obtain ⟨e129981, r129982⟩ := i_add (lo := 1) (hi := 940) z129980 r129559 r129978 rfl
                                  refine r_put (K := 38) (ty := .int) S X129973 (Nat.le_of_ble_eq_true rfl) rfl lk12_21_10 (fun _ => ⟨_, rfl, Nat.le_of_ble_eq_true rfl, rfl⟩) (fun _ _ _ h => by cases h; exact ⟨rfl, rfl⟩) rfl rfl dX12_skip_292 (fun t129983 H lc M129984 X129985 => ?_)
                                  have I129986 := Inv_mu I129974 M129984 (show Rg (kd 131) 4 v129979 from (R_of (lo := 0) (hi := 940) r129982 rfl))
                                  have F129987 : Fr [(131, 4), (131, 11), (131, 12), (131, 13), (131, 14)] [331] τ t129983 := Fr_mu F129975 M129984 (by decide)
                                  refine r_goto (tgt := 181) S dX12_skip_295 (by decide) ?_
                                  exact ih129533 t129983 _ _ _ v129893 v129979 v129967 f129527 X129985 I129986 F129987 (R_of r129895 rfl) M129984.1 ⟨by omega, by omega⟩ ((M129984.2 131 3 (Or.inr (by decide))).trans ((M129972.2 131 3 (Or.inr (by decide))).trans ((M129956.1 131 (by decide) 3).trans z129521))) ((M129984.2 131 5 (Or.inr (by decide))).trans ((M129972.2 131 5 (Or.inr (by decide))).trans ((M129956.1 131 (by decide) 5).trans z129522))) ((M129984.2 131 12 (Or.inr (by decide))).trans ((M129972.2 131 12 (Or.inr (by decide))).trans ((M129956.1 131 (by decide) 12).trans z129523))) ((M129984.2 131 13 (Or.inr (by decide))).trans M129972.1) ⟨by omega, by omega⟩ ((M129984.2 131 14 (Or.inr (by decide))).trans ((M129972.2 131 14 (Or.inr (by decide))).trans ((M129956.1 131 (by decide) 14).trans z129529))) ⟨by omega, by omega⟩ (LM_upq (i := f129518) (sp := f129524) (al := i129512) x129531 hs98123 (by omega) (by omega) (LM_hw (x := v129941) (y := v129933) x129531 z129932 (by omega) (by rw [z129953, z129937, z129951]) ((qof_of (k := 131) (fun j => ((M129984.2 331 j (Or.inl (by decide))).trans ((M129972.2 331 j (Or.inl (by decide))).trans rfl))) 17).trans (Ml_upd M129956)) (by omega) (by omega)) (fun _ _ h => by exfalso; omega) (by omega) (by omega) (by omega)) (by omega) (lv_sub hl [1, 2, 0] rfl) (by omega)
                                ·
                                  have r129988 : R (0) (1) f129524 := ⟨by omega, by omega⟩
                                  refine r_aload_n S dX12_skip_256 rfl (lv_at hl 1 rfl) ?_
                                  refine r_bipush S dX12_skip_257 (by decide) (fun v129989 z129990 => ?_)
                                  have r129991 := R_eq z129990
                                  refine r_aload_n S dX12_skip_259 rfl (lv_at hl 1 rfl) ?_
                                  refine r_geti (K := 38) S X129954 (Nat.le_of_ble_eq_true rfl) rfl lk12_167_10 (fun _ => ⟨_, rfl, rfl⟩) ((M129956.1 131 (by decide) 14).trans z129529) dX12_skip_260 ?_
                                  refine r_imul S dX12_skip_263 (fun v129992 z129993 => ?_)
                                  have r129994 := R_any v129992
                                  refine r_aload_n S dX12_skip_264 rfl (lv_at hl 1 rfl) ?_
                                  refine r_ki (q_V (As := []) (rest := [.int v129992, .ref (G.2.2.2.1 131)]) (K := 38) (ci := 10) S X129954 (c_X12_peek_x l G t129955 I129957 ) ck12_147 (Nat.le_of_ble_eq_true rfl) rfl (fun _ => ⟨_, rfl⟩) ⟨_, _, rfl⟩ ⟨Nat.le_of_ble_eq_true rfl, Nat.le_of_ble_eq_true rfl⟩ rfl hl.1 rfl (Nat.le_of_ble_eq_true rfl) dX12_skip_265 ⟨Nat.le_refl 0, Nat.le_refl 0⟩) X129954 (fun v129998 t129997 H lc q129995 X129996 => ?_)
                                  unfold po_X12_peek_x at q129995
                                  obtain ⟨q129999, q130000, q130001, q130002⟩ := q129995
                                  rw [q129999] at X129996
                                  rw [q129999] at q130001
                                  rw [q129999] at q130002
                                  have pk130003 : PKf bb nb f129518 v129998 := pk_b hB I129957 (F129958 131 3 (by simp [fz])) (fun j => F129958 132 j (by simp [fz])) ((M129956.1 131 (by decide) 4).trans z129520) (by omega) q130002
                                  obtain ⟨e130004, e130005, e130006⟩ := PK_at pk130003 (by omega)
                                  refine r_iadd S dX12_skip_268 (fun v130007 z130008 => ?_)
                                  have r130009 := R_any v130007
                                  refine r_bipush S dX12_skip_269 (by decide) (fun v130010 z130011 => ?_)
                                  have r130012 := R_eq z130011
                                  refine r_isub S dX12_skip_271 (fun v130013 z130014 => ?_)
                                  have r130015 := R_any v130013
                                  refine r_put (K := 38) (ty := .int) S X129996 (Nat.le_of_ble_eq_true rfl) rfl lk12_167_10 (fun _ => ⟨_, rfl, Nat.le_of_ble_eq_true rfl, rfl⟩) (fun _ _ _ h => by cases h; exact ⟨rfl, rfl⟩) rfl rfl dX12_skip_272 (fun t130016 H lc M130017 X130018 => ?_)
                                  have I130019 := Inv_mu I129957 M130017 (R_any v130013)
                                  have F130020 : Fr [(131, 4), (131, 11), (131, 12), (131, 13), (131, 14)] [331] τ t130016 := Fr_mu F129958 M130017 (by decide)
                                  refine r_aload_n S dX12_skip_275 rfl (lv_at hl 1 rfl) ?_
                                  refine r_dup S dX12_skip_276 rfl ?_
                                  refine r_geti (K := 38) S X130018 (Nat.le_of_ble_eq_true rfl) rfl lk12_154_10 (fun _ => ⟨_, rfl, rfl⟩) ((M130017.2 131 13 (Or.inr (by decide))).trans ((M129956.1 131 (by decide) 13).trans z129526)) dX12_skip_277 ?_
                                  refine r_iconst S dX12_skip_280 (by decide) (fun v130021 z130022 => ?_)
                                  have r130023 := R_eq z130022
                                  refine r_iadd S dX12_skip_281 (fun v130024 z130025 => ?_)
                                  obtain ⟨e130026, r130027⟩ := i_add (lo := 1) (hi := 2) z130025 r129988 r130023 rfl
                                  refine r_put (K := 38) (ty := .int) S X130018 (Nat.le_of_ble_eq_true rfl) rfl lk12_154_10 (fun _ => ⟨_, rfl, Nat.le_of_ble_eq_true rfl, rfl⟩) (fun _ _ _ h => by cases h; exact ⟨rfl, rfl⟩) rfl rfl dX12_skip_282 (fun t130028 H lc M130029 X130030 => ?_)
                                  have I130031 := Inv_mu I130019 M130029 (show Rg (kd 131) 13 v130024 from (R_of (lo := 0) (hi := 940) r130027 rfl))
                                  have F130032 : Fr [(131, 4), (131, 11), (131, 12), (131, 13), (131, 14)] [331] τ t130028 := Fr_mu F130020 M130029 (by decide)
                                  refine r_aload_n S dX12_skip_285 rfl (lv_at hl 1 rfl) ?_
                                  refine r_dup S dX12_skip_286 rfl ?_
                                  refine r_geti (K := 38) S X130030 (Nat.le_of_ble_eq_true rfl) rfl lk12_21_10 (fun _ => ⟨_, rfl, rfl⟩) ((M130029.2 131 4 (Or.inr (by decide))).trans ((M130017.2 131 4 (Or.inr (by decide))).trans ((M129956.1 131 (by decide) 4).trans z129520))) dX12_skip_287 ?_
                                  refine r_iconst S dX12_skip_290 (by decide) (fun v130033 z130034 => ?_)
                                  have r130035 := R_eq z130034
                                  refine r_iadd S dX12_skip_291 (fun v130036 z130037 => ?_)
                                  obtain ⟨e130038, r130039⟩ := i_add (lo := 1) (hi := 940) z130037 r129559 r130035 rfl
                                  refine r_put (K := 38) (ty := .int) S X130030 (Nat.le_of_ble_eq_true rfl) rfl lk12_21_10 (fun _ => ⟨_, rfl, Nat.le_of_ble_eq_true rfl, rfl⟩) (fun _ _ _ h => by cases h; exact ⟨rfl, rfl⟩) rfl rfl dX12_skip_292 (fun t130040 H lc M130041 X130042 => ?_)
                                  have I130043 := Inv_mu I130031 M130041 (show Rg (kd 131) 4 v130036 from (R_of (lo := 0) (hi := 940) r130039 rfl))
                                  have F130044 : Fr [(131, 4), (131, 11), (131, 12), (131, 13), (131, 14)] [331] τ t130040 := Fr_mu F130032 M130041 (by decide)
                                  refine r_goto (tgt := 181) S dX12_skip_295 (by decide) ?_
                                  exact ih129533 t130040 _ _ _ v129893 v130036 v130024 v130013 X130042 I130043 F130044 (R_of r129895 rfl) M130041.1 ⟨by omega, by omega⟩ ((M130041.2 131 3 (Or.inr (by decide))).trans ((M130029.2 131 3 (Or.inr (by decide))).trans ((M130017.2 131 3 (Or.inr (by decide))).trans ((M129956.1 131 (by decide) 3).trans z129521)))) ((M130041.2 131 5 (Or.inr (by decide))).trans ((M130029.2 131 5 (Or.inr (by decide))).trans ((M130017.2 131 5 (Or.inr (by decide))).trans ((M129956.1 131 (by decide) 5).trans z129522)))) ((M130041.2 131 12 (Or.inr (by decide))).trans ((M130029.2 131 12 (Or.inr (by decide))).trans ((M130017.2 131 12 (Or.inr (by decide))).trans ((M129956.1 131 (by decide) 12).trans z129523)))) ((M130041.2 131 13 (Or.inr (by decide))).trans M130029.1) ⟨by omega, by omega⟩ ((M130041.2 131 14 (Or.inr (by decide))).trans ((M130029.2 131 14 (Or.inr (by decide))).trans M130017.1)) ⟨by omega, by omega⟩ (LM_upq (i := f129518) (sp := f129524) (al := i129512) x129531 hs98123 (by omega) (by omega) (LM_hw (x := v129941) (y := v129933) x129531 z129932 (by omega) (by rw [z129953, z129937, z129951]) ((qof_of (k := 131) (fun j => ((M130041.2 331 j (Or.inl (by decide))).trans ((M130029.2 331 j (Or.inl (by decide))).trans ((M130017.2 331 j (Or.inl (by decide))).trans rfl)))) 17).trans (Ml_upd M129956)) (by omega) (by omega)) (LM_hn (c := v129989) (x := v129998) (d := v130010) x129531 (by omega) z129993 z130008 (by omega) z130014 (by omega) (by omega)) (by omega) (by omega) (by omega)) (by omega) (lv_sub hl [1, 2, 0] rfl) (by omega)
                        ·
                          have r130045 : R (0) (0) v129548 := ⟨by omega, by omega⟩
                          refine r_aload_n S dX12_skip_191 rfl (lv_at hl 0 rfl) ?_
                          refine r_ki (q_V (As := []) (rest := []) (K := 38) (ci := 10) S X129546 (c_X12_peek_x l G t129514 I129515 ) ck12_147 (Nat.le_of_ble_eq_true rfl) rfl (fun _ => ⟨_, rfl⟩) ⟨_, _, rfl⟩ ⟨Nat.le_of_ble_eq_true rfl, Nat.le_of_ble_eq_true rfl⟩ rfl hl.1 rfl (Nat.le_of_ble_eq_true rfl) dX12_skip_192 ⟨Nat.le_refl 0, Nat.le_refl 0⟩) X129546 (fun v130049 t130048 H lc q130046 X130047 => ?_)
                          unfold po_X12_peek_x at q130046
                          obtain ⟨q130050, q130051, q130052, q130053⟩ := q130046
                          rw [q130050] at X130047
                          rw [q130050] at q130052
                          rw [q130050] at q130053
                          have pk130054 : PKf bb nb f129518 v130049 := pk_b hB I129515 (F129516 131 3 (by simp [fz])) (fun j => F129516 132 j (by simp [fz])) z129520 (by omega) q130053
                          refine r_ki (q_S (As := [.int v130049]) (rest := []) S X130047 (c_X12_isDigit_x l G t129514 I129515 v130049 (R_of (lo := -2147483648) (hi := 2147483647) q130051 rfl)) ck12_164 ⟨Nat.le_of_ble_eq_true rfl, Nat.le_of_ble_eq_true rfl⟩ rfl hl.1 rfl (Nat.le_of_ble_eq_true rfl) dX12_skip_195 ⟨Nat.le_refl 0, Nat.le_refl 0⟩) X130047 (fun v130058 t130057 H lc q130055 X130056 => ?_)
                          unfold po_X12_isDigit_x at q130055
                          obtain ⟨q130059, q130060, q130061, q130062⟩ := q130055
                          rw [q130059] at X130056
                          refine r_if_eq (tgt := 298) S dX12_skip_198 (by decide) (fun c130063 => ?_) (fun c130063 => ?_)
                          ·
                            have r130064 : R (0) (0) v130058 := ⟨by omega, by omega⟩
                            have he130065 : f129518.toInt.toNat < nb → ¬ aln (bb f129518.toInt.toNat) := fun h => by have q0 := PK_at pk129544 (by omega); have q1 := PK_at pk130054 (by omega); omega
                            have e130066 : 0 < f129524.toInt := LM_pos x129531 hs98123 he130065 (by omega)
                            refine r_aload_n S dX12_skip_298 rfl (lv_at hl 0 rfl) ?_
                            refine r_iload_n S dX12_skip_299 rfl (lv_at hl 2 rfl) ?_
                            refine r_if_eq (tgt := 320) S dX12_skip_300 (by decide) (fun c130067 => ?_) (fun c130067 => ?_)
                            ·
                              have r130068 : R (0) (0) i129512 := ⟨by omega, by omega⟩
                              refine r_iconst S dX12_skip_320 (by decide) (fun v130069 z130070 => ?_)
                              have r130071 := R_eq z130070
                              refine r_goto (tgt := 333) S dX12_skip_321 (by decide) ?_
                              refine r_put (K := 38) (ty := .int) S X130056 (Nat.le_of_ble_eq_true rfl) rfl lk12_157_10 (fun _ => ⟨_, rfl, Nat.le_of_ble_eq_true rfl, rfl⟩) (fun _ _ _ h => by cases h; exact ⟨rfl, rfl⟩) rfl rfl dX12_skip_333 (fun t130072 H lc M130073 X130074 => ?_)
                              have I130075 := Inv_mu I129515 M130073 (show Rg (kd 131) 11 v130069 from (R_of (lo := 0) (hi := 4) r130071 rfl))
                              have F130076 : Fr [(131, 4), (131, 11), (131, 12), (131, 13), (131, 14)] [331] τ t130072 := Fr_mu F129516 M130073 (by decide)
                              exact r_vret S hr hlk X130074 ⟨I130075, F130076, (by rw [((M130073.2 131 4 (Or.inr (by decide))).trans z129520)]; exact R_of r129519 rfl), (by rw [M130073.1]; exact R_of r130071 rfl), (by have h1_0 := congrArg Int32.toInt ((M130073.2 131 4 (Or.inr (by decide))).trans z129520); have h2_0 := congrArg Int32.toInt z2; omega), (by have h1_0 := congrArg Int32.toInt ((M130073.2 131 4 (Or.inr (by decide))).trans z129520); have h2_0 := congrArg Int32.toInt z2; have h1_1 := congrArg Int32.toInt M130073.1; omega), (MT_odd (A := f223.toInt.toNat) (i := f129518.toInt.toNat) (sm := v98115.toInt) (al := i129512.toInt) (sp := f129524.toInt) x129531 (MB_eq hB (F130076 131 3 (by simp [fz])) (F130076 131 5 (by simp [fz])) (fun j => F130076 132 j (by simp [fz]))) ⟨by omega, by omega, x229, fun _ => by omega⟩ (by omega) (by omega) he130065 hs98123 (by omega) (by omega) (by have q := congrArg Int32.toInt ((M130073.2 131 12 (Or.inr (by decide))).trans z129523); omega) (by have q := congrArg Int32.toInt M130073.1; omega))⟩ dX12_skip_336
                            ·
                              have r130077 : R (1) (1) i129512 := ⟨by omega, by omega⟩
                              refine r_aload_n S dX12_skip_303 rfl (lv_at hl 0 rfl) ?_
                              refine r_geti (K := 38) S X130056 (Nat.le_of_ble_eq_true rfl) rfl lk12_154_10 (fun _ => ⟨_, rfl, rfl⟩) z129526 dX12_skip_304 ?_
                              refine r_iload_n S dX12_skip_307 rfl (lv_at hl 1 rfl) ?_
                              refine r_if_eq (tgt := 316) S dX12_skip_308 (by decide) (fun c130078 => ?_) (fun c130078 => ?_)
                              ·
                                have r130079 : R (0) (0) v98115 := ⟨by omega, by omega⟩
                                refine r_iconst S dX12_skip_316 (by decide) (fun v130080 z130081 => ?_)
                                have r130082 := R_eq z130081
                                refine r_icmp_le (tgt := 324) S dX12_skip_317 (by decide) (fun c130083 => ?_) (fun c130083 => ?_)
                                ·
                                  have r130084 : R (0) (2) f129524 := ⟨by omega, by omega⟩
                                  refine r_iload_n S dX12_skip_324 rfl (lv_at hl 1 rfl) ?_
                                  refine r_if_eq (tgt := 332) S dX12_skip_325 (by decide) (fun c130085 => ?_) (fun c130085 => ?_)
                                  ·
                                    refine r_iconst S dX12_skip_332 (by decide) (fun v130086 z130087 => ?_)
                                    have r130088 := R_eq z130087
                                    refine r_put (K := 38) (ty := .int) S X130056 (Nat.le_of_ble_eq_true rfl) rfl lk12_157_10 (fun _ => ⟨_, rfl, Nat.le_of_ble_eq_true rfl, rfl⟩) (fun _ _ _ h => by cases h; exact ⟨rfl, rfl⟩) rfl rfl dX12_skip_333 (fun t130089 H lc M130090 X130091 => ?_)
                                    have I130092 := Inv_mu I129515 M130090 (show Rg (kd 131) 11 v130086 from (R_of (lo := 0) (hi := 4) r130088 rfl))
                                    have F130093 : Fr [(131, 4), (131, 11), (131, 12), (131, 13), (131, 14)] [331] τ t130089 := Fr_mu F129516 M130090 (by decide)
                                    exact r_vret S hr hlk X130091 ⟨I130092, F130093, (by rw [((M130090.2 131 4 (Or.inr (by decide))).trans z129520)]; exact R_of r129519 rfl), (by rw [M130090.1]; exact R_of r130088 rfl), (by have h1_0 := congrArg Int32.toInt ((M130090.2 131 4 (Or.inr (by decide))).trans z129520); have h2_0 := congrArg Int32.toInt z2; omega), (by have h1_0 := congrArg Int32.toInt ((M130090.2 131 4 (Or.inr (by decide))).trans z129520); have h2_0 := congrArg Int32.toInt z2; have h1_1 := congrArg Int32.toInt M130090.1; omega), (MT_nbr (A := f223.toInt.toNat) (i := f129518.toInt.toNat) (sm := v98115.toInt) (al := i129512.toInt) (sp := f129524.toInt) (wd := (qof t129514 131 17).toInt) (by rw [((M130090.2 131 14 (Or.inr (by decide))).trans z129529)]; exact x129531) (MB_eq hB (F130093 131 3 (by simp [fz])) (F130093 131 5 (by simp [fz])) (fun j => F130093 132 j (by simp [fz]))) ⟨by omega, by omega, x229, fun _ => by omega⟩ (by omega) (by omega) he130065 (by omega) (by omega) (by omega) (by have q := congrArg Int32.toInt ((M130090.2 131 12 (Or.inr (by decide))).trans z129523); omega) (by have q := congrArg Int32.toInt ((M130090.2 131 4 (Or.inr (by decide))).trans z129520); omega) (by have q := congrArg Int32.toInt M130090.1; omega))⟩ dX12_skip_336
                                  ·
                                    exfalso; omega
                                ·
                                  have r130094 : R (3) (940) f129524 := ⟨by omega, by omega⟩
                                  refine r_iconst S dX12_skip_320 (by decide) (fun v130095 z130096 => ?_)
                                  have r130097 := R_eq z130096
                                  refine r_goto (tgt := 333) S dX12_skip_321 (by decide) ?_
                                  refine r_put (K := 38) (ty := .int) S X130056 (Nat.le_of_ble_eq_true rfl) rfl lk12_157_10 (fun _ => ⟨_, rfl, Nat.le_of_ble_eq_true rfl, rfl⟩) (fun _ _ _ h => by cases h; exact ⟨rfl, rfl⟩) rfl rfl dX12_skip_333 (fun t130098 H lc M130099 X130100 => ?_)
                                  have I130101 := Inv_mu I129515 M130099 (show Rg (kd 131) 11 v130095 from (R_of (lo := 0) (hi := 4) r130097 rfl))
                                  have F130102 : Fr [(131, 4), (131, 11), (131, 12), (131, 13), (131, 14)] [331] τ t130098 := Fr_mu F129516 M130099 (by decide)
                                  exact r_vret S hr hlk X130100 ⟨I130101, F130102, (by rw [((M130099.2 131 4 (Or.inr (by decide))).trans z129520)]; exact R_of r129519 rfl), (by rw [M130099.1]; exact R_of r130097 rfl), (by have h1_0 := congrArg Int32.toInt ((M130099.2 131 4 (Or.inr (by decide))).trans z129520); have h2_0 := congrArg Int32.toInt z2; omega), (by have h1_0 := congrArg Int32.toInt ((M130099.2 131 4 (Or.inr (by decide))).trans z129520); have h2_0 := congrArg Int32.toInt z2; have h1_1 := congrArg Int32.toInt M130099.1; omega), (MT_odd (A := f223.toInt.toNat) (i := f129518.toInt.toNat) (sm := v98115.toInt) (al := i129512.toInt) (sp := f129524.toInt) x129531 (MB_eq hB (F130102 131 3 (by simp [fz])) (F130102 131 5 (by simp [fz])) (fun j => F130102 132 j (by simp [fz]))) ⟨by omega, by omega, x229, fun _ => by omega⟩ (by omega) (by omega) he130065 hs98123 (by omega) (by omega) (by have q := congrArg Int32.toInt ((M130099.2 131 12 (Or.inr (by decide))).trans z129523); omega) (by have q := congrArg Int32.toInt M130099.1; omega))⟩ dX12_skip_336
                              ·
                                exfalso; omega
                          ·
                            have r130105 : R (1) (1) v130058 := ⟨by omega, by omega⟩
                            have p130106 := q130061 (by omega)
                            have r130107 : R (48) (57) v130049 := ⟨by omega, by omega⟩
                            have p130108 := q130052 (by omega)
                            have r130109 : R (0) (939) f129518 := z129520 ▸ p130108
                            have r130110 : R (0) (939) f129518 := ⟨by omega, by omega⟩
                            obtain ⟨e130111, e130112⟩ := PK_in pk130054 (by omega)
                            obtain ⟨e130113, e130114, e130115⟩ := PK_at pk130054 e130111
                            refine r_iload_n S dX12_skip_201 rfl (lv_at hl 2 rfl) ?_
                            refine r_if_eq (tgt := 220) S dX12_skip_202 (by decide) (fun c130116 => ?_) (fun c130116 => ?_)
                            ·
                              have r130117 : R (0) (0) i129512 := ⟨by omega, by omega⟩
                              refine r_iconst S dX12_skip_220 (by decide) (fun v130118 z130119 => ?_)
                              have r130120 := R_eq z130119
                              refine r_istore_n (lv' := [(3, .int v130118), (0, .ref (G.2.2.2.1 131)), (2, .int v98115)]) S dX12_skip_221 rfl hl (by decide) rfl (fun ls hl => ?_)
                              refine r_aload_n S dX12_skip_222 rfl (lv_at hl 1 rfl) ?_
                              refine r_geti (K := 38) S X130056 (Nat.le_of_ble_eq_true rfl) rfl lk12_154_10 (fun _ => ⟨_, rfl, rfl⟩) z129526 dX12_skip_223 ?_
                              refine r_bipush S dX12_skip_226 (by decide) (fun v130121 z130122 => ?_)
                              have r130123 := R_eq z130122
                              refine r_icmp_ge (tgt := 248) S dX12_skip_228 (by decide) (fun c130124 => ?_) (fun c130124 => ?_)
                              ·
                                have r130125 : R (7) (940) f129524 := ⟨by omega, by omega⟩
                                refine r_aload_n S dX12_skip_248 rfl (lv_at hl 1 rfl) ?_
                                refine r_geti (K := 38) S X130056 (Nat.le_of_ble_eq_true rfl) rfl lk12_154_10 (fun _ => ⟨_, rfl, rfl⟩) z129526 dX12_skip_249 ?_
                                refine r_iconst S dX12_skip_252 (by decide) (fun v130126 z130127 => ?_)
                                have r130128 := R_eq z130127
                                refine r_icmp_ge (tgt := 275) S dX12_skip_253 (by decide) (fun c130129 => ?_) (fun c130129 => ?_)
                                ·
                                  refine r_aload_n S dX12_skip_275 rfl (lv_at hl 1 rfl) ?_
                                  refine r_dup S dX12_skip_276 rfl ?_
                                  refine r_geti (K := 38) S X130056 (Nat.le_of_ble_eq_true rfl) rfl lk12_154_10 (fun _ => ⟨_, rfl, rfl⟩) z129526 dX12_skip_277 ?_
                                  refine r_iconst S dX12_skip_280 (by decide) (fun v130130 z130131 => ?_)
                                  have r130132 := R_eq z130131
                                  refine r_iadd S dX12_skip_281 (fun v130133 z130134 => ?_)
                                  obtain ⟨e130135, r130136⟩ := i_add (lo := 8) (hi := 941) z130134 r130125 r130132 rfl
                                  refine r_put (K := 38) (ty := .int) S X130056 (Nat.le_of_ble_eq_true rfl) rfl lk12_154_10 (fun _ => ⟨_, rfl, Nat.le_of_ble_eq_true rfl, rfl⟩) (fun _ _ _ h => by cases h; exact ⟨rfl, rfl⟩) rfl rfl dX12_skip_282 (fun t130137 H lc M130138 X130139 => ?_)
                                  have I130140 := Inv_mu I129515 M130138 (show Rg (kd 131) 13 v130133 from (show R (0) (940) v130133 from ⟨by omega, by omega⟩))
                                  have F130141 : Fr [(131, 4), (131, 11), (131, 12), (131, 13), (131, 14)] [331] τ t130137 := Fr_mu F129516 M130138 (by decide)
                                  have r130142 : R (8) (940) v130133 := ⟨by omega, by omega⟩
                                  refine r_aload_n S dX12_skip_285 rfl (lv_at hl 1 rfl) ?_
                                  refine r_dup S dX12_skip_286 rfl ?_
                                  refine r_geti (K := 38) S X130139 (Nat.le_of_ble_eq_true rfl) rfl lk12_21_10 (fun _ => ⟨_, rfl, rfl⟩) ((M130138.2 131 4 (Or.inr (by decide))).trans z129520) dX12_skip_287 ?_
                                  refine r_iconst S dX12_skip_290 (by decide) (fun v130143 z130144 => ?_)
                                  have r130145 := R_eq z130144
                                  refine r_iadd S dX12_skip_291 (fun v130146 z130147 => ?_)
                                  obtain ⟨e130148, r130149⟩ := i_add (lo := 1) (hi := 940) z130147 r130110 r130145 rfl
                                  refine r_put (K := 38) (ty := .int) S X130139 (Nat.le_of_ble_eq_true rfl) rfl lk12_21_10 (fun _ => ⟨_, rfl, Nat.le_of_ble_eq_true rfl, rfl⟩) (fun _ _ _ h => by cases h; exact ⟨rfl, rfl⟩) rfl rfl dX12_skip_292 (fun t130150 H lc M130151 X130152 => ?_)
                                  have I130153 := Inv_mu I130140 M130151 (show Rg (kd 131) 4 v130146 from (R_of (lo := 0) (hi := 940) r130149 rfl))
                                  have F130154 : Fr [(131, 4), (131, 11), (131, 12), (131, 13), (131, 14)] [331] τ t130150 := Fr_mu F130141 M130151 (by decide)
                                  refine r_goto (tgt := 181) S dX12_skip_295 (by decide) ?_
                                  exact ih129533 t130150 _ _ _ v130118 v130146 v130133 f129527 X130152 I130153 F130154 (R_of r130120 rfl) M130151.1 ⟨by omega, by omega⟩ ((M130151.2 131 3 (Or.inr (by decide))).trans ((M130138.2 131 3 (Or.inr (by decide))).trans z129521)) ((M130151.2 131 5 (Or.inr (by decide))).trans ((M130138.2 131 5 (Or.inr (by decide))).trans z129522)) ((M130151.2 131 12 (Or.inr (by decide))).trans ((M130138.2 131 12 (Or.inr (by decide))).trans z129523)) ((M130151.2 131 13 (Or.inr (by decide))).trans M130138.1) ⟨by omega, by omega⟩ ((M130151.2 131 14 (Or.inr (by decide))).trans ((M130138.2 131 14 (Or.inr (by decide))).trans z129529)) ⟨by omega, by omega⟩ (by rw [(qof_of (k := 131) (fun j => ((M130151.2 331 j (Or.inl (by decide))).trans ((M130138.2 331 j (Or.inl (by decide))).trans rfl))) 17)]; exact LM_upq (i := f129518) (sp := f129524) (al := i129512) x129531 hs98123 (by omega) (by omega) (fun _ _ h => by exfalso; omega) (fun _ _ h => by exfalso; omega) (by omega) (by omega) (by omega)) (by omega) (lv_sub hl [1, 2, 0] rfl) (by omega)
                                ·
                                  exfalso; omega
                              ·
                                have r130155 : R (0) (6) f129524 := ⟨by omega, by omega⟩
                                refine r_aload_n S dX12_skip_231 rfl (lv_at hl 1 rfl) ?_
                                refine r_aload_n S dX12_skip_232 rfl (lv_at hl 1 rfl) ?_
                                refine r_getJ (K := 38) S X130056 (Nat.le_of_ble_eq_true rfl) rfl lk12_170_10 (fun _ => ⟨_, rfl, rfl⟩) dX12_skip_233 (fun j130156 z130157 => ?_)
                                refine r_bipush S dX12_skip_236 (by decide) (fun v130158 z130159 => ?_)
                                have r130160 := R_eq z130159
                                refine lv_lshl S.1.1 S.1.2.1 dX12_skip_238 rfl ?_
                                refine lv_topl (fun j130161 z130162 => ?_)
                                refine r_aload_n S dX12_skip_239 rfl (lv_at hl 1 rfl) ?_
                                refine r_ki (q_V (As := []) (rest := [.long j130161, .ref (G.2.2.2.1 131)]) (K := 38) (ci := 10) S X130056 (c_X12_peek_x l G t129514 I129515 ) ck12_147 (Nat.le_of_ble_eq_true rfl) rfl (fun _ => ⟨_, rfl⟩) ⟨_, _, rfl⟩ ⟨Nat.le_of_ble_eq_true rfl, Nat.le_of_ble_eq_true rfl⟩ rfl hl.1 rfl (Nat.le_of_ble_eq_true rfl) dX12_skip_240 ⟨Nat.le_refl 0, Nat.le_refl 0⟩) X130056 (fun v130166 t130165 H lc q130163 X130164 => ?_)
                                unfold po_X12_peek_x at q130163
                                obtain ⟨q130167, q130168, q130169, q130170⟩ := q130163
                                rw [q130167] at X130164
                                rw [q130167] at q130169
                                rw [q130167] at q130170
                                have pk130171 : PKf bb nb f129518 v130166 := pk_b hB I129515 (F129516 131 3 (by simp [fz])) (fun j => F129516 132 j (by simp [fz])) z129520 (by omega) q130170
                                obtain ⟨e130172, e130173, e130174⟩ := PK_at pk130171 (by omega)
                                refine lv_i2l S.1.1 S.1.2.1 dX12_skip_243 rfl ?_
                                refine lv_topl (fun j130175 z130176 => ?_)
                                refine lv_lor S.1.1 S.1.2.1 dX12_skip_244 ?_
                                refine lv_topl (fun j130177 z130178 => ?_)
                                refine r_putJ (K := 38) S X130164 (Nat.le_of_ble_eq_true rfl) rfl lk12_170_10 (fun _ => ⟨_, rfl, Nat.le_of_ble_eq_true rfl, rfl⟩) (fun _ _ _ h => by cases h; exact ⟨rfl, rfl⟩) dX12_skip_245 (fun t130180 H lc M130181 X130179 => ?_)
                                have I130182 := Inv_ml I129515 M130181
                                have F130183 : Fr [(131, 4), (131, 11), (131, 12), (131, 13), (131, 14)] [331] τ t130180 := Fr_ml F129516 M130181 (by decide)
                                refine r_aload_n S dX12_skip_248 rfl (lv_at hl 1 rfl) ?_
                                refine r_geti (K := 38) S X130179 (Nat.le_of_ble_eq_true rfl) rfl lk12_154_10 (fun _ => ⟨_, rfl, rfl⟩) ((M130181.1 131 (by decide) 13).trans z129526) dX12_skip_249 ?_
                                refine r_iconst S dX12_skip_252 (by decide) (fun v130184 z130185 => ?_)
                                have r130186 := R_eq z130185
                                refine r_icmp_ge (tgt := 275) S dX12_skip_253 (by decide) (fun c130187 => ?_) (fun c130187 => ?_)
                                ·
                                  have r130188 : R (2) (6) f129524 := ⟨by omega, by omega⟩
                                  refine r_aload_n S dX12_skip_275 rfl (lv_at hl 1 rfl) ?_
                                  refine r_dup S dX12_skip_276 rfl ?_
                                  refine r_geti (K := 38) S X130179 (Nat.le_of_ble_eq_true rfl) rfl lk12_154_10 (fun _ => ⟨_, rfl, rfl⟩) ((M130181.1 131 (by decide) 13).trans z129526) dX12_skip_277 ?_
                                  refine r_iconst S dX12_skip_280 (by decide) (fun v130189 z130190 => ?_)
                                  have r130191 := R_eq z130190
                                  refine r_iadd S dX12_skip_281 (fun v130192 z130193 => ?_)
                                  obtain ⟨e130194, r130195⟩ := i_add (lo := 3) (hi := 7) z130193 r130188 r130191 rfl
                                  refine r_put (K := 38) (ty := .int) S X130179 (Nat.le_of_ble_eq_true rfl) rfl lk12_154_10 (fun _ => ⟨_, rfl, Nat.le_of_ble_eq_true rfl, rfl⟩) (fun _ _ _ h => by cases h; exact ⟨rfl, rfl⟩) rfl rfl dX12_skip_282 (fun t130196 H lc M130197 X130198 => ?_)
                                  have I130199 := Inv_mu I130182 M130197 (show Rg (kd 131) 13 v130192 from (R_of (lo := 0) (hi := 940) r130195 rfl))
                                  have F130200 : Fr [(131, 4), (131, 11), (131, 12), (131, 13), (131, 14)] [331] τ t130196 := Fr_mu F130183 M130197 (by decide)
                                  refine r_aload_n S dX12_skip_285 rfl (lv_at hl 1 rfl) ?_
                                  refine r_dup S dX12_skip_286 rfl ?_
                                  refine r_geti (K := 38) S X130198 (Nat.le_of_ble_eq_true rfl) rfl lk12_21_10 (fun _ => ⟨_, rfl, rfl⟩) ((M130197.2 131 4 (Or.inr (by decide))).trans ((M130181.1 131 (by decide) 4).trans z129520)) dX12_skip_287 ?_
                                  refine r_iconst S dX12_skip_290 (by decide) (fun v130201 z130202 => ?_)
                                  have r130203 := R_eq z130202
                                  refine r_iadd S dX12_skip_291 (fun v130204 z130205 => ?_)
                                  obtain ⟨e130206, r130207⟩ := i_add (lo := 1) (hi := 940) z130205 r130110 r130203 rfl
                                  refine r_put (K := 38) (ty := .int) S X130198 (Nat.le_of_ble_eq_true rfl) rfl lk12_21_10 (fun _ => ⟨_, rfl, Nat.le_of_ble_eq_true rfl, rfl⟩) (fun _ _ _ h => by cases h; exact ⟨rfl, rfl⟩) rfl rfl dX12_skip_292 (fun t130208 H lc M130209 X130210 => ?_)
                                  have I130211 := Inv_mu I130199 M130209 (show Rg (kd 131) 4 v130204 from (R_of (lo := 0) (hi := 940) r130207 rfl))
                                  have F130212 : Fr [(131, 4), (131, 11), (131, 12), (131, 13), (131, 14)] [331] τ t130208 := Fr_mu F130200 M130209 (by decide)
                                  refine r_goto (tgt := 181) S dX12_skip_295 (by decide) ?_
                                  exact ih129533 t130208 _ _ _ v130118 v130204 v130192 f129527 X130210 I130211 F130212 (R_of r130120 rfl) M130209.1 ⟨by omega, by omega⟩ ((M130209.2 131 3 (Or.inr (by decide))).trans ((M130197.2 131 3 (Or.inr (by decide))).trans ((M130181.1 131 (by decide) 3).trans z129521))) ((M130209.2 131 5 (Or.inr (by decide))).trans ((M130197.2 131 5 (Or.inr (by decide))).trans ((M130181.1 131 (by decide) 5).trans z129522))) ((M130209.2 131 12 (Or.inr (by decide))).trans ((M130197.2 131 12 (Or.inr (by decide))).trans ((M130181.1 131 (by decide) 12).trans z129523))) ((M130209.2 131 13 (Or.inr (by decide))).trans M130197.1) ⟨by omega, by omega⟩ ((M130209.2 131 14 (Or.inr (by decide))).trans ((M130197.2 131 14 (Or.inr (by decide))).trans ((M130181.1 131 (by decide) 14).trans z129529))) ⟨by omega, by omega⟩ (LM_upq (i := f129518) (sp := f129524) (al := i129512) x129531 hs98123 (by omega) (by omega) (LM_hw (x := v130166) (y := v130158) x129531 z130157 (by omega) (by rw [z130178, z130162, z130176]) ((qof_of (k := 131) (fun j => ((M130209.2 331 j (Or.inl (by decide))).trans ((M130197.2 331 j (Or.inl (by decide))).trans rfl))) 17).trans (Ml_upd M130181)) (by omega) (by omega)) (fun _ _ h => by exfalso; omega) (by omega) (by omega) (by omega)) (by omega) (lv_sub hl [1, 2, 0] rfl) (by omega)
                                ·
                                  have r130213 : R (0) (1) f129524 := ⟨by omega, by omega⟩
                                  refine r_aload_n S dX12_skip_256 rfl (lv_at hl 1 rfl) ?_
                                  refine r_bipush S dX12_skip_257 (by decide) (fun v130214 z130215 => ?_)
                                  have r130216 := R_eq z130215
                                  refine r_aload_n S dX12_skip_259 rfl (lv_at hl 1 rfl) ?_
                                  refine r_geti (K := 38) S X130179 (Nat.le_of_ble_eq_true rfl) rfl lk12_167_10 (fun _ => ⟨_, rfl, rfl⟩) ((M130181.1 131 (by decide) 14).trans z129529) dX12_skip_260 ?_
                                  refine r_imul S dX12_skip_263 (fun v130217 z130218 => ?_)
                                  have r130219 := R_any v130217
                                  refine r_aload_n S dX12_skip_264 rfl (lv_at hl 1 rfl) ?_
                                  refine r_ki (q_V (As := []) (rest := [.int v130217, .ref (G.2.2.2.1 131)]) (K := 38) (ci := 10) S X130179 (c_X12_peek_x l G t130180 I130182 ) ck12_147 (Nat.le_of_ble_eq_true rfl) rfl (fun _ => ⟨_, rfl⟩) ⟨_, _, rfl⟩ ⟨Nat.le_of_ble_eq_true rfl, Nat.le_of_ble_eq_true rfl⟩ rfl hl.1 rfl (Nat.le_of_ble_eq_true rfl) dX12_skip_265 ⟨Nat.le_refl 0, Nat.le_refl 0⟩) X130179 (fun v130223 t130222 H lc q130220 X130221 => ?_)
                                  unfold po_X12_peek_x at q130220
                                  obtain ⟨q130224, q130225, q130226, q130227⟩ := q130220
                                  rw [q130224] at X130221
                                  rw [q130224] at q130226
                                  rw [q130224] at q130227
                                  have pk130228 : PKf bb nb f129518 v130223 := pk_b hB I130182 (F130183 131 3 (by simp [fz])) (fun j => F130183 132 j (by simp [fz])) ((M130181.1 131 (by decide) 4).trans z129520) (by omega) q130227
                                  obtain ⟨e130229, e130230, e130231⟩ := PK_at pk130228 (by omega)
                                  refine r_iadd S dX12_skip_268 (fun v130232 z130233 => ?_)
                                  have r130234 := R_any v130232
                                  refine r_bipush S dX12_skip_269 (by decide) (fun v130235 z130236 => ?_)
                                  have r130237 := R_eq z130236
                                  refine r_isub S dX12_skip_271 (fun v130238 z130239 => ?_)
                                  have r130240 := R_any v130238
                                  refine r_put (K := 38) (ty := .int) S X130221 (Nat.le_of_ble_eq_true rfl) rfl lk12_167_10 (fun _ => ⟨_, rfl, Nat.le_of_ble_eq_true rfl, rfl⟩) (fun _ _ _ h => by cases h; exact ⟨rfl, rfl⟩) rfl rfl dX12_skip_272 (fun t130241 H lc M130242 X130243 => ?_)
                                  have I130244 := Inv_mu I130182 M130242 (R_any v130238)
                                  have F130245 : Fr [(131, 4), (131, 11), (131, 12), (131, 13), (131, 14)] [331] τ t130241 := Fr_mu F130183 M130242 (by decide)
                                  refine r_aload_n S dX12_skip_275 rfl (lv_at hl 1 rfl) ?_
                                  refine r_dup S dX12_skip_276 rfl ?_
                                  refine r_geti (K := 38) S X130243 (Nat.le_of_ble_eq_true rfl) rfl lk12_154_10 (fun _ => ⟨_, rfl, rfl⟩) ((M130242.2 131 13 (Or.inr (by decide))).trans ((M130181.1 131 (by decide) 13).trans z129526)) dX12_skip_277 ?_
                                  refine r_iconst S dX12_skip_280 (by decide) (fun v130246 z130247 => ?_)
                                  have r130248 := R_eq z130247
                                  refine r_iadd S dX12_skip_281 (fun v130249 z130250 => ?_)
                                  obtain ⟨e130251, r130252⟩ := i_add (lo := 1) (hi := 2) z130250 r130213 r130248 rfl
                                  refine r_put (K := 38) (ty := .int) S X130243 (Nat.le_of_ble_eq_true rfl) rfl lk12_154_10 (fun _ => ⟨_, rfl, Nat.le_of_ble_eq_true rfl, rfl⟩) (fun _ _ _ h => by cases h; exact ⟨rfl, rfl⟩) rfl rfl dX12_skip_282 (fun t130253 H lc M130254 X130255 => ?_)
                                  have I130256 := Inv_mu I130244 M130254 (show Rg (kd 131) 13 v130249 from (R_of (lo := 0) (hi := 940) r130252 rfl))
                                  have F130257 : Fr [(131, 4), (131, 11), (131, 12), (131, 13), (131, 14)] [331] τ t130253 := Fr_mu F130245 M130254 (by decide)
                                  refine r_aload_n S dX12_skip_285 rfl (lv_at hl 1 rfl) ?_
                                  refine r_dup S dX12_skip_286 rfl ?_
                                  refine r_geti (K := 38) S X130255 (Nat.le_of_ble_eq_true rfl) rfl lk12_21_10 (fun _ => ⟨_, rfl, rfl⟩) ((M130254.2 131 4 (Or.inr (by decide))).trans ((M130242.2 131 4 (Or.inr (by decide))).trans ((M130181.1 131 (by decide) 4).trans z129520))) dX12_skip_287 ?_
                                  refine r_iconst S dX12_skip_290 (by decide) (fun v130258 z130259 => ?_)
                                  have r130260 := R_eq z130259
                                  refine r_iadd S dX12_skip_291 (fun v130261 z130262 => ?_)
                                  obtain ⟨e130263, r130264⟩ := i_add (lo := 1) (hi := 940) z130262 r130110 r130260 rfl
                                  refine r_put (K := 38) (ty := .int) S X130255 (Nat.le_of_ble_eq_true rfl) rfl lk12_21_10 (fun _ => ⟨_, rfl, Nat.le_of_ble_eq_true rfl, rfl⟩) (fun _ _ _ h => by cases h; exact ⟨rfl, rfl⟩) rfl rfl dX12_skip_292 (fun t130265 H lc M130266 X130267 => ?_)
                                  have I130268 := Inv_mu I130256 M130266 (show Rg (kd 131) 4 v130261 from (R_of (lo := 0) (hi := 940) r130264 rfl))
                                  have F130269 : Fr [(131, 4), (131, 11), (131, 12), (131, 13), (131, 14)] [331] τ t130265 := Fr_mu F130257 M130266 (by decide)
                                  refine r_goto (tgt := 181) S dX12_skip_295 (by decide) ?_
                                  exact ih129533 t130265 _ _ _ v130118 v130261 v130249 v130238 X130267 I130268 F130269 (R_of r130120 rfl) M130266.1 ⟨by omega, by omega⟩ ((M130266.2 131 3 (Or.inr (by decide))).trans ((M130254.2 131 3 (Or.inr (by decide))).trans ((M130242.2 131 3 (Or.inr (by decide))).trans ((M130181.1 131 (by decide) 3).trans z129521)))) ((M130266.2 131 5 (Or.inr (by decide))).trans ((M130254.2 131 5 (Or.inr (by decide))).trans ((M130242.2 131 5 (Or.inr (by decide))).trans ((M130181.1 131 (by decide) 5).trans z129522)))) ((M130266.2 131 12 (Or.inr (by decide))).trans ((M130254.2 131 12 (Or.inr (by decide))).trans ((M130242.2 131 12 (Or.inr (by decide))).trans ((M130181.1 131 (by decide) 12).trans z129523)))) ((M130266.2 131 13 (Or.inr (by decide))).trans M130254.1) ⟨by omega, by omega⟩ ((M130266.2 131 14 (Or.inr (by decide))).trans ((M130254.2 131 14 (Or.inr (by decide))).trans M130242.1)) ⟨by omega, by omega⟩ (LM_upq (i := f129518) (sp := f129524) (al := i129512) x129531 hs98123 (by omega) (by omega) (LM_hw (x := v130166) (y := v130158) x129531 z130157 (by omega) (by rw [z130178, z130162, z130176]) ((qof_of (k := 131) (fun j => ((M130266.2 331 j (Or.inl (by decide))).trans ((M130254.2 331 j (Or.inl (by decide))).trans ((M130242.2 331 j (Or.inl (by decide))).trans rfl)))) 17).trans (Ml_upd M130181)) (by omega) (by omega)) (LM_hn (c := v130214) (x := v130223) (d := v130235) x129531 (by omega) z130218 z130233 (by omega) z130239 (by omega) (by omega)) (by omega) (by omega) (by omega)) (by omega) (lv_sub hl [1, 2, 0] rfl) (by omega)
                            ·
                              have r130270 : R (1) (1) i129512 := ⟨by omega, by omega⟩
                              refine r_aload_n S dX12_skip_205 rfl (lv_at hl 0 rfl) ?_
                              refine r_ki (q_V (As := []) (rest := []) (K := 38) (ci := 10) S X130056 (c_X12_peek_x l G t129514 I129515 ) ck12_147 (Nat.le_of_ble_eq_true rfl) rfl (fun _ => ⟨_, rfl⟩) ⟨_, _, rfl⟩ ⟨Nat.le_of_ble_eq_true rfl, Nat.le_of_ble_eq_true rfl⟩ rfl hl.1 rfl (Nat.le_of_ble_eq_true rfl) dX12_skip_206 ⟨Nat.le_refl 0, Nat.le_refl 0⟩) X130056 (fun v130274 t130273 H lc q130271 X130272 => ?_)
                              unfold po_X12_peek_x at q130271
                              obtain ⟨q130275, q130276, q130277, q130278⟩ := q130271
                              rw [q130275] at X130272
                              rw [q130275] at q130277
                              rw [q130275] at q130278
                              have pk130279 : PKf bb nb f129518 v130274 := pk_b hB I129515 (F129516 131 3 (by simp [fz])) (fun j => F129516 132 j (by simp [fz])) z129520 (by omega) q130278
                              obtain ⟨e130280, e130281, e130282⟩ := PK_at pk130279 (by omega)
                              refine r_ki (q_S (As := [.int v130274]) (rest := []) S X130272 (c_X12_isSmall_x l G t129514 I129515 v130274 (R_of (lo := -2147483648) (hi := 2147483647) q130276 rfl)) ck12_160 ⟨Nat.le_of_ble_eq_true rfl, Nat.le_of_ble_eq_true rfl⟩ rfl hl.1 rfl (Nat.le_of_ble_eq_true rfl) dX12_skip_209 ⟨Nat.le_refl 0, Nat.le_refl 0⟩) X130272 (fun v130286 t130285 H lc q130283 X130284 => ?_)
                              unfold po_X12_isSmall_x at q130283
                              obtain ⟨q130287, q130288, q130289, q130290⟩ := q130283
                              rw [q130287] at X130284
                              refine r_iload_n S dX12_skip_212 rfl (lv_at hl 1 rfl) ?_
                              refine r_icmp_ne (tgt := 220) S dX12_skip_213 (by decide) (fun c130291 => ?_) (fun c130291 => ?_)
                              ·
                                refine r_iconst S dX12_skip_220 (by decide) (fun v130292 z130293 => ?_)
                                have r130294 := R_eq z130293
                                refine r_istore_n (lv' := [(3, .int v130292), (0, .ref (G.2.2.2.1 131)), (2, .int v98115)]) S dX12_skip_221 rfl hl (by decide) rfl (fun ls hl => ?_)
                                refine r_aload_n S dX12_skip_222 rfl (lv_at hl 1 rfl) ?_
                                refine r_geti (K := 38) S X130284 (Nat.le_of_ble_eq_true rfl) rfl lk12_154_10 (fun _ => ⟨_, rfl, rfl⟩) z129526 dX12_skip_223 ?_
                                refine r_bipush S dX12_skip_226 (by decide) (fun v130295 z130296 => ?_)
                                have r130297 := R_eq z130296
                                refine r_icmp_ge (tgt := 248) S dX12_skip_228 (by decide) (fun c130298 => ?_) (fun c130298 => ?_)
                                ·
                                  have r130299 : R (7) (940) f129524 := ⟨by omega, by omega⟩
                                  refine r_aload_n S dX12_skip_248 rfl (lv_at hl 1 rfl) ?_
                                  refine r_geti (K := 38) S X130284 (Nat.le_of_ble_eq_true rfl) rfl lk12_154_10 (fun _ => ⟨_, rfl, rfl⟩) z129526 dX12_skip_249 ?_
                                  refine r_iconst S dX12_skip_252 (by decide) (fun v130300 z130301 => ?_)
                                  have r130302 := R_eq z130301
                                  refine r_icmp_ge (tgt := 275) S dX12_skip_253 (by decide) (fun c130303 => ?_) (fun c130303 => ?_)
                                  ·
                                    refine r_aload_n S dX12_skip_275 rfl (lv_at hl 1 rfl) ?_
                                    refine r_dup S dX12_skip_276 rfl ?_
                                    refine r_geti (K := 38) S X130284 (Nat.le_of_ble_eq_true rfl) rfl lk12_154_10 (fun _ => ⟨_, rfl, rfl⟩) z129526 dX12_skip_277 ?_
                                    refine r_iconst S dX12_skip_280 (by decide) (fun v130304 z130305 => ?_)
                                    have r130306 := R_eq z130305
                                    refine r_iadd S dX12_skip_281 (fun v130307 z130308 => ?_)
                                    obtain ⟨e130309, r130310⟩ := i_add (lo := 8) (hi := 941) z130308 r130299 r130306 rfl
                                    refine r_put (K := 38) (ty := .int) S X130284 (Nat.le_of_ble_eq_true rfl) rfl lk12_154_10 (fun _ => ⟨_, rfl, Nat.le_of_ble_eq_true rfl, rfl⟩) (fun _ _ _ h => by cases h; exact ⟨rfl, rfl⟩) rfl rfl dX12_skip_282 (fun t130311 H lc M130312 X130313 => ?_)
                                    have I130314 := Inv_mu I129515 M130312 (show Rg (kd 131) 13 v130307 from (show R (0) (940) v130307 from ⟨by omega, by omega⟩))
                                    have F130315 : Fr [(131, 4), (131, 11), (131, 12), (131, 13), (131, 14)] [331] τ t130311 := Fr_mu F129516 M130312 (by decide)
                                    have r130316 : R (8) (940) v130307 := ⟨by omega, by omega⟩
                                    refine r_aload_n S dX12_skip_285 rfl (lv_at hl 1 rfl) ?_
                                    refine r_dup S dX12_skip_286 rfl ?_
                                    refine r_geti (K := 38) S X130313 (Nat.le_of_ble_eq_true rfl) rfl lk12_21_10 (fun _ => ⟨_, rfl, rfl⟩) ((M130312.2 131 4 (Or.inr (by decide))).trans z129520) dX12_skip_287 ?_
                                    refine r_iconst S dX12_skip_290 (by decide) (fun v130317 z130318 => ?_)
                                    have r130319 := R_eq z130318
                                    refine r_iadd S dX12_skip_291 (fun v130320 z130321 => ?_)
                                    obtain ⟨e130322, r130323⟩ := i_add (lo := 1) (hi := 940) z130321 r130110 r130319 rfl
                                    refine r_put (K := 38) (ty := .int) S X130313 (Nat.le_of_ble_eq_true rfl) rfl lk12_21_10 (fun _ => ⟨_, rfl, Nat.le_of_ble_eq_true rfl, rfl⟩) (fun _ _ _ h => by cases h; exact ⟨rfl, rfl⟩) rfl rfl dX12_skip_292 (fun t130324 H lc M130325 X130326 => ?_)
                                    have I130327 := Inv_mu I130314 M130325 (show Rg (kd 131) 4 v130320 from (R_of (lo := 0) (hi := 940) r130323 rfl))
                                    have F130328 : Fr [(131, 4), (131, 11), (131, 12), (131, 13), (131, 14)] [331] τ t130324 := Fr_mu F130315 M130325 (by decide)
                                    refine r_goto (tgt := 181) S dX12_skip_295 (by decide) ?_
                                    exact ih129533 t130324 _ _ _ v130292 v130320 v130307 f129527 X130326 I130327 F130328 (R_of r130294 rfl) M130325.1 ⟨by omega, by omega⟩ ((M130325.2 131 3 (Or.inr (by decide))).trans ((M130312.2 131 3 (Or.inr (by decide))).trans z129521)) ((M130325.2 131 5 (Or.inr (by decide))).trans ((M130312.2 131 5 (Or.inr (by decide))).trans z129522)) ((M130325.2 131 12 (Or.inr (by decide))).trans ((M130312.2 131 12 (Or.inr (by decide))).trans z129523)) ((M130325.2 131 13 (Or.inr (by decide))).trans M130312.1) ⟨by omega, by omega⟩ ((M130325.2 131 14 (Or.inr (by decide))).trans ((M130312.2 131 14 (Or.inr (by decide))).trans z129529)) ⟨by omega, by omega⟩ (by rw [(qof_of (k := 131) (fun j => ((M130325.2 331 j (Or.inl (by decide))).trans ((M130312.2 331 j (Or.inl (by decide))).trans rfl))) 17)]; exact LM_upq (i := f129518) (sp := f129524) (al := i129512) x129531 hs98123 (by omega) (by omega) (fun _ _ h => by exfalso; omega) (fun _ _ h => by exfalso; omega) (by omega) (by omega) (by omega)) (by omega) (lv_sub hl [1, 2, 0] rfl) (by omega)
                                  ·
                                    exfalso; omega
                                ·
                                  have r130329 : R (0) (6) f129524 := ⟨by omega, by omega⟩
                                  refine r_aload_n S dX12_skip_231 rfl (lv_at hl 1 rfl) ?_
                                  refine r_aload_n S dX12_skip_232 rfl (lv_at hl 1 rfl) ?_
                                  refine r_getJ (K := 38) S X130284 (Nat.le_of_ble_eq_true rfl) rfl lk12_170_10 (fun _ => ⟨_, rfl, rfl⟩) dX12_skip_233 (fun j130330 z130331 => ?_)
                                  refine r_bipush S dX12_skip_236 (by decide) (fun v130332 z130333 => ?_)
                                  have r130334 := R_eq z130333
                                  refine lv_lshl S.1.1 S.1.2.1 dX12_skip_238 rfl ?_
                                  refine lv_topl (fun j130335 z130336 => ?_)
                                  refine r_aload_n S dX12_skip_239 rfl (lv_at hl 1 rfl) ?_
                                  refine r_ki (q_V (As := []) (rest := [.long j130335, .ref (G.2.2.2.1 131)]) (K := 38) (ci := 10) S X130284 (c_X12_peek_x l G t129514 I129515 ) ck12_147 (Nat.le_of_ble_eq_true rfl) rfl (fun _ => ⟨_, rfl⟩) ⟨_, _, rfl⟩ ⟨Nat.le_of_ble_eq_true rfl, Nat.le_of_ble_eq_true rfl⟩ rfl hl.1 rfl (Nat.le_of_ble_eq_true rfl) dX12_skip_240 ⟨Nat.le_refl 0, Nat.le_refl 0⟩) X130284 (fun v130340 t130339 H lc q130337 X130338 => ?_)
                                  unfold po_X12_peek_x at q130337
                                  obtain ⟨q130341, q130342, q130343, q130344⟩ := q130337
                                  rw [q130341] at X130338
                                  rw [q130341] at q130343
                                  rw [q130341] at q130344
                                  have pk130345 : PKf bb nb f129518 v130340 := pk_b hB I129515 (F129516 131 3 (by simp [fz])) (fun j => F129516 132 j (by simp [fz])) z129520 (by omega) q130344
                                  obtain ⟨e130346, e130347, e130348⟩ := PK_at pk130345 (by omega)
                                  refine lv_i2l S.1.1 S.1.2.1 dX12_skip_243 rfl ?_
                                  refine lv_topl (fun j130349 z130350 => ?_)
                                  refine lv_lor S.1.1 S.1.2.1 dX12_skip_244 ?_
                                  refine lv_topl (fun j130351 z130352 => ?_)
                                  refine r_putJ (K := 38) S X130338 (Nat.le_of_ble_eq_true rfl) rfl lk12_170_10 (fun _ => ⟨_, rfl, Nat.le_of_ble_eq_true rfl, rfl⟩) (fun _ _ _ h => by cases h; exact ⟨rfl, rfl⟩) dX12_skip_245 (fun t130354 H lc M130355 X130353 => ?_)
                                  have I130356 := Inv_ml I129515 M130355
                                  have F130357 : Fr [(131, 4), (131, 11), (131, 12), (131, 13), (131, 14)] [331] τ t130354 := Fr_ml F129516 M130355 (by decide)
                                  refine r_aload_n S dX12_skip_248 rfl (lv_at hl 1 rfl) ?_
                                  refine r_geti (K := 38) S X130353 (Nat.le_of_ble_eq_true rfl) rfl lk12_154_10 (fun _ => ⟨_, rfl, rfl⟩) ((M130355.1 131 (by decide) 13).trans z129526) dX12_skip_249 ?_
                                  refine r_iconst S dX12_skip_252 (by decide) (fun v130358 z130359 => ?_)
                                  have r130360 := R_eq z130359
                                  refine r_icmp_ge (tgt := 275) S dX12_skip_253 (by decide) (fun c130361 => ?_) (fun c130361 => ?_)
                                  ·
                                    have r130362 : R (2) (6) f129524 := ⟨by omega, by omega⟩
                                    refine r_aload_n S dX12_skip_275 rfl (lv_at hl 1 rfl) ?_
                                    refine r_dup S dX12_skip_276 rfl ?_
                                    refine r_geti (K := 38) S X130353 (Nat.le_of_ble_eq_true rfl) rfl lk12_154_10 (fun _ => ⟨_, rfl, rfl⟩) ((M130355.1 131 (by decide) 13).trans z129526) dX12_skip_277 ?_
                                    refine r_iconst S dX12_skip_280 (by decide) (fun v130363 z130364 => ?_)
                                    have r130365 := R_eq z130364
                                    refine r_iadd S dX12_skip_281 (fun v130366 z130367 => ?_)
                                    obtain ⟨e130368, r130369⟩ := i_add (lo := 3) (hi := 7) z130367 r130362 r130365 rfl
                                    refine r_put (K := 38) (ty := .int) S X130353 (Nat.le_of_ble_eq_true rfl) rfl lk12_154_10 (fun _ => ⟨_, rfl, Nat.le_of_ble_eq_true rfl, rfl⟩) (fun _ _ _ h => by cases h; exact ⟨rfl, rfl⟩) rfl rfl dX12_skip_282 (fun t130370 H lc M130371 X130372 => ?_)
                                    have I130373 := Inv_mu I130356 M130371 (show Rg (kd 131) 13 v130366 from (R_of (lo := 0) (hi := 940) r130369 rfl))
                                    have F130374 : Fr [(131, 4), (131, 11), (131, 12), (131, 13), (131, 14)] [331] τ t130370 := Fr_mu F130357 M130371 (by decide)
                                    refine r_aload_n S dX12_skip_285 rfl (lv_at hl 1 rfl) ?_
                                    refine r_dup S dX12_skip_286 rfl ?_
                                    refine r_geti (K := 38) S X130372 (Nat.le_of_ble_eq_true rfl) rfl lk12_21_10 (fun _ => ⟨_, rfl, rfl⟩) ((M130371.2 131 4 (Or.inr (by decide))).trans ((M130355.1 131 (by decide) 4).trans z129520)) dX12_skip_287 ?_
                                    refine r_iconst S dX12_skip_290 (by decide) (fun v130375 z130376 => ?_)
                                    have r130377 := R_eq z130376
                                    refine r_iadd S dX12_skip_291 (fun v130378 z130379 => ?_)
                                    obtain ⟨e130380, r130381⟩ := i_add (lo := 1) (hi := 940) z130379 r130110 r130377 rfl
                                    refine r_put (K := 38) (ty := .int) S X130372 (Nat.le_of_ble_eq_true rfl) rfl lk12_21_10 (fun _ => ⟨_, rfl, Nat.le_of_ble_eq_true rfl, rfl⟩) (fun _ _ _ h => by cases h; exact ⟨rfl, rfl⟩) rfl rfl dX12_skip_292 (fun t130382 H lc M130383 X130384 => ?_)
                                    have I130385 := Inv_mu I130373 M130383 (show Rg (kd 131) 4 v130378 from (R_of (lo := 0) (hi := 940) r130381 rfl))
                                    have F130386 : Fr [(131, 4), (131, 11), (131, 12), (131, 13), (131, 14)] [331] τ t130382 := Fr_mu F130374 M130383 (by decide)
                                    refine r_goto (tgt := 181) S dX12_skip_295 (by decide) ?_
                                    exact ih129533 t130382 _ _ _ v130292 v130378 v130366 f129527 X130384 I130385 F130386 (R_of r130294 rfl) M130383.1 ⟨by omega, by omega⟩ ((M130383.2 131 3 (Or.inr (by decide))).trans ((M130371.2 131 3 (Or.inr (by decide))).trans ((M130355.1 131 (by decide) 3).trans z129521))) ((M130383.2 131 5 (Or.inr (by decide))).trans ((M130371.2 131 5 (Or.inr (by decide))).trans ((M130355.1 131 (by decide) 5).trans z129522))) ((M130383.2 131 12 (Or.inr (by decide))).trans ((M130371.2 131 12 (Or.inr (by decide))).trans ((M130355.1 131 (by decide) 12).trans z129523))) ((M130383.2 131 13 (Or.inr (by decide))).trans M130371.1) ⟨by omega, by omega⟩ ((M130383.2 131 14 (Or.inr (by decide))).trans ((M130371.2 131 14 (Or.inr (by decide))).trans ((M130355.1 131 (by decide) 14).trans z129529))) ⟨by omega, by omega⟩ (LM_upq (i := f129518) (sp := f129524) (al := i129512) x129531 hs98123 (by omega) (by omega) (LM_hw (x := v130340) (y := v130332) x129531 z130331 (by omega) (by rw [z130352, z130336, z130350]) ((qof_of (k := 131) (fun j => ((M130383.2 331 j (Or.inl (by decide))).trans ((M130371.2 331 j (Or.inl (by decide))).trans rfl))) 17).trans (Ml_upd M130355)) (by omega) (by omega)) (fun _ _ h => by exfalso; omega) (by omega) (by omega) (by omega)) (by omega) (lv_sub hl [1, 2, 0] rfl) (by omega)
                                  ·
                                    have r130387 : R (0) (1) f129524 := ⟨by omega, by omega⟩
                                    refine r_aload_n S dX12_skip_256 rfl (lv_at hl 1 rfl) ?_
                                    refine r_bipush S dX12_skip_257 (by decide) (fun v130388 z130389 => ?_)
                                    have r130390 := R_eq z130389
                                    refine r_aload_n S dX12_skip_259 rfl (lv_at hl 1 rfl) ?_
                                    refine r_geti (K := 38) S X130353 (Nat.le_of_ble_eq_true rfl) rfl lk12_167_10 (fun _ => ⟨_, rfl, rfl⟩) ((M130355.1 131 (by decide) 14).trans z129529) dX12_skip_260 ?_
                                    refine r_imul S dX12_skip_263 (fun v130391 z130392 => ?_)
                                    have r130393 := R_any v130391
                                    refine r_aload_n S dX12_skip_264 rfl (lv_at hl 1 rfl) ?_
                                    refine r_ki (q_V (As := []) (rest := [.int v130391, .ref (G.2.2.2.1 131)]) (K := 38) (ci := 10) S X130353 (c_X12_peek_x l G t130354 I130356 ) ck12_147 (Nat.le_of_ble_eq_true rfl) rfl (fun _ => ⟨_, rfl⟩) ⟨_, _, rfl⟩ ⟨Nat.le_of_ble_eq_true rfl, Nat.le_of_ble_eq_true rfl⟩ rfl hl.1 rfl (Nat.le_of_ble_eq_true rfl) dX12_skip_265 ⟨Nat.le_refl 0, Nat.le_refl 0⟩) X130353 (fun v130397 t130396 H lc q130394 X130395 => ?_)
                                    unfold po_X12_peek_x at q130394
                                    obtain ⟨q130398, q130399, q130400, q130401⟩ := q130394
                                    rw [q130398] at X130395
                                    rw [q130398] at q130400
                                    rw [q130398] at q130401
                                    have pk130402 : PKf bb nb f129518 v130397 := pk_b hB I130356 (F130357 131 3 (by simp [fz])) (fun j => F130357 132 j (by simp [fz])) ((M130355.1 131 (by decide) 4).trans z129520) (by omega) q130401
                                    obtain ⟨e130403, e130404, e130405⟩ := PK_at pk130402 (by omega)
                                    refine r_iadd S dX12_skip_268 (fun v130406 z130407 => ?_)
                                    have r130408 := R_any v130406
                                    refine r_bipush S dX12_skip_269 (by decide) (fun v130409 z130410 => ?_)
                                    have r130411 := R_eq z130410
                                    refine r_isub S dX12_skip_271 (fun v130412 z130413 => ?_)
                                    have r130414 := R_any v130412
                                    refine r_put (K := 38) (ty := .int) S X130395 (Nat.le_of_ble_eq_true rfl) rfl lk12_167_10 (fun _ => ⟨_, rfl, Nat.le_of_ble_eq_true rfl, rfl⟩) (fun _ _ _ h => by cases h; exact ⟨rfl, rfl⟩) rfl rfl dX12_skip_272 (fun t130415 H lc M130416 X130417 => ?_)
                                    have I130418 := Inv_mu I130356 M130416 (R_any v130412)
                                    have F130419 : Fr [(131, 4), (131, 11), (131, 12), (131, 13), (131, 14)] [331] τ t130415 := Fr_mu F130357 M130416 (by decide)
                                    refine r_aload_n S dX12_skip_275 rfl (lv_at hl 1 rfl) ?_
                                    refine r_dup S dX12_skip_276 rfl ?_
                                    refine r_geti (K := 38) S X130417 (Nat.le_of_ble_eq_true rfl) rfl lk12_154_10 (fun _ => ⟨_, rfl, rfl⟩) ((M130416.2 131 13 (Or.inr (by decide))).trans ((M130355.1 131 (by decide) 13).trans z129526)) dX12_skip_277 ?_
                                    refine r_iconst S dX12_skip_280 (by decide) (fun v130420 z130421 => ?_)
                                    have r130422 := R_eq z130421
                                    refine r_iadd S dX12_skip_281 (fun v130423 z130424 => ?_)
                                    obtain ⟨e130425, r130426⟩ := i_add (lo := 1) (hi := 2) z130424 r130387 r130422 rfl
                                    refine r_put (K := 38) (ty := .int) S X130417 (Nat.le_of_ble_eq_true rfl) rfl lk12_154_10 (fun _ => ⟨_, rfl, Nat.le_of_ble_eq_true rfl, rfl⟩) (fun _ _ _ h => by cases h; exact ⟨rfl, rfl⟩) rfl rfl dX12_skip_282 (fun t130427 H lc M130428 X130429 => ?_)
                                    have I130430 := Inv_mu I130418 M130428 (show Rg (kd 131) 13 v130423 from (R_of (lo := 0) (hi := 940) r130426 rfl))
                                    have F130431 : Fr [(131, 4), (131, 11), (131, 12), (131, 13), (131, 14)] [331] τ t130427 := Fr_mu F130419 M130428 (by decide)
                                    refine r_aload_n S dX12_skip_285 rfl (lv_at hl 1 rfl) ?_
                                    refine r_dup S dX12_skip_286 rfl ?_
                                    refine r_geti (K := 38) S X130429 (Nat.le_of_ble_eq_true rfl) rfl lk12_21_10 (fun _ => ⟨_, rfl, rfl⟩) ((M130428.2 131 4 (Or.inr (by decide))).trans ((M130416.2 131 4 (Or.inr (by decide))).trans ((M130355.1 131 (by decide) 4).trans z129520))) dX12_skip_287 ?_
                                    refine r_iconst S dX12_skip_290 (by decide) (fun v130432 z130433 => ?_)
                                    have r130434 := R_eq z130433
                                    refine r_iadd S dX12_skip_291 (fun v130435 z130436 => ?_)
                                    obtain ⟨e130437, r130438⟩ := i_add (lo := 1) (hi := 940) z130436 r130110 r130434 rfl
                                    refine r_put (K := 38) (ty := .int) S X130429 (Nat.le_of_ble_eq_true rfl) rfl lk12_21_10 (fun _ => ⟨_, rfl, Nat.le_of_ble_eq_true rfl, rfl⟩) (fun _ _ _ h => by cases h; exact ⟨rfl, rfl⟩) rfl rfl dX12_skip_292 (fun t130439 H lc M130440 X130441 => ?_)
                                    have I130442 := Inv_mu I130430 M130440 (show Rg (kd 131) 4 v130435 from (R_of (lo := 0) (hi := 940) r130438 rfl))
                                    have F130443 : Fr [(131, 4), (131, 11), (131, 12), (131, 13), (131, 14)] [331] τ t130439 := Fr_mu F130431 M130440 (by decide)
                                    refine r_goto (tgt := 181) S dX12_skip_295 (by decide) ?_
                                    exact ih129533 t130439 _ _ _ v130292 v130435 v130423 v130412 X130441 I130442 F130443 (R_of r130294 rfl) M130440.1 ⟨by omega, by omega⟩ ((M130440.2 131 3 (Or.inr (by decide))).trans ((M130428.2 131 3 (Or.inr (by decide))).trans ((M130416.2 131 3 (Or.inr (by decide))).trans ((M130355.1 131 (by decide) 3).trans z129521)))) ((M130440.2 131 5 (Or.inr (by decide))).trans ((M130428.2 131 5 (Or.inr (by decide))).trans ((M130416.2 131 5 (Or.inr (by decide))).trans ((M130355.1 131 (by decide) 5).trans z129522)))) ((M130440.2 131 12 (Or.inr (by decide))).trans ((M130428.2 131 12 (Or.inr (by decide))).trans ((M130416.2 131 12 (Or.inr (by decide))).trans ((M130355.1 131 (by decide) 12).trans z129523)))) ((M130440.2 131 13 (Or.inr (by decide))).trans M130428.1) ⟨by omega, by omega⟩ ((M130440.2 131 14 (Or.inr (by decide))).trans ((M130428.2 131 14 (Or.inr (by decide))).trans M130416.1)) ⟨by omega, by omega⟩ (LM_upq (i := f129518) (sp := f129524) (al := i129512) x129531 hs98123 (by omega) (by omega) (LM_hw (x := v130340) (y := v130332) x129531 z130331 (by omega) (by rw [z130352, z130336, z130350]) ((qof_of (k := 131) (fun j => ((M130440.2 331 j (Or.inl (by decide))).trans ((M130428.2 331 j (Or.inl (by decide))).trans ((M130416.2 331 j (Or.inl (by decide))).trans rfl)))) 17).trans (Ml_upd M130355)) (by omega) (by omega)) (LM_hn (c := v130388) (x := v130397) (d := v130409) x129531 (by omega) z130392 z130407 (by omega) z130413 (by omega) (by omega)) (by omega) (by omega) (by omega)) (by omega) (lv_sub hl [1, 2, 0] rfl) (by omega)
                              ·
                                refine r_iconst S dX12_skip_216 (by decide) (fun v130444 z130445 => ?_)
                                have r130446 := R_eq z130445
                                refine r_goto (tgt := 221) S dX12_skip_217 (by decide) ?_
                                refine r_istore_n (lv' := [(3, .int v130444), (0, .ref (G.2.2.2.1 131)), (2, .int v98115)]) S dX12_skip_221 rfl hl (by decide) rfl (fun ls hl => ?_)
                                refine r_aload_n S dX12_skip_222 rfl (lv_at hl 1 rfl) ?_
                                refine r_geti (K := 38) S X130284 (Nat.le_of_ble_eq_true rfl) rfl lk12_154_10 (fun _ => ⟨_, rfl, rfl⟩) z129526 dX12_skip_223 ?_
                                refine r_bipush S dX12_skip_226 (by decide) (fun v130447 z130448 => ?_)
                                have r130449 := R_eq z130448
                                refine r_icmp_ge (tgt := 248) S dX12_skip_228 (by decide) (fun c130450 => ?_) (fun c130450 => ?_)
                                ·
                                  have r130451 : R (7) (940) f129524 := ⟨by omega, by omega⟩
                                  refine r_aload_n S dX12_skip_248 rfl (lv_at hl 1 rfl) ?_
                                  refine r_geti (K := 38) S X130284 (Nat.le_of_ble_eq_true rfl) rfl lk12_154_10 (fun _ => ⟨_, rfl, rfl⟩) z129526 dX12_skip_249 ?_
                                  refine r_iconst S dX12_skip_252 (by decide) (fun v130452 z130453 => ?_)
                                  have r130454 := R_eq z130453
                                  refine r_icmp_ge (tgt := 275) S dX12_skip_253 (by decide) (fun c130455 => ?_) (fun c130455 => ?_)
                                  ·
                                    refine r_aload_n S dX12_skip_275 rfl (lv_at hl 1 rfl) ?_
                                    refine r_dup S dX12_skip_276 rfl ?_
                                    refine r_geti (K := 38) S X130284 (Nat.le_of_ble_eq_true rfl) rfl lk12_154_10 (fun _ => ⟨_, rfl, rfl⟩) z129526 dX12_skip_277 ?_
                                    refine r_iconst S dX12_skip_280 (by decide) (fun v130456 z130457 => ?_)
                                    have r130458 := R_eq z130457
                                    refine r_iadd S dX12_skip_281 (fun v130459 z130460 => ?_)
                                    obtain ⟨e130461, r130462⟩ := i_add (lo := 8) (hi := 941) z130460 r130451 r130458 rfl
                                    refine r_put (K := 38) (ty := .int) S X130284 (Nat.le_of_ble_eq_true rfl) rfl lk12_154_10 (fun _ => ⟨_, rfl, Nat.le_of_ble_eq_true rfl, rfl⟩) (fun _ _ _ h => by cases h; exact ⟨rfl, rfl⟩) rfl rfl dX12_skip_282 (fun t130463 H lc M130464 X130465 => ?_)
                                    have I130466 := Inv_mu I129515 M130464 (show Rg (kd 131) 13 v130459 from (show R (0) (940) v130459 from ⟨by omega, by omega⟩))
                                    have F130467 : Fr [(131, 4), (131, 11), (131, 12), (131, 13), (131, 14)] [331] τ t130463 := Fr_mu F129516 M130464 (by decide)
                                    have r130468 : R (8) (940) v130459 := ⟨by omega, by omega⟩
                                    refine r_aload_n S dX12_skip_285 rfl (lv_at hl 1 rfl) ?_
                                    refine r_dup S dX12_skip_286 rfl ?_
                                    refine r_geti (K := 38) S X130465 (Nat.le_of_ble_eq_true rfl) rfl lk12_21_10 (fun _ => ⟨_, rfl, rfl⟩) ((M130464.2 131 4 (Or.inr (by decide))).trans z129520) dX12_skip_287 ?_
                                    refine r_iconst S dX12_skip_290 (by decide) (fun v130469 z130470 => ?_)
                                    have r130471 := R_eq z130470
                                    refine r_iadd S dX12_skip_291 (fun v130472 z130473 => ?_)
                                    obtain ⟨e130474, r130475⟩ := i_add (lo := 1) (hi := 940) z130473 r130110 r130471 rfl
                                    refine r_put (K := 38) (ty := .int) S X130465 (Nat.le_of_ble_eq_true rfl) rfl lk12_21_10 (fun _ => ⟨_, rfl, Nat.le_of_ble_eq_true rfl, rfl⟩) (fun _ _ _ h => by cases h; exact ⟨rfl, rfl⟩) rfl rfl dX12_skip_292 (fun t130476 H lc M130477 X130478 => ?_)
                                    have I130479 := Inv_mu I130466 M130477 (show Rg (kd 131) 4 v130472 from (R_of (lo := 0) (hi := 940) r130475 rfl))
                                    have F130480 : Fr [(131, 4), (131, 11), (131, 12), (131, 13), (131, 14)] [331] τ t130476 := Fr_mu F130467 M130477 (by decide)
                                    refine r_goto (tgt := 181) S dX12_skip_295 (by decide) ?_
                                    exact ih129533 t130476 _ _ _ v130444 v130472 v130459 f129527 X130478 I130479 F130480 (R_of r130446 rfl) M130477.1 ⟨by omega, by omega⟩ ((M130477.2 131 3 (Or.inr (by decide))).trans ((M130464.2 131 3 (Or.inr (by decide))).trans z129521)) ((M130477.2 131 5 (Or.inr (by decide))).trans ((M130464.2 131 5 (Or.inr (by decide))).trans z129522)) ((M130477.2 131 12 (Or.inr (by decide))).trans ((M130464.2 131 12 (Or.inr (by decide))).trans z129523)) ((M130477.2 131 13 (Or.inr (by decide))).trans M130464.1) ⟨by omega, by omega⟩ ((M130477.2 131 14 (Or.inr (by decide))).trans ((M130464.2 131 14 (Or.inr (by decide))).trans z129529)) ⟨by omega, by omega⟩ (by rw [(qof_of (k := 131) (fun j => ((M130477.2 331 j (Or.inl (by decide))).trans ((M130464.2 331 j (Or.inl (by decide))).trans rfl))) 17)]; exact LM_upq (i := f129518) (sp := f129524) (al := i129512) x129531 hs98123 (by omega) (by omega) (fun _ _ h => by exfalso; omega) (fun _ _ h => by exfalso; omega) (by omega) (by omega) (by omega)) (by omega) (lv_sub hl [1, 2, 0] rfl) (by omega)
                                  ·
                                    exfalso; omega
                                ·
                                  have r130481 : R (0) (6) f129524 := ⟨by omega, by omega⟩
                                  refine r_aload_n S dX12_skip_231 rfl (lv_at hl 1 rfl) ?_
                                  refine r_aload_n S dX12_skip_232 rfl (lv_at hl 1 rfl) ?_
                                  refine r_getJ (K := 38) S X130284 (Nat.le_of_ble_eq_true rfl) rfl lk12_170_10 (fun _ => ⟨_, rfl, rfl⟩) dX12_skip_233 (fun j130482 z130483 => ?_)
                                  refine r_bipush S dX12_skip_236 (by decide) (fun v130484 z130485 => ?_)
                                  have r130486 := R_eq z130485
                                  refine lv_lshl S.1.1 S.1.2.1 dX12_skip_238 rfl ?_
                                  refine lv_topl (fun j130487 z130488 => ?_)
                                  refine r_aload_n S dX12_skip_239 rfl (lv_at hl 1 rfl) ?_
                                  refine r_ki (q_V (As := []) (rest := [.long j130487, .ref (G.2.2.2.1 131)]) (K := 38) (ci := 10) S X130284 (c_X12_peek_x l G t129514 I129515 ) ck12_147 (Nat.le_of_ble_eq_true rfl) rfl (fun _ => ⟨_, rfl⟩) ⟨_, _, rfl⟩ ⟨Nat.le_of_ble_eq_true rfl, Nat.le_of_ble_eq_true rfl⟩ rfl hl.1 rfl (Nat.le_of_ble_eq_true rfl) dX12_skip_240 ⟨Nat.le_refl 0, Nat.le_refl 0⟩) X130284 (fun v130492 t130491 H lc q130489 X130490 => ?_)
                                  unfold po_X12_peek_x at q130489
                                  obtain ⟨q130493, q130494, q130495, q130496⟩ := q130489
                                  rw [q130493] at X130490
                                  rw [q130493] at q130495
                                  rw [q130493] at q130496
                                  have pk130497 : PKf bb nb f129518 v130492 := pk_b hB I129515 (F129516 131 3 (by simp [fz])) (fun j => F129516 132 j (by simp [fz])) z129520 (by omega) q130496
                                  obtain ⟨e130498, e130499, e130500⟩ := PK_at pk130497 (by omega)
                                  refine lv_i2l S.1.1 S.1.2.1 dX12_skip_243 rfl ?_
                                  refine lv_topl (fun j130501 z130502 => ?_)
                                  refine lv_lor S.1.1 S.1.2.1 dX12_skip_244 ?_
                                  refine lv_topl (fun j130503 z130504 => ?_)
                                  refine r_putJ (K := 38) S X130490 (Nat.le_of_ble_eq_true rfl) rfl lk12_170_10 (fun _ => ⟨_, rfl, Nat.le_of_ble_eq_true rfl, rfl⟩) (fun _ _ _ h => by cases h; exact ⟨rfl, rfl⟩) dX12_skip_245 (fun t130506 H lc M130507 X130505 => ?_)
                                  have I130508 := Inv_ml I129515 M130507
                                  have F130509 : Fr [(131, 4), (131, 11), (131, 12), (131, 13), (131, 14)] [331] τ t130506 := Fr_ml F129516 M130507 (by decide)
                                  refine r_aload_n S dX12_skip_248 rfl (lv_at hl 1 rfl) ?_
                                  refine r_geti (K := 38) S X130505 (Nat.le_of_ble_eq_true rfl) rfl lk12_154_10 (fun _ => ⟨_, rfl, rfl⟩) ((M130507.1 131 (by decide) 13).trans z129526) dX12_skip_249 ?_
                                  refine r_iconst S dX12_skip_252 (by decide) (fun v130510 z130511 => ?_)
                                  have r130512 := R_eq z130511
                                  refine r_icmp_ge (tgt := 275) S dX12_skip_253 (by decide) (fun c130513 => ?_) (fun c130513 => ?_)
                                  ·
                                    have r130514 : R (2) (6) f129524 := ⟨by omega, by omega⟩
                                    refine r_aload_n S dX12_skip_275 rfl (lv_at hl 1 rfl) ?_
                                    refine r_dup S dX12_skip_276 rfl ?_
                                    refine r_geti (K := 38) S X130505 (Nat.le_of_ble_eq_true rfl) rfl lk12_154_10 (fun _ => ⟨_, rfl, rfl⟩) ((M130507.1 131 (by decide) 13).trans z129526) dX12_skip_277 ?_
                                    refine r_iconst S dX12_skip_280 (by decide) (fun v130515 z130516 => ?_)
                                    have r130517 := R_eq z130516
                                    refine r_iadd S dX12_skip_281 (fun v130518 z130519 => ?_)
                                    obtain ⟨e130520, r130521⟩ := i_add (lo := 3) (hi := 7) z130519 r130514 r130517 rfl
                                    refine r_put (K := 38) (ty := .int) S X130505 (Nat.le_of_ble_eq_true rfl) rfl lk12_154_10 (fun _ => ⟨_, rfl, Nat.le_of_ble_eq_true rfl, rfl⟩) (fun _ _ _ h => by cases h; exact ⟨rfl, rfl⟩) rfl rfl dX12_skip_282 (fun t130522 H lc M130523 X130524 => ?_)
                                    have I130525 := Inv_mu I130508 M130523 (show Rg (kd 131) 13 v130518 from (R_of (lo := 0) (hi := 940) r130521 rfl))
                                    have F130526 : Fr [(131, 4), (131, 11), (131, 12), (131, 13), (131, 14)] [331] τ t130522 := Fr_mu F130509 M130523 (by decide)
                                    refine r_aload_n S dX12_skip_285 rfl (lv_at hl 1 rfl) ?_
                                    refine r_dup S dX12_skip_286 rfl ?_
                                    refine r_geti (K := 38) S X130524 (Nat.le_of_ble_eq_true rfl) rfl lk12_21_10 (fun _ => ⟨_, rfl, rfl⟩) ((M130523.2 131 4 (Or.inr (by decide))).trans ((M130507.1 131 (by decide) 4).trans z129520)) dX12_skip_287 ?_
                                    refine r_iconst S dX12_skip_290 (by decide) (fun v130527 z130528 => ?_)
                                    have r130529 := R_eq z130528
                                    refine r_iadd S dX12_skip_291 (fun v130530 z130531 => ?_)
                                    obtain ⟨e130532, r130533⟩ := i_add (lo := 1) (hi := 940) z130531 r130110 r130529 rfl
                                    refine r_put (K := 38) (ty := .int) S X130524 (Nat.le_of_ble_eq_true rfl) rfl lk12_21_10 (fun _ => ⟨_, rfl, Nat.le_of_ble_eq_true rfl, rfl⟩) (fun _ _ _ h => by cases h; exact ⟨rfl, rfl⟩) rfl rfl dX12_skip_292 (fun t130534 H lc M130535 X130536 => ?_)
                                    have I130537 := Inv_mu I130525 M130535 (show Rg (kd 131) 4 v130530 from (R_of (lo := 0) (hi := 940) r130533 rfl))
                                    have F130538 : Fr [(131, 4), (131, 11), (131, 12), (131, 13), (131, 14)] [331] τ t130534 := Fr_mu F130526 M130535 (by decide)
                                    refine r_goto (tgt := 181) S dX12_skip_295 (by decide) ?_
                                    exact ih129533 t130534 _ _ _ v130444 v130530 v130518 f129527 X130536 I130537 F130538 (R_of r130446 rfl) M130535.1 ⟨by omega, by omega⟩ ((M130535.2 131 3 (Or.inr (by decide))).trans ((M130523.2 131 3 (Or.inr (by decide))).trans ((M130507.1 131 (by decide) 3).trans z129521))) ((M130535.2 131 5 (Or.inr (by decide))).trans ((M130523.2 131 5 (Or.inr (by decide))).trans ((M130507.1 131 (by decide) 5).trans z129522))) ((M130535.2 131 12 (Or.inr (by decide))).trans ((M130523.2 131 12 (Or.inr (by decide))).trans ((M130507.1 131 (by decide) 12).trans z129523))) ((M130535.2 131 13 (Or.inr (by decide))).trans M130523.1) ⟨by omega, by omega⟩ ((M130535.2 131 14 (Or.inr (by decide))).trans ((M130523.2 131 14 (Or.inr (by decide))).trans ((M130507.1 131 (by decide) 14).trans z129529))) ⟨by omega, by omega⟩ (LM_upq (i := f129518) (sp := f129524) (al := i129512) x129531 hs98123 (by omega) (by omega) (LM_hw (x := v130492) (y := v130484) x129531 z130483 (by omega) (by rw [z130504, z130488, z130502]) ((qof_of (k := 131) (fun j => ((M130535.2 331 j (Or.inl (by decide))).trans ((M130523.2 331 j (Or.inl (by decide))).trans rfl))) 17).trans (Ml_upd M130507)) (by omega) (by omega)) (fun _ _ h => by exfalso; omega) (by omega) (by omega) (by omega)) (by omega) (lv_sub hl [1, 2, 0] rfl) (by omega)
                                  ·
                                    have r130539 : R (0) (1) f129524 := ⟨by omega, by omega⟩
                                    refine r_aload_n S dX12_skip_256 rfl (lv_at hl 1 rfl) ?_
                                    refine r_bipush S dX12_skip_257 (by decide) (fun v130540 z130541 => ?_)
                                    have r130542 := R_eq z130541
                                    refine r_aload_n S dX12_skip_259 rfl (lv_at hl 1 rfl) ?_
                                    refine r_geti (K := 38) S X130505 (Nat.le_of_ble_eq_true rfl) rfl lk12_167_10 (fun _ => ⟨_, rfl, rfl⟩) ((M130507.1 131 (by decide) 14).trans z129529) dX12_skip_260 ?_
                                    refine r_imul S dX12_skip_263 (fun v130543 z130544 => ?_)
                                    have r130545 := R_any v130543
                                    refine r_aload_n S dX12_skip_264 rfl (lv_at hl 1 rfl) ?_
                                    refine r_ki (q_V (As := []) (rest := [.int v130543, .ref (G.2.2.2.1 131)]) (K := 38) (ci := 10) S X130505 (c_X12_peek_x l G t130506 I130508 ) ck12_147 (Nat.le_of_ble_eq_true rfl) rfl (fun _ => ⟨_, rfl⟩) ⟨_, _, rfl⟩ ⟨Nat.le_of_ble_eq_true rfl, Nat.le_of_ble_eq_true rfl⟩ rfl hl.1 rfl (Nat.le_of_ble_eq_true rfl) dX12_skip_265 ⟨Nat.le_refl 0, Nat.le_refl 0⟩) X130505 (fun v130549 t130548 H lc q130546 X130547 => ?_)
                                    unfold po_X12_peek_x at q130546
                                    obtain ⟨q130550, q130551, q130552, q130553⟩ := q130546
                                    rw [q130550] at X130547
                                    rw [q130550] at q130552
                                    rw [q130550] at q130553
                                    have pk130554 : PKf bb nb f129518 v130549 := pk_b hB I130508 (F130509 131 3 (by simp [fz])) (fun j => F130509 132 j (by simp [fz])) ((M130507.1 131 (by decide) 4).trans z129520) (by omega) q130553
                                    obtain ⟨e130555, e130556, e130557⟩ := PK_at pk130554 (by omega)
                                    refine r_iadd S dX12_skip_268 (fun v130558 z130559 => ?_)
                                    have r130560 := R_any v130558
                                    refine r_bipush S dX12_skip_269 (by decide) (fun v130561 z130562 => ?_)
                                    have r130563 := R_eq z130562
                                    refine r_isub S dX12_skip_271 (fun v130564 z130565 => ?_)
                                    have r130566 := R_any v130564
                                    refine r_put (K := 38) (ty := .int) S X130547 (Nat.le_of_ble_eq_true rfl) rfl lk12_167_10 (fun _ => ⟨_, rfl, Nat.le_of_ble_eq_true rfl, rfl⟩) (fun _ _ _ h => by cases h; exact ⟨rfl, rfl⟩) rfl rfl dX12_skip_272 (fun t130567 H lc M130568 X130569 => ?_)
                                    have I130570 := Inv_mu I130508 M130568 (R_any v130564)
                                    have F130571 : Fr [(131, 4), (131, 11), (131, 12), (131, 13), (131, 14)] [331] τ t130567 := Fr_mu F130509 M130568 (by decide)
                                    refine r_aload_n S dX12_skip_275 rfl (lv_at hl 1 rfl) ?_
                                    refine r_dup S dX12_skip_276 rfl ?_
                                    refine r_geti (K := 38) S X130569 (Nat.le_of_ble_eq_true rfl) rfl lk12_154_10 (fun _ => ⟨_, rfl, rfl⟩) ((M130568.2 131 13 (Or.inr (by decide))).trans ((M130507.1 131 (by decide) 13).trans z129526)) dX12_skip_277 ?_
                                    refine r_iconst S dX12_skip_280 (by decide) (fun v130572 z130573 => ?_)
                                    have r130574 := R_eq z130573
                                    refine r_iadd S dX12_skip_281 (fun v130575 z130576 => ?_)
                                    obtain ⟨e130577, r130578⟩ := i_add (lo := 1) (hi := 2) z130576 r130539 r130574 rfl
                                    refine r_put (K := 38) (ty := .int) S X130569 (Nat.le_of_ble_eq_true rfl) rfl lk12_154_10 (fun _ => ⟨_, rfl, Nat.le_of_ble_eq_true rfl, rfl⟩) (fun _ _ _ h => by cases h; exact ⟨rfl, rfl⟩) rfl rfl dX12_skip_282 (fun t130579 H lc M130580 X130581 => ?_)
                                    have I130582 := Inv_mu I130570 M130580 (show Rg (kd 131) 13 v130575 from (R_of (lo := 0) (hi := 940) r130578 rfl))
                                    have F130583 : Fr [(131, 4), (131, 11), (131, 12), (131, 13), (131, 14)] [331] τ t130579 := Fr_mu F130571 M130580 (by decide)
                                    refine r_aload_n S dX12_skip_285 rfl (lv_at hl 1 rfl) ?_
                                    refine r_dup S dX12_skip_286 rfl ?_
                                    refine r_geti (K := 38) S X130581 (Nat.le_of_ble_eq_true rfl) rfl lk12_21_10 (fun _ => ⟨_, rfl, rfl⟩) ((M130580.2 131 4 (Or.inr (by decide))).trans ((M130568.2 131 4 (Or.inr (by decide))).trans ((M130507.1 131 (by decide) 4).trans z129520))) dX12_skip_287 ?_
                                    refine r_iconst S dX12_skip_290 (by decide) (fun v130584 z130585 => ?_)
                                    have r130586 := R_eq z130585
                                    refine r_iadd S dX12_skip_291 (fun v130587 z130588 => ?_)
                                    obtain ⟨e130589, r130590⟩ := i_add (lo := 1) (hi := 940) z130588 r130110 r130586 rfl
                                    refine r_put (K := 38) (ty := .int) S X130581 (Nat.le_of_ble_eq_true rfl) rfl lk12_21_10 (fun _ => ⟨_, rfl, Nat.le_of_ble_eq_true rfl, rfl⟩) (fun _ _ _ h => by cases h; exact ⟨rfl, rfl⟩) rfl rfl dX12_skip_292 (fun t130591 H lc M130592 X130593 => ?_)
                                    have I130594 := Inv_mu I130582 M130592 (show Rg (kd 131) 4 v130587 from (R_of (lo := 0) (hi := 940) r130590 rfl))
                                    have F130595 : Fr [(131, 4), (131, 11), (131, 12), (131, 13), (131, 14)] [331] τ t130591 := Fr_mu F130583 M130592 (by decide)
                                    refine r_goto (tgt := 181) S dX12_skip_295 (by decide) ?_
                                    exact ih129533 t130591 _ _ _ v130444 v130587 v130575 v130564 X130593 I130594 F130595 (R_of r130446 rfl) M130592.1 ⟨by omega, by omega⟩ ((M130592.2 131 3 (Or.inr (by decide))).trans ((M130580.2 131 3 (Or.inr (by decide))).trans ((M130568.2 131 3 (Or.inr (by decide))).trans ((M130507.1 131 (by decide) 3).trans z129521)))) ((M130592.2 131 5 (Or.inr (by decide))).trans ((M130580.2 131 5 (Or.inr (by decide))).trans ((M130568.2 131 5 (Or.inr (by decide))).trans ((M130507.1 131 (by decide) 5).trans z129522)))) ((M130592.2 131 12 (Or.inr (by decide))).trans ((M130580.2 131 12 (Or.inr (by decide))).trans ((M130568.2 131 12 (Or.inr (by decide))).trans ((M130507.1 131 (by decide) 12).trans z129523)))) ((M130592.2 131 13 (Or.inr (by decide))).trans M130580.1) ⟨by omega, by omega⟩ ((M130592.2 131 14 (Or.inr (by decide))).trans ((M130580.2 131 14 (Or.inr (by decide))).trans M130568.1)) ⟨by omega, by omega⟩ (LM_upq (i := f129518) (sp := f129524) (al := i129512) x129531 hs98123 (by omega) (by omega) (LM_hw (x := v130492) (y := v130484) x129531 z130483 (by omega) (by rw [z130504, z130488, z130502]) ((qof_of (k := 131) (fun j => ((M130592.2 331 j (Or.inl (by decide))).trans ((M130580.2 331 j (Or.inl (by decide))).trans ((M130568.2 331 j (Or.inl (by decide))).trans rfl)))) 17).trans (Ml_upd M130507)) (by omega) (by omega)) (LM_hn (c := v130540) (x := v130549) (d := v130561) x129531 (by omega) z130544 z130559 (by omega) z130565 (by omega) (by omega)) (by omega) (by omega) (by omega)) (by omega) (lv_sub hl [1, 2, 0] rfl) (by omega)
                    exact L129530 _ t98134 _ _ _ v98120 f223 v281 v98131 X98136 I98137 F98138 (R_of r98122 rfl) ((M98135.2 131 4 (Or.inr (by decide))).trans ((M98128.1 131 (by decide) 4).trans ((M285.2 131 4 (Or.inr (by decide))).trans ((M277.2 131 4 (Or.inr (by decide))).trans z225)))) ⟨by omega, by omega⟩ ((M98135.2 131 3 (Or.inr (by decide))).trans ((M98128.1 131 (by decide) 3).trans ((M285.2 131 3 (Or.inr (by decide))).trans ((M277.2 131 3 (Or.inr (by decide))).trans z226)))) ((M98135.2 131 5 (Or.inr (by decide))).trans ((M98128.1 131 (by decide) 5).trans ((M285.2 131 5 (Or.inr (by decide))).trans ((M277.2 131 5 (Or.inr (by decide))).trans z227)))) ((M98135.2 131 12 (Or.inr (by decide))).trans ((M98128.1 131 (by decide) 12).trans ((M285.2 131 12 (Or.inr (by decide))).trans M277.1))) ((M98135.2 131 13 (Or.inr (by decide))).trans ((M98128.1 131 (by decide) 13).trans M285.1)) ⟨by omega, by omega⟩ M98135.1 ⟨by omega, by omega⟩ (LM_0q (by omega) (by omega) (by omega) ((qof_of (k := 131) (fun j => ((M98135.2 331 j (Or.inl (by decide))).trans rfl)) 17).trans (Ml_upd M98128)) z98125) (by omega) (lv_sub hl [3, 1, 0] rfl) (Nat.lt_succ_self _)
                  ·
                    have r130596 : R (0) (0) v98100 := ⟨by omega, by omega⟩
                    refine r_aload_n S dX12_skip_109 rfl (lv_at hl 1 rfl) ?_
                    refine r_iload_n S dX12_skip_110 rfl (lv_at hl 0 rfl) ?_
                    refine r_bipush S dX12_skip_111 (by decide) (fun v130597 z130598 => ?_)
                    have r130599 := R_eq z130598
                    refine r_icmp_eq (tgt := 140) S dX12_skip_113 (by decide) (fun c130600 => ?_) (fun c130600 => ?_)
                    ·
                      have r130601 : R (59) (59) v65553 := ⟨by omega, by omega⟩
                      have p130602 := q65556 (by omega)
                      have r130603 : R (0) (939) f223 := ((M285.2 131 4 (Or.inr (by decide))).trans ((M277.2 131 4 (Or.inr (by decide))).trans z225)) ▸ p130602
                      have r130604 : R (0) (938) f223 := ⟨by omega, by omega⟩
                      refine r_iconst S dX12_skip_140 (by decide) (fun v130605 z130606 => ?_)
                      have r130607 := R_eq z130606
                      refine r_goto (tgt := 145) S dX12_skip_141 (by decide) ?_
                      refine r_put (K := 38) (ty := .int) S X98098 (Nat.le_of_ble_eq_true rfl) rfl lk12_157_10 (fun _ => ⟨_, rfl, Nat.le_of_ble_eq_true rfl, rfl⟩) (fun _ _ _ h => by cases h; exact ⟨rfl, rfl⟩) rfl rfl dX12_skip_145 (fun t130608 H lc M130609 X130610 => ?_)
                      have I130611 := Inv_mu I287 M130609 (show Rg (kd 131) 11 v130605 from (R_of (lo := 0) (hi := 4) r130607 rfl))
                      have F130612 : Fr [(131, 4), (131, 11), (131, 12), (131, 13), (131, 14)] [331] τ t130608 := Fr_mu F288 M130609 (by decide)
                      refine r_aload_n S dX12_skip_148 rfl (lv_at hl 1 rfl) ?_
                      refine r_iload_n S dX12_skip_149 rfl (lv_at hl 0 rfl) ?_
                      refine r_put (K := 38) (ty := .int) S X130610 (Nat.le_of_ble_eq_true rfl) rfl lk12_167_10 (fun _ => ⟨_, rfl, Nat.le_of_ble_eq_true rfl, rfl⟩) (fun _ _ _ h => by cases h; exact ⟨rfl, rfl⟩) rfl rfl dX12_skip_150 (fun t130613 H lc M130614 X130615 => ?_)
                      have I130616 := Inv_mu I130611 M130614 (R_any v65553)
                      have F130617 : Fr [(131, 4), (131, 11), (131, 12), (131, 13), (131, 14)] [331] τ t130613 := Fr_mu F130612 M130614 (by decide)
                      refine r_aload_n S dX12_skip_153 rfl (lv_at hl 1 rfl) ?_
                      refine r_dup S dX12_skip_154 rfl ?_
                      refine r_geti (K := 38) S X130615 (Nat.le_of_ble_eq_true rfl) rfl lk12_21_10 (fun _ => ⟨_, rfl, rfl⟩) ((M130614.2 131 4 (Or.inr (by decide))).trans ((M130609.2 131 4 (Or.inr (by decide))).trans ((M285.2 131 4 (Or.inr (by decide))).trans ((M277.2 131 4 (Or.inr (by decide))).trans z225)))) dX12_skip_155 ?_
                      refine r_iconst S dX12_skip_158 (by decide) (fun v130618 z130619 => ?_)
                      have r130620 := R_eq z130619
                      refine r_iadd S dX12_skip_159 (fun v130621 z130622 => ?_)
                      obtain ⟨e130623, r130624⟩ := i_add (lo := 1) (hi := 939) z130622 r130604 r130620 rfl
                      refine r_put (K := 38) (ty := .int) S X130615 (Nat.le_of_ble_eq_true rfl) rfl lk12_21_10 (fun _ => ⟨_, rfl, Nat.le_of_ble_eq_true rfl, rfl⟩) (fun _ _ _ h => by cases h; exact ⟨rfl, rfl⟩) rfl rfl dX12_skip_160 (fun t130625 H lc M130626 X130627 => ?_)
                      have I130628 := Inv_mu I130616 M130626 (show Rg (kd 131) 4 v130621 from (R_of (lo := 0) (hi := 940) r130624 rfl))
                      have F130629 : Fr [(131, 4), (131, 11), (131, 12), (131, 13), (131, 14)] [331] τ t130625 := Fr_mu F130617 M130626 (by decide)
                      exact r_vret S hr hlk X130627 ⟨I130628, F130629, (by rw [M130626.1]; exact R_of r130624 rfl), (by rw [((M130626.2 131 11 (Or.inr (by decide))).trans ((M130614.2 131 11 (Or.inr (by decide))).trans M130609.1))]; exact R_of r130607 rfl), (by have h1_0 := congrArg Int32.toInt M130626.1; have h2_0 := congrArg Int32.toInt z2; omega), (by have h1_0 := congrArg Int32.toInt M130626.1; have h2_0 := congrArg Int32.toInt z2; have h1_1 := congrArg Int32.toInt ((M130626.2 131 11 (Or.inr (by decide))).trans ((M130614.2 131 11 (Or.inr (by decide))).trans M130609.1)); omega), (MT_sign (A := f223.toInt.toNat) (MB_eq hB (F130629 131 3 (by simp [fz])) (F130629 131 5 (by simp [fz])) (fun j => F130629 132 j (by simp [fz]))) ⟨by omega, by omega, x229, fun _ => by omega⟩ (by omega) (by omega) (by omega) (by omega) (by have q := congrArg Int32.toInt ((M130626.2 131 12 (Or.inr (by decide))).trans ((M130614.2 131 12 (Or.inr (by decide))).trans ((M130609.2 131 12 (Or.inr (by decide))).trans ((M285.2 131 12 (Or.inr (by decide))).trans M277.1)))); omega) (by have q := congrArg Int32.toInt M130626.1; omega) (by have q := congrArg Int32.toInt ((M130626.2 131 11 (Or.inr (by decide))).trans ((M130614.2 131 11 (Or.inr (by decide))).trans M130609.1)); omega) (by have q := congrArg Int32.toInt ((M130626.2 131 14 (Or.inr (by decide))).trans M130614.1); omega))⟩ dX12_skip_163
                    ·
                      refine r_iload_n S dX12_skip_116 rfl (lv_at hl 0 rfl) ?_
                      refine r_bipush S dX12_skip_117 (by decide) (fun v130630 z130631 => ?_)
                      have r130632 := R_eq z130631
                      refine r_icmp_eq (tgt := 140) S dX12_skip_119 (by decide) (fun c130633 => ?_) (fun c130633 => ?_)
                      ·
                        have r130634 : R (40) (40) v65553 := ⟨by omega, by omega⟩
                        have p130635 := q65556 (by omega)
                        have r130636 : R (0) (939) f223 := ((M285.2 131 4 (Or.inr (by decide))).trans ((M277.2 131 4 (Or.inr (by decide))).trans z225)) ▸ p130635
                        have r130637 : R (0) (938) f223 := ⟨by omega, by omega⟩
                        refine r_iconst S dX12_skip_140 (by decide) (fun v130638 z130639 => ?_)
                        have r130640 := R_eq z130639
                        refine r_goto (tgt := 145) S dX12_skip_141 (by decide) ?_
                        refine r_put (K := 38) (ty := .int) S X98098 (Nat.le_of_ble_eq_true rfl) rfl lk12_157_10 (fun _ => ⟨_, rfl, Nat.le_of_ble_eq_true rfl, rfl⟩) (fun _ _ _ h => by cases h; exact ⟨rfl, rfl⟩) rfl rfl dX12_skip_145 (fun t130641 H lc M130642 X130643 => ?_)
                        have I130644 := Inv_mu I287 M130642 (show Rg (kd 131) 11 v130638 from (R_of (lo := 0) (hi := 4) r130640 rfl))
                        have F130645 : Fr [(131, 4), (131, 11), (131, 12), (131, 13), (131, 14)] [331] τ t130641 := Fr_mu F288 M130642 (by decide)
                        refine r_aload_n S dX12_skip_148 rfl (lv_at hl 1 rfl) ?_
                        refine r_iload_n S dX12_skip_149 rfl (lv_at hl 0 rfl) ?_
                        refine r_put (K := 38) (ty := .int) S X130643 (Nat.le_of_ble_eq_true rfl) rfl lk12_167_10 (fun _ => ⟨_, rfl, Nat.le_of_ble_eq_true rfl, rfl⟩) (fun _ _ _ h => by cases h; exact ⟨rfl, rfl⟩) rfl rfl dX12_skip_150 (fun t130646 H lc M130647 X130648 => ?_)
                        have I130649 := Inv_mu I130644 M130647 (R_any v65553)
                        have F130650 : Fr [(131, 4), (131, 11), (131, 12), (131, 13), (131, 14)] [331] τ t130646 := Fr_mu F130645 M130647 (by decide)
                        refine r_aload_n S dX12_skip_153 rfl (lv_at hl 1 rfl) ?_
                        refine r_dup S dX12_skip_154 rfl ?_
                        refine r_geti (K := 38) S X130648 (Nat.le_of_ble_eq_true rfl) rfl lk12_21_10 (fun _ => ⟨_, rfl, rfl⟩) ((M130647.2 131 4 (Or.inr (by decide))).trans ((M130642.2 131 4 (Or.inr (by decide))).trans ((M285.2 131 4 (Or.inr (by decide))).trans ((M277.2 131 4 (Or.inr (by decide))).trans z225)))) dX12_skip_155 ?_
                        refine r_iconst S dX12_skip_158 (by decide) (fun v130651 z130652 => ?_)
                        have r130653 := R_eq z130652
                        refine r_iadd S dX12_skip_159 (fun v130654 z130655 => ?_)
                        obtain ⟨e130656, r130657⟩ := i_add (lo := 1) (hi := 939) z130655 r130637 r130653 rfl
                        refine r_put (K := 38) (ty := .int) S X130648 (Nat.le_of_ble_eq_true rfl) rfl lk12_21_10 (fun _ => ⟨_, rfl, Nat.le_of_ble_eq_true rfl, rfl⟩) (fun _ _ _ h => by cases h; exact ⟨rfl, rfl⟩) rfl rfl dX12_skip_160 (fun t130658 H lc M130659 X130660 => ?_)
                        have I130661 := Inv_mu I130649 M130659 (show Rg (kd 131) 4 v130654 from (R_of (lo := 0) (hi := 940) r130657 rfl))
                        have F130662 : Fr [(131, 4), (131, 11), (131, 12), (131, 13), (131, 14)] [331] τ t130658 := Fr_mu F130650 M130659 (by decide)
                        exact r_vret S hr hlk X130660 ⟨I130661, F130662, (by rw [M130659.1]; exact R_of r130657 rfl), (by rw [((M130659.2 131 11 (Or.inr (by decide))).trans ((M130647.2 131 11 (Or.inr (by decide))).trans M130642.1))]; exact R_of r130640 rfl), (by have h1_0 := congrArg Int32.toInt M130659.1; have h2_0 := congrArg Int32.toInt z2; omega), (by have h1_0 := congrArg Int32.toInt M130659.1; have h2_0 := congrArg Int32.toInt z2; have h1_1 := congrArg Int32.toInt ((M130659.2 131 11 (Or.inr (by decide))).trans ((M130647.2 131 11 (Or.inr (by decide))).trans M130642.1)); omega), (MT_sign (A := f223.toInt.toNat) (MB_eq hB (F130662 131 3 (by simp [fz])) (F130662 131 5 (by simp [fz])) (fun j => F130662 132 j (by simp [fz]))) ⟨by omega, by omega, x229, fun _ => by omega⟩ (by omega) (by omega) (by omega) (by omega) (by have q := congrArg Int32.toInt ((M130659.2 131 12 (Or.inr (by decide))).trans ((M130647.2 131 12 (Or.inr (by decide))).trans ((M130642.2 131 12 (Or.inr (by decide))).trans ((M285.2 131 12 (Or.inr (by decide))).trans M277.1)))); omega) (by have q := congrArg Int32.toInt M130659.1; omega) (by have q := congrArg Int32.toInt ((M130659.2 131 11 (Or.inr (by decide))).trans ((M130647.2 131 11 (Or.inr (by decide))).trans M130642.1)); omega) (by have q := congrArg Int32.toInt ((M130659.2 131 14 (Or.inr (by decide))).trans M130647.1); omega))⟩ dX12_skip_163
                      ·
                        refine r_iload_n S dX12_skip_122 rfl (lv_at hl 0 rfl) ?_
                        refine r_bipush S dX12_skip_123 (by decide) (fun v130663 z130664 => ?_)
                        have r130665 := R_eq z130664
                        refine r_icmp_eq (tgt := 140) S dX12_skip_125 (by decide) (fun c130666 => ?_) (fun c130666 => ?_)
                        ·
                          have r130667 : R (41) (41) v65553 := ⟨by omega, by omega⟩
                          have p130668 := q65556 (by omega)
                          have r130669 : R (0) (939) f223 := ((M285.2 131 4 (Or.inr (by decide))).trans ((M277.2 131 4 (Or.inr (by decide))).trans z225)) ▸ p130668
                          have r130670 : R (0) (938) f223 := ⟨by omega, by omega⟩
                          refine r_iconst S dX12_skip_140 (by decide) (fun v130671 z130672 => ?_)
                          have r130673 := R_eq z130672
                          refine r_goto (tgt := 145) S dX12_skip_141 (by decide) ?_
                          refine r_put (K := 38) (ty := .int) S X98098 (Nat.le_of_ble_eq_true rfl) rfl lk12_157_10 (fun _ => ⟨_, rfl, Nat.le_of_ble_eq_true rfl, rfl⟩) (fun _ _ _ h => by cases h; exact ⟨rfl, rfl⟩) rfl rfl dX12_skip_145 (fun t130674 H lc M130675 X130676 => ?_)
                          have I130677 := Inv_mu I287 M130675 (show Rg (kd 131) 11 v130671 from (R_of (lo := 0) (hi := 4) r130673 rfl))
                          have F130678 : Fr [(131, 4), (131, 11), (131, 12), (131, 13), (131, 14)] [331] τ t130674 := Fr_mu F288 M130675 (by decide)
                          refine r_aload_n S dX12_skip_148 rfl (lv_at hl 1 rfl) ?_
                          refine r_iload_n S dX12_skip_149 rfl (lv_at hl 0 rfl) ?_
                          refine r_put (K := 38) (ty := .int) S X130676 (Nat.le_of_ble_eq_true rfl) rfl lk12_167_10 (fun _ => ⟨_, rfl, Nat.le_of_ble_eq_true rfl, rfl⟩) (fun _ _ _ h => by cases h; exact ⟨rfl, rfl⟩) rfl rfl dX12_skip_150 (fun t130679 H lc M130680 X130681 => ?_)
                          have I130682 := Inv_mu I130677 M130680 (R_any v65553)
                          have F130683 : Fr [(131, 4), (131, 11), (131, 12), (131, 13), (131, 14)] [331] τ t130679 := Fr_mu F130678 M130680 (by decide)
                          refine r_aload_n S dX12_skip_153 rfl (lv_at hl 1 rfl) ?_
                          refine r_dup S dX12_skip_154 rfl ?_
                          refine r_geti (K := 38) S X130681 (Nat.le_of_ble_eq_true rfl) rfl lk12_21_10 (fun _ => ⟨_, rfl, rfl⟩) ((M130680.2 131 4 (Or.inr (by decide))).trans ((M130675.2 131 4 (Or.inr (by decide))).trans ((M285.2 131 4 (Or.inr (by decide))).trans ((M277.2 131 4 (Or.inr (by decide))).trans z225)))) dX12_skip_155 ?_
                          refine r_iconst S dX12_skip_158 (by decide) (fun v130684 z130685 => ?_)
                          have r130686 := R_eq z130685
                          refine r_iadd S dX12_skip_159 (fun v130687 z130688 => ?_)
                          obtain ⟨e130689, r130690⟩ := i_add (lo := 1) (hi := 939) z130688 r130670 r130686 rfl
                          refine r_put (K := 38) (ty := .int) S X130681 (Nat.le_of_ble_eq_true rfl) rfl lk12_21_10 (fun _ => ⟨_, rfl, Nat.le_of_ble_eq_true rfl, rfl⟩) (fun _ _ _ h => by cases h; exact ⟨rfl, rfl⟩) rfl rfl dX12_skip_160 (fun t130691 H lc M130692 X130693 => ?_)
                          have I130694 := Inv_mu I130682 M130692 (show Rg (kd 131) 4 v130687 from (R_of (lo := 0) (hi := 940) r130690 rfl))
                          have F130695 : Fr [(131, 4), (131, 11), (131, 12), (131, 13), (131, 14)] [331] τ t130691 := Fr_mu F130683 M130692 (by decide)
                          exact r_vret S hr hlk X130693 ⟨I130694, F130695, (by rw [M130692.1]; exact R_of r130690 rfl), (by rw [((M130692.2 131 11 (Or.inr (by decide))).trans ((M130680.2 131 11 (Or.inr (by decide))).trans M130675.1))]; exact R_of r130673 rfl), (by have h1_0 := congrArg Int32.toInt M130692.1; have h2_0 := congrArg Int32.toInt z2; omega), (by have h1_0 := congrArg Int32.toInt M130692.1; have h2_0 := congrArg Int32.toInt z2; have h1_1 := congrArg Int32.toInt ((M130692.2 131 11 (Or.inr (by decide))).trans ((M130680.2 131 11 (Or.inr (by decide))).trans M130675.1)); omega), (MT_sign (A := f223.toInt.toNat) (MB_eq hB (F130695 131 3 (by simp [fz])) (F130695 131 5 (by simp [fz])) (fun j => F130695 132 j (by simp [fz]))) ⟨by omega, by omega, x229, fun _ => by omega⟩ (by omega) (by omega) (by omega) (by omega) (by have q := congrArg Int32.toInt ((M130692.2 131 12 (Or.inr (by decide))).trans ((M130680.2 131 12 (Or.inr (by decide))).trans ((M130675.2 131 12 (Or.inr (by decide))).trans ((M285.2 131 12 (Or.inr (by decide))).trans M277.1)))); omega) (by have q := congrArg Int32.toInt M130692.1; omega) (by have q := congrArg Int32.toInt ((M130692.2 131 11 (Or.inr (by decide))).trans ((M130680.2 131 11 (Or.inr (by decide))).trans M130675.1)); omega) (by have q := congrArg Int32.toInt ((M130692.2 131 14 (Or.inr (by decide))).trans M130680.1); omega))⟩ dX12_skip_163
                        ·
                          refine r_iload_n S dX12_skip_128 rfl (lv_at hl 0 rfl) ?_
                          refine r_bipush S dX12_skip_129 (by decide) (fun v130696 z130697 => ?_)
                          have r130698 := R_eq z130697
                          refine r_icmp_lt (tgt := 144) S dX12_skip_131 (by decide) (fun c130699 => ?_) (fun c130699 => ?_)
                          ·
                            have r130700 : R (0) (59) v65553 := ⟨by omega, by omega⟩
                            have p130701 := q65556 (by omega)
                            have r130702 : R (0) (939) f223 := ((M285.2 131 4 (Or.inr (by decide))).trans ((M277.2 131 4 (Or.inr (by decide))).trans z225)) ▸ p130701
                            have r130703 : R (0) (938) f223 := ⟨by omega, by omega⟩
                            refine r_iconst S dX12_skip_144 (by decide) (fun v130704 z130705 => ?_)
                            have r130706 := R_eq z130705
                            refine r_put (K := 38) (ty := .int) S X98098 (Nat.le_of_ble_eq_true rfl) rfl lk12_157_10 (fun _ => ⟨_, rfl, Nat.le_of_ble_eq_true rfl, rfl⟩) (fun _ _ _ h => by cases h; exact ⟨rfl, rfl⟩) rfl rfl dX12_skip_145 (fun t130707 H lc M130708 X130709 => ?_)
                            have I130710 := Inv_mu I287 M130708 (show Rg (kd 131) 11 v130704 from (R_of (lo := 0) (hi := 4) r130706 rfl))
                            have F130711 : Fr [(131, 4), (131, 11), (131, 12), (131, 13), (131, 14)] [331] τ t130707 := Fr_mu F288 M130708 (by decide)
                            refine r_aload_n S dX12_skip_148 rfl (lv_at hl 1 rfl) ?_
                            refine r_iload_n S dX12_skip_149 rfl (lv_at hl 0 rfl) ?_
                            refine r_put (K := 38) (ty := .int) S X130709 (Nat.le_of_ble_eq_true rfl) rfl lk12_167_10 (fun _ => ⟨_, rfl, Nat.le_of_ble_eq_true rfl, rfl⟩) (fun _ _ _ h => by cases h; exact ⟨rfl, rfl⟩) rfl rfl dX12_skip_150 (fun t130712 H lc M130713 X130714 => ?_)
                            have I130715 := Inv_mu I130710 M130713 (R_any v65553)
                            have F130716 : Fr [(131, 4), (131, 11), (131, 12), (131, 13), (131, 14)] [331] τ t130712 := Fr_mu F130711 M130713 (by decide)
                            refine r_aload_n S dX12_skip_153 rfl (lv_at hl 1 rfl) ?_
                            refine r_dup S dX12_skip_154 rfl ?_
                            refine r_geti (K := 38) S X130714 (Nat.le_of_ble_eq_true rfl) rfl lk12_21_10 (fun _ => ⟨_, rfl, rfl⟩) ((M130713.2 131 4 (Or.inr (by decide))).trans ((M130708.2 131 4 (Or.inr (by decide))).trans ((M285.2 131 4 (Or.inr (by decide))).trans ((M277.2 131 4 (Or.inr (by decide))).trans z225)))) dX12_skip_155 ?_
                            refine r_iconst S dX12_skip_158 (by decide) (fun v130717 z130718 => ?_)
                            have r130719 := R_eq z130718
                            refine r_iadd S dX12_skip_159 (fun v130720 z130721 => ?_)
                            obtain ⟨e130722, r130723⟩ := i_add (lo := 1) (hi := 939) z130721 r130703 r130719 rfl
                            refine r_put (K := 38) (ty := .int) S X130714 (Nat.le_of_ble_eq_true rfl) rfl lk12_21_10 (fun _ => ⟨_, rfl, Nat.le_of_ble_eq_true rfl, rfl⟩) (fun _ _ _ h => by cases h; exact ⟨rfl, rfl⟩) rfl rfl dX12_skip_160 (fun t130724 H lc M130725 X130726 => ?_)
                            have I130727 := Inv_mu I130715 M130725 (show Rg (kd 131) 4 v130720 from (R_of (lo := 0) (hi := 940) r130723 rfl))
                            have F130728 : Fr [(131, 4), (131, 11), (131, 12), (131, 13), (131, 14)] [331] τ t130724 := Fr_mu F130716 M130725 (by decide)
                            exact r_vret S hr hlk X130726 ⟨I130727, F130728, (by rw [M130725.1]; exact R_of r130723 rfl), (by rw [((M130725.2 131 11 (Or.inr (by decide))).trans ((M130713.2 131 11 (Or.inr (by decide))).trans M130708.1))]; exact R_of r130706 rfl), (by have h1_0 := congrArg Int32.toInt M130725.1; have h2_0 := congrArg Int32.toInt z2; omega), (by have h1_0 := congrArg Int32.toInt M130725.1; have h2_0 := congrArg Int32.toInt z2; have h1_1 := congrArg Int32.toInt ((M130725.2 131 11 (Or.inr (by decide))).trans ((M130713.2 131 11 (Or.inr (by decide))).trans M130708.1)); omega), (MT_none (A := f223.toInt.toNat) (MB_eq hB (F130728 131 3 (by simp [fz])) (F130728 131 5 (by simp [fz])) (fun j => F130728 132 j (by simp [fz]))) ⟨by omega, by omega, x229, fun _ => by omega⟩ (by omega) (by omega) (by omega) (by omega) (by have q := congrArg Int32.toInt ((M130725.2 131 12 (Or.inr (by decide))).trans ((M130713.2 131 12 (Or.inr (by decide))).trans ((M130708.2 131 12 (Or.inr (by decide))).trans ((M285.2 131 12 (Or.inr (by decide))).trans M277.1)))); omega) (by have q := congrArg Int32.toInt ((M130725.2 131 11 (Or.inr (by decide))).trans ((M130713.2 131 11 (Or.inr (by decide))).trans M130708.1)); omega))⟩ dX12_skip_163
                          ·
                            have r130729 : R (60) (255) v65553 := ⟨by omega, by omega⟩
                            have p130730 := q65556 (by omega)
                            have r130731 : R (0) (939) f223 := ((M285.2 131 4 (Or.inr (by decide))).trans ((M277.2 131 4 (Or.inr (by decide))).trans z225)) ▸ p130730
                            have r130732 : R (0) (938) f223 := ⟨by omega, by omega⟩
                            refine r_iload_n S dX12_skip_134 rfl (lv_at hl 0 rfl) ?_
                            refine r_bipush S dX12_skip_135 (by decide) (fun v130733 z130734 => ?_)
                            have r130735 := R_eq z130734
                            refine r_icmp_gt (tgt := 144) S dX12_skip_137 (by decide) (fun c130736 => ?_) (fun c130736 => ?_)
                            ·
                              have r130737 : R (63) (255) v65553 := ⟨by omega, by omega⟩
                              have p130738 := q65556 (by omega)
                              have r130739 : R (0) (939) f223 := ((M285.2 131 4 (Or.inr (by decide))).trans ((M277.2 131 4 (Or.inr (by decide))).trans z225)) ▸ p130738
                              have r130740 : R (0) (938) f223 := ⟨by omega, by omega⟩
                              refine r_iconst S dX12_skip_144 (by decide) (fun v130741 z130742 => ?_)
                              have r130743 := R_eq z130742
                              refine r_put (K := 38) (ty := .int) S X98098 (Nat.le_of_ble_eq_true rfl) rfl lk12_157_10 (fun _ => ⟨_, rfl, Nat.le_of_ble_eq_true rfl, rfl⟩) (fun _ _ _ h => by cases h; exact ⟨rfl, rfl⟩) rfl rfl dX12_skip_145 (fun t130744 H lc M130745 X130746 => ?_)
                              have I130747 := Inv_mu I287 M130745 (show Rg (kd 131) 11 v130741 from (R_of (lo := 0) (hi := 4) r130743 rfl))
                              have F130748 : Fr [(131, 4), (131, 11), (131, 12), (131, 13), (131, 14)] [331] τ t130744 := Fr_mu F288 M130745 (by decide)
                              refine r_aload_n S dX12_skip_148 rfl (lv_at hl 1 rfl) ?_
                              refine r_iload_n S dX12_skip_149 rfl (lv_at hl 0 rfl) ?_
                              refine r_put (K := 38) (ty := .int) S X130746 (Nat.le_of_ble_eq_true rfl) rfl lk12_167_10 (fun _ => ⟨_, rfl, Nat.le_of_ble_eq_true rfl, rfl⟩) (fun _ _ _ h => by cases h; exact ⟨rfl, rfl⟩) rfl rfl dX12_skip_150 (fun t130749 H lc M130750 X130751 => ?_)
                              have I130752 := Inv_mu I130747 M130750 (R_any v65553)
                              have F130753 : Fr [(131, 4), (131, 11), (131, 12), (131, 13), (131, 14)] [331] τ t130749 := Fr_mu F130748 M130750 (by decide)
                              refine r_aload_n S dX12_skip_153 rfl (lv_at hl 1 rfl) ?_
                              refine r_dup S dX12_skip_154 rfl ?_
                              refine r_geti (K := 38) S X130751 (Nat.le_of_ble_eq_true rfl) rfl lk12_21_10 (fun _ => ⟨_, rfl, rfl⟩) ((M130750.2 131 4 (Or.inr (by decide))).trans ((M130745.2 131 4 (Or.inr (by decide))).trans ((M285.2 131 4 (Or.inr (by decide))).trans ((M277.2 131 4 (Or.inr (by decide))).trans z225)))) dX12_skip_155 ?_
                              refine r_iconst S dX12_skip_158 (by decide) (fun v130754 z130755 => ?_)
                              have r130756 := R_eq z130755
                              refine r_iadd S dX12_skip_159 (fun v130757 z130758 => ?_)
                              obtain ⟨e130759, r130760⟩ := i_add (lo := 1) (hi := 939) z130758 r130740 r130756 rfl
                              refine r_put (K := 38) (ty := .int) S X130751 (Nat.le_of_ble_eq_true rfl) rfl lk12_21_10 (fun _ => ⟨_, rfl, Nat.le_of_ble_eq_true rfl, rfl⟩) (fun _ _ _ h => by cases h; exact ⟨rfl, rfl⟩) rfl rfl dX12_skip_160 (fun t130761 H lc M130762 X130763 => ?_)
                              have I130764 := Inv_mu I130752 M130762 (show Rg (kd 131) 4 v130757 from (R_of (lo := 0) (hi := 940) r130760 rfl))
                              have F130765 : Fr [(131, 4), (131, 11), (131, 12), (131, 13), (131, 14)] [331] τ t130761 := Fr_mu F130753 M130762 (by decide)
                              exact r_vret S hr hlk X130763 ⟨I130764, F130765, (by rw [M130762.1]; exact R_of r130760 rfl), (by rw [((M130762.2 131 11 (Or.inr (by decide))).trans ((M130750.2 131 11 (Or.inr (by decide))).trans M130745.1))]; exact R_of r130743 rfl), (by have h1_0 := congrArg Int32.toInt M130762.1; have h2_0 := congrArg Int32.toInt z2; omega), (by have h1_0 := congrArg Int32.toInt M130762.1; have h2_0 := congrArg Int32.toInt z2; have h1_1 := congrArg Int32.toInt ((M130762.2 131 11 (Or.inr (by decide))).trans ((M130750.2 131 11 (Or.inr (by decide))).trans M130745.1)); omega), (MT_none (A := f223.toInt.toNat) (MB_eq hB (F130765 131 3 (by simp [fz])) (F130765 131 5 (by simp [fz])) (fun j => F130765 132 j (by simp [fz]))) ⟨by omega, by omega, x229, fun _ => by omega⟩ (by omega) (by omega) (by omega) (by omega) (by have q := congrArg Int32.toInt ((M130762.2 131 12 (Or.inr (by decide))).trans ((M130750.2 131 12 (Or.inr (by decide))).trans ((M130745.2 131 12 (Or.inr (by decide))).trans ((M285.2 131 12 (Or.inr (by decide))).trans M277.1)))); omega) (by have q := congrArg Int32.toInt ((M130762.2 131 11 (Or.inr (by decide))).trans ((M130750.2 131 11 (Or.inr (by decide))).trans M130745.1)); omega))⟩ dX12_skip_163
                            ·
                              have r130766 : R (60) (62) v65553 := ⟨by omega, by omega⟩
                              have p130767 := q65556 (by omega)
                              have r130768 : R (0) (939) f223 := ((M285.2 131 4 (Or.inr (by decide))).trans ((M277.2 131 4 (Or.inr (by decide))).trans z225)) ▸ p130767
                              have r130769 : R (0) (938) f223 := ⟨by omega, by omega⟩
                              refine r_iconst S dX12_skip_140 (by decide) (fun v130770 z130771 => ?_)
                              have r130772 := R_eq z130771
                              refine r_goto (tgt := 145) S dX12_skip_141 (by decide) ?_
                              refine r_put (K := 38) (ty := .int) S X98098 (Nat.le_of_ble_eq_true rfl) rfl lk12_157_10 (fun _ => ⟨_, rfl, Nat.le_of_ble_eq_true rfl, rfl⟩) (fun _ _ _ h => by cases h; exact ⟨rfl, rfl⟩) rfl rfl dX12_skip_145 (fun t130773 H lc M130774 X130775 => ?_)
                              have I130776 := Inv_mu I287 M130774 (show Rg (kd 131) 11 v130770 from (R_of (lo := 0) (hi := 4) r130772 rfl))
                              have F130777 : Fr [(131, 4), (131, 11), (131, 12), (131, 13), (131, 14)] [331] τ t130773 := Fr_mu F288 M130774 (by decide)
                              refine r_aload_n S dX12_skip_148 rfl (lv_at hl 1 rfl) ?_
                              refine r_iload_n S dX12_skip_149 rfl (lv_at hl 0 rfl) ?_
                              refine r_put (K := 38) (ty := .int) S X130775 (Nat.le_of_ble_eq_true rfl) rfl lk12_167_10 (fun _ => ⟨_, rfl, Nat.le_of_ble_eq_true rfl, rfl⟩) (fun _ _ _ h => by cases h; exact ⟨rfl, rfl⟩) rfl rfl dX12_skip_150 (fun t130778 H lc M130779 X130780 => ?_)
                              have I130781 := Inv_mu I130776 M130779 (R_any v65553)
                              have F130782 : Fr [(131, 4), (131, 11), (131, 12), (131, 13), (131, 14)] [331] τ t130778 := Fr_mu F130777 M130779 (by decide)
                              refine r_aload_n S dX12_skip_153 rfl (lv_at hl 1 rfl) ?_
                              refine r_dup S dX12_skip_154 rfl ?_
                              refine r_geti (K := 38) S X130780 (Nat.le_of_ble_eq_true rfl) rfl lk12_21_10 (fun _ => ⟨_, rfl, rfl⟩) ((M130779.2 131 4 (Or.inr (by decide))).trans ((M130774.2 131 4 (Or.inr (by decide))).trans ((M285.2 131 4 (Or.inr (by decide))).trans ((M277.2 131 4 (Or.inr (by decide))).trans z225)))) dX12_skip_155 ?_
                              refine r_iconst S dX12_skip_158 (by decide) (fun v130783 z130784 => ?_)
                              have r130785 := R_eq z130784
                              refine r_iadd S dX12_skip_159 (fun v130786 z130787 => ?_)
                              obtain ⟨e130788, r130789⟩ := i_add (lo := 1) (hi := 939) z130787 r130769 r130785 rfl
                              refine r_put (K := 38) (ty := .int) S X130780 (Nat.le_of_ble_eq_true rfl) rfl lk12_21_10 (fun _ => ⟨_, rfl, Nat.le_of_ble_eq_true rfl, rfl⟩) (fun _ _ _ h => by cases h; exact ⟨rfl, rfl⟩) rfl rfl dX12_skip_160 (fun t130790 H lc M130791 X130792 => ?_)
                              have I130793 := Inv_mu I130781 M130791 (show Rg (kd 131) 4 v130786 from (R_of (lo := 0) (hi := 940) r130789 rfl))
                              have F130794 : Fr [(131, 4), (131, 11), (131, 12), (131, 13), (131, 14)] [331] τ t130790 := Fr_mu F130782 M130791 (by decide)
                              exact r_vret S hr hlk X130792 ⟨I130793, F130794, (by rw [M130791.1]; exact R_of r130789 rfl), (by rw [((M130791.2 131 11 (Or.inr (by decide))).trans ((M130779.2 131 11 (Or.inr (by decide))).trans M130774.1))]; exact R_of r130772 rfl), (by have h1_0 := congrArg Int32.toInt M130791.1; have h2_0 := congrArg Int32.toInt z2; omega), (by have h1_0 := congrArg Int32.toInt M130791.1; have h2_0 := congrArg Int32.toInt z2; have h1_1 := congrArg Int32.toInt ((M130791.2 131 11 (Or.inr (by decide))).trans ((M130779.2 131 11 (Or.inr (by decide))).trans M130774.1)); omega), (MT_sign (A := f223.toInt.toNat) (MB_eq hB (F130794 131 3 (by simp [fz])) (F130794 131 5 (by simp [fz])) (fun j => F130794 132 j (by simp [fz]))) ⟨by omega, by omega, x229, fun _ => by omega⟩ (by omega) (by omega) (by omega) (by omega) (by have q := congrArg Int32.toInt ((M130791.2 131 12 (Or.inr (by decide))).trans ((M130779.2 131 12 (Or.inr (by decide))).trans ((M130774.2 131 12 (Or.inr (by decide))).trans ((M285.2 131 12 (Or.inr (by decide))).trans M277.1)))); omega) (by have q := congrArg Int32.toInt M130791.1; omega) (by have q := congrArg Int32.toInt ((M130791.2 131 11 (Or.inr (by decide))).trans ((M130779.2 131 11 (Or.inr (by decide))).trans M130774.1)); omega) (by have q := congrArg Int32.toInt ((M130791.2 131 14 (Or.inr (by decide))).trans M130779.1); omega))⟩ dX12_skip_163
              ·
                have r130795 : R (-1) (-1) v65553 := ⟨by omega, by omega⟩
                have e130796 := PK_out pk65558 (by omega)
                refine r_aload_n S dX12_skip_89 rfl (lv_at hl 1 rfl) ?_
                refine r_iconst S dX12_skip_90 (by decide) (fun v130797 z130798 => ?_)
                have r130799 := R_eq z130798
                refine r_put (K := 38) (ty := .int) S X65551 (Nat.le_of_ble_eq_true rfl) rfl lk12_157_10 (fun _ => ⟨_, rfl, Nat.le_of_ble_eq_true rfl, rfl⟩) (fun _ _ _ h => by cases h; exact ⟨rfl, rfl⟩) rfl rfl dX12_skip_91 (fun t130800 H lc M130801 X130802 => ?_)
                have I130803 := Inv_mu I287 M130801 (show Rg (kd 131) 11 v130797 from (R_of (lo := 0) (hi := 4) r130799 rfl))
                have F130804 : Fr [(131, 4), (131, 11), (131, 12), (131, 13), (131, 14)] [331] τ t130800 := Fr_mu F288 M130801 (by decide)
                exact r_vret S hr hlk X130802 ⟨I130803, F130804, (by rw [((M130801.2 131 4 (Or.inr (by decide))).trans ((M285.2 131 4 (Or.inr (by decide))).trans ((M277.2 131 4 (Or.inr (by decide))).trans z225)))]; exact R_of r65548 rfl), (by rw [M130801.1]; exact R_of r130799 rfl), (by have h1_0 := congrArg Int32.toInt ((M130801.2 131 4 (Or.inr (by decide))).trans ((M285.2 131 4 (Or.inr (by decide))).trans ((M277.2 131 4 (Or.inr (by decide))).trans z225))); have h2_0 := congrArg Int32.toInt z2; omega), (by have h1_0 := congrArg Int32.toInt ((M130801.2 131 4 (Or.inr (by decide))).trans ((M285.2 131 4 (Or.inr (by decide))).trans ((M277.2 131 4 (Or.inr (by decide))).trans z225))); have h2_0 := congrArg Int32.toInt z2; have h1_1 := congrArg Int32.toInt M130801.1; omega), (MT_stop (MB_eq hB (F130804 131 3 (by simp [fz])) (F130804 131 5 (by simp [fz])) (fun j => F130804 132 j (by simp [fz]))) (by omega) (by omega) (fun k h1 h2 => x229 k h1 (by omega)) (by have q := congrArg Int32.toInt ((M130801.2 131 12 (Or.inr (by decide))).trans ((M285.2 131 12 (Or.inr (by decide))).trans M277.1)); omega) (by have q := congrArg Int32.toInt M130801.1; omega))⟩ dX12_skip_94
            ·
              refine r_aload_n S dX12_skip_66 rfl (lv_at hl 0 rfl) ?_
              refine r_aload_n S dX12_skip_67 rfl (lv_at hl 0 rfl) ?_
              refine r_geti (K := 38) S X286 (Nat.le_of_ble_eq_true rfl) rfl lk12_24_10 (fun _ => ⟨_, rfl, rfl⟩) ((M285.2 131 5 (Or.inr (by decide))).trans ((M277.2 131 5 (Or.inr (by decide))).trans z227)) dX12_skip_68 ?_
              refine r_put (K := 38) (ty := .int) S X286 (Nat.le_of_ble_eq_true rfl) rfl lk12_151_10 (fun _ => ⟨_, rfl, Nat.le_of_ble_eq_true rfl, rfl⟩) (fun _ _ _ h => by cases h; exact ⟨rfl, rfl⟩) rfl rfl dX12_skip_71 (fun t130805 H lc M130806 X130807 => ?_)
              have I130808 := Inv_mu I287 M130806 (show Rg (kd 131) 12 v7 from (R_of (lo := 0) (hi := 940) r65545 rfl))
              have F130809 : Fr [(131, 4), (131, 11), (131, 12), (131, 13), (131, 14)] [331] τ t130805 := Fr_mu F288 M130806 (by decide)
              refine r_aload_n S dX12_skip_74 rfl (lv_at hl 0 rfl) ?_
              refine r_iconst S dX12_skip_75 (by decide) (fun v130810 z130811 => ?_)
              have r130812 := R_eq z130811
              refine r_put (K := 38) (ty := .int) S X130807 (Nat.le_of_ble_eq_true rfl) rfl lk12_157_10 (fun _ => ⟨_, rfl, Nat.le_of_ble_eq_true rfl, rfl⟩) (fun _ _ _ h => by cases h; exact ⟨rfl, rfl⟩) rfl rfl dX12_skip_76 (fun t130813 H lc M130814 X130815 => ?_)
              have I130816 := Inv_mu I130808 M130814 (show Rg (kd 131) 11 v130810 from (R_of (lo := 0) (hi := 4) r130812 rfl))
              have F130817 : Fr [(131, 4), (131, 11), (131, 12), (131, 13), (131, 14)] [331] τ t130813 := Fr_mu F130809 M130814 (by decide)
              exact r_vret S hr hlk X130815 ⟨I130816, F130817, (by rw [((M130814.2 131 4 (Or.inr (by decide))).trans ((M130806.2 131 4 (Or.inr (by decide))).trans ((M285.2 131 4 (Or.inr (by decide))).trans ((M277.2 131 4 (Or.inr (by decide))).trans z225))))]; exact R_of r224 rfl), (by rw [M130814.1]; exact R_of r130812 rfl), (by have h1_0 := congrArg Int32.toInt ((M130814.2 131 4 (Or.inr (by decide))).trans ((M130806.2 131 4 (Or.inr (by decide))).trans ((M285.2 131 4 (Or.inr (by decide))).trans ((M277.2 131 4 (Or.inr (by decide))).trans z225)))); have h2_0 := congrArg Int32.toInt z2; omega), (by have h1_0 := congrArg Int32.toInt ((M130814.2 131 4 (Or.inr (by decide))).trans ((M130806.2 131 4 (Or.inr (by decide))).trans ((M285.2 131 4 (Or.inr (by decide))).trans ((M277.2 131 4 (Or.inr (by decide))).trans z225)))); have h2_0 := congrArg Int32.toInt z2; have h1_1 := congrArg Int32.toInt M130814.1; omega), (MT_over (q := f223) (MB_eq hB (F130817 131 3 (by simp [fz])) (F130817 131 5 (by simp [fz])) (fun j => F130817 132 j (by simp [fz]))) (by omega) (by omega) x229 (by omega) (by have q := congrArg Int32.toInt ((M130814.2 131 12 (Or.inr (by decide))).trans M130806.1); omega) (by have q := congrArg Int32.toInt M130814.1; omega))⟩ dX12_skip_79
        ·
          have r130818 : R (10) (10) v266 := ⟨by omega, by omega⟩
          have p130819 := q269 (by omega)
          have r130820 : R (0) (939) f223 := z225 ▸ p130819
          have r130821 : R (0) (939) f223 := ⟨by omega, by omega⟩
          obtain ⟨e130822, e130823⟩ := PK_in pk271 (by omega)
          refine r_aload_n S dX12_skip_18 rfl (lv_at hl 0 rfl) ?_
          refine r_dup S dX12_skip_19 rfl ?_
          refine r_geti (K := 38) S X264 (Nat.le_of_ble_eq_true rfl) rfl lk12_21_10 (fun _ => ⟨_, rfl, rfl⟩) z225 dX12_skip_20 ?_
          refine r_iconst S dX12_skip_23 (by decide) (fun v130824 z130825 => ?_)
          have r130826 := R_eq z130825
          refine r_iadd S dX12_skip_24 (fun v130827 z130828 => ?_)
          obtain ⟨e130829, r130830⟩ := i_add (lo := 1) (hi := 940) z130828 r130821 r130826 rfl
          refine r_put (K := 38) (ty := .int) S X264 (Nat.le_of_ble_eq_true rfl) rfl lk12_21_10 (fun _ => ⟨_, rfl, Nat.le_of_ble_eq_true rfl, rfl⟩) (fun _ _ _ h => by cases h; exact ⟨rfl, rfl⟩) rfl rfl dX12_skip_25 (fun t130831 H lc M130832 X130833 => ?_)
          have I130834 := Inv_mu I220 M130832 (show Rg (kd 131) 4 v130827 from (R_of (lo := 0) (hi := 940) r130830 rfl))
          have F130835 : Fr [(131, 4), (131, 11), (131, 12), (131, 13), (131, 14)] [331] τ t130831 := Fr_mu F221 M130832 (by decide)
          refine r_goto (tgt := 0) S dX12_skip_28 (by decide) ?_
          exact ih231 t130831 _ _ _ v130827 X130833 I130834 F130835 M130832.1 ⟨by omega, by omega⟩ ((M130832.2 131 3 (Or.inr (by decide))).trans z226) ((M130832.2 131 5 (Or.inr (by decide))).trans z227) (spc_up (i := f223) x229 e130823.symm (by omega) (by omega) (by omega)) ⟨by omega, by omega⟩ (lv_sub hl [0] rfl) (by omega)
  exact L228 _ τ _ _ _ v1 X hI Fr_rfl z2 ⟨by omega, by omega⟩ z5 z8 (fun k h1 h2 => by exfalso; omega) ⟨by omega, by omega⟩ (lv_sub hl [0] rfl) (Nat.lt_succ_self _)
