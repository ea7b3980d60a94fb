set_option maxHeartbeats 8000000 in
set_option maxRecDepth 100000 in
theorem lc_feed {p : Program} {l : Launch} {e : Env} {s : State} {m : MethodId} {below : List Frame} {meth : Method} {c : Code} {b L : Nat} {xs : Nat → Int32} {G : Gx} {Q : State → Prop} (hst : l.stackTraces = false) (S : Sx G p m c code 7 s #[Value.ref b] RL) (hZ : Zs G s) (hX : va_X b L xs s s.heap) (hbl : b < s.heap.size) (hbA : ¬ G.2.2.2.2 b) (hL : L ≤ 3072) {H : Heap} {lc : List Loc} {ls : Array Slot} {τ : Tau} {cells slots : Nat} {i : Int32} (hi : 0 ≤ i.toInt ∧ i.toInt + 6 ≤ L) (hR : cells + 1 ≤ 601024 ∧ slots + 6 ≤ 7293034) (hJ : JJ τ) (hlen : ((τ 1 1).toInt = (τ 131 2).toInt ∧ (τ 0 11).toInt = (τ 152 0).toInt + 2 * (τ 152 1).toInt) ∧ ZZ τ) (X : Xd G s H lc τ) (hl : lv_has ls 7 [(0, .ref b), (1, .ref (G.2.2.2.1 0)), (2, .ref (G.2.2.2.1 131)), (3, .ref (G.2.2.2.1 153)), (4, .int i)]) (kk : ∀ (H : Heap) (lc : List Loc) (ls : Array Slot) (τ : Tau), JJ τ → (((τ 1 1).toInt = (τ 131 2).toInt ∧ (τ 0 11).toInt = (τ 152 0).toInt + 2 * (τ 152 1).toInt) ∧ ZZ τ) → Xd G s H lc τ → lv_has ls 7 [(0, .ref b), (1, .ref (G.2.2.2.1 0)), (2, .ref (G.2.2.2.1 131)), (3, .ref (G.2.2.2.1 153)), (4, .int i)] → W p l e room_1 s m #[Value.ref b] below meth c H lc (cells + 1) (slots + 6) Q (F0 m 1291 ls [])) : W p l e room_1 s m #[Value.ref b] below meth c H lc cells slots Q (F0 m 216 ls []) := by
  obtain ⟨hA1, hA2⟩ := hlen.1
  have hZZ := hlen.2
  have rl : R 0 940 (τ 1 1) := rd (K := 1) hJ.1 rfl rfl
  have ri : R 0 3072 i := ⟨by omega, by omega⟩
  refine r_aload_n S dL_law_216 rfl (lv_at hl 1 rfl) ?_
  refine r_aload_n S dL_law_217 rfl (lv_at hl 0 rfl) ?_
  refine r_iload S dL_law_218 (lv_at hl 4 rfl) ?_
  refine r_iconst S dL_law_220 (by decide) (fun v1 z2 => ?_)
  refine r_iadd S dL_law_221 (fun v3 z4 => ?_)
  obtain ⟨e5, r6⟩ := i_add (lo := 1) (hi := 3073) z4 ri (R_eq z2) rfl
  refine va_sld S.1.1 S.1.2.1 hX hbl hbA X.2 (vp_in_iff.mpr ⟨by omega, by omega⟩) dL_law_222 ?_
  refine lv_topi (fun y7 z8 => ?_)
  refine r_aload_n S dL_law_223 rfl (lv_at hl 0 rfl) ?_
  refine r_iload S dL_law_224 (lv_at hl 4 rfl) ?_
  refine r_iconst S dL_law_226 (by decide) (fun v9 z10 => ?_)
  refine r_iadd S dL_law_227 (fun v11 z12 => ?_)
  obtain ⟨e13, r14⟩ := i_add (lo := 2) (hi := 3074) z12 ri (R_eq z10) rfl
  refine va_sld S.1.1 S.1.2.1 hX hbl hbA X.2 (vp_in_iff.mpr ⟨by omega, by omega⟩) dL_law_228 ?_
  refine lv_topi (fun y15 z16 => ?_)
  refine r_aload_n S dL_law_229 rfl (lv_at hl 0 rfl) ?_
  refine r_iload S dL_law_230 (lv_at hl 4 rfl) ?_
  refine r_iconst S dL_law_232 (by decide) (fun v17 z18 => ?_)
  refine r_iadd S dL_law_233 (fun v19 z20 => ?_)
  obtain ⟨e21, r22⟩ := i_add (lo := 3) (hi := 3075) z20 ri (R_eq z18) rfl
  refine va_sld S.1.1 S.1.2.1 hX hbl hbA X.2 (vp_in_iff.mpr ⟨by omega, by omega⟩) dL_law_234 ?_
  refine lv_topi (fun y23 z24 => ?_)
  refine r_aload_n S dL_law_235 rfl (lv_at hl 0 rfl) ?_
  refine r_iload S dL_law_236 (lv_at hl 4 rfl) ?_
  refine r_iconst S dL_law_238 (by decide) (fun v25 z26 => ?_)
  refine r_iadd S dL_law_239 (fun v27 z28 => ?_)
  obtain ⟨e29, r30⟩ := i_add (lo := 4) (hi := 3076) z28 ri (R_eq z26) rfl
  refine va_sld S.1.1 S.1.2.1 hX hbl hbA X.2 (vp_in_iff.mpr ⟨by omega, by omega⟩) dL_law_240 ?_
  refine lv_topi (fun y31 z32 => ?_)
  refine r_aload_n S dL_law_241 rfl (lv_at hl 0 rfl) ?_
  refine r_iload S dL_law_242 (lv_at hl 4 rfl) ?_
  refine r_iconst S dL_law_244 (by decide) (fun v33 z34 => ?_)
  refine r_iadd S dL_law_245 (fun v35 z36 => ?_)
  obtain ⟨e37, r38⟩ := i_add (lo := 5) (hi := 3077) z36 ri (R_eq z34) rfl
  refine va_sld S.1.1 S.1.2.1 hX hbl hbA X.2 (vp_in_iff.mpr ⟨by omega, by omega⟩) dL_law_246 ?_
  refine lv_topi (fun y39 z40 => ?_)
  refine r_ki (q_V (As := [.int y7, .int y15, .int y23, .int y31, .int y39]) (rest := []) (K := 0) (ci := 9) S X (c_X11_feed_q l G τ hJ.1 y7 y15 y23 y31 y39 (R_any _) (R_any _) (R_any _) (R_any _) (R_any _)  ) ckL_32 (Nat.le_of_ble_eq_true rfl) rfl (fun _ => ⟨_, rfl⟩) ⟨_, _, rfl⟩ ⟨Nat.le_of_ble_eq_true rfl, Nat.le_of_ble_eq_true rfl⟩ rfl hl.1 rfl (Nat.le_of_ble_eq_true rfl) dL_law_247 ⟨by show _ ≤ 601024; omega, by show _ ≤ 7293034; omega⟩) X (fun r41 t42 H lc q43 X => ?_)
  have k53 := q43
  unfold po_X11_feed_q at k53
  obtain ⟨p47, p48, p49, p50, p51, p52⟩ := k53
  obtain ⟨k54, k55, k56⟩ := k_X11_feed_q q43
  obtain ⟨hJ, e46, n44, n45⟩ := j_X11_feed_q hJ q43
  have h57 := congrArg Int32.toInt e46
  refine r_pop S dL_law_250 rfl ?_
  refine r_aload_n S dL_law_251 rfl (lv_at hl 2 rfl) ?_
  refine r_aload_n S dL_law_252 rfl (lv_at hl 0 rfl) ?_
  refine r_iload S dL_law_253 (lv_at hl 4 rfl) ?_
  refine r_iconst S dL_law_255 (by decide) (fun v58 z59 => ?_)
  refine r_iadd S dL_law_256 (fun v60 z61 => ?_)
  obtain ⟨e62, r63⟩ := i_add (lo := 1) (hi := 3073) z61 ri (R_eq z59) rfl
  refine va_sld S.1.1 S.1.2.1 hX hbl hbA X.2 (vp_in_iff.mpr ⟨by omega, by omega⟩) dL_law_257 ?_
  refine lv_topi (fun y64 z65 => ?_)
  have h66 : y7 = y64 := (show y64 = y7 by rw [z65, z8, show v60 = v3 from Int32.toInt_inj.mp (by omega)]).symm
  subst h66
  refine r_aload_n S dL_law_258 rfl (lv_at hl 0 rfl) ?_
  refine r_iload S dL_law_259 (lv_at hl 4 rfl) ?_
  refine r_iconst S dL_law_261 (by decide) (fun v67 z68 => ?_)
  refine r_iadd S dL_law_262 (fun v69 z70 => ?_)
  obtain ⟨e71, r72⟩ := i_add (lo := 2) (hi := 3074) z70 ri (R_eq z68) rfl
  refine va_sld S.1.1 S.1.2.1 hX hbl hbA X.2 (vp_in_iff.mpr ⟨by omega, by omega⟩) dL_law_263 ?_
  refine lv_topi (fun y73 z74 => ?_)
  have h75 : y15 = y73 := (show y73 = y15 by rw [z74, z16, show v69 = v11 from Int32.toInt_inj.mp (by omega)]).symm
  subst h75
  refine r_aload_n S dL_law_264 rfl (lv_at hl 0 rfl) ?_
  refine r_iload S dL_law_265 (lv_at hl 4 rfl) ?_
  refine r_iconst S dL_law_267 (by decide) (fun v76 z77 => ?_)
  refine r_iadd S dL_law_268 (fun v78 z79 => ?_)
  obtain ⟨e80, r81⟩ := i_add (lo := 3) (hi := 3075) z79 ri (R_eq z77) rfl
  refine va_sld S.1.1 S.1.2.1 hX hbl hbA X.2 (vp_in_iff.mpr ⟨by omega, by omega⟩) dL_law_269 ?_
  refine lv_topi (fun y82 z83 => ?_)
  have h84 : y23 = y82 := (show y82 = y23 by rw [z83, z24, show v78 = v19 from Int32.toInt_inj.mp (by omega)]).symm
  subst h84
  refine r_aload_n S dL_law_270 rfl (lv_at hl 0 rfl) ?_
  refine r_iload S dL_law_271 (lv_at hl 4 rfl) ?_
  refine r_iconst S dL_law_273 (by decide) (fun v85 z86 => ?_)
  refine r_iadd S dL_law_274 (fun v87 z88 => ?_)
  obtain ⟨e89, r90⟩ := i_add (lo := 4) (hi := 3076) z88 ri (R_eq z86) rfl
  refine va_sld S.1.1 S.1.2.1 hX hbl hbA X.2 (vp_in_iff.mpr ⟨by omega, by omega⟩) dL_law_275 ?_
  refine lv_topi (fun y91 z92 => ?_)
  have h93 : y31 = y91 := (show y91 = y31 by rw [z92, z32, show v87 = v27 from Int32.toInt_inj.mp (by omega)]).symm
  subst h93
  refine r_aload_n S dL_law_276 rfl (lv_at hl 0 rfl) ?_
  refine r_iload S dL_law_277 (lv_at hl 4 rfl) ?_
  refine r_iconst S dL_law_279 (by decide) (fun v94 z95 => ?_)
  refine r_iadd S dL_law_280 (fun v96 z97 => ?_)
  obtain ⟨e98, r99⟩ := i_add (lo := 5) (hi := 3077) z97 ri (R_eq z95) rfl
  refine va_sld S.1.1 S.1.2.1 hX hbl hbA X.2 (vp_in_iff.mpr ⟨by omega, by omega⟩) dL_law_281 ?_
  refine lv_topi (fun y100 z101 => ?_)
  have h102 : y39 = y100 := (show y100 = y39 by rw [z101, z40, show v96 = v35 from Int32.toInt_inj.mp (by omega)]).symm
  subst h102
  refine r_ki (q_V (As := [.int y7, .int y15, .int y23, .int y31, .int y39]) (rest := []) (K := 38) (ci := 10) S X (c_X12_feed_q l G t42 hJ.1 y7 y15 y23 y31 y39 (R_any _) (R_any _) (R_any _) (R_any _) (R_any _)  ) ckL_36 (Nat.le_of_ble_eq_true rfl) rfl (fun _ => ⟨_, rfl⟩) ⟨_, _, rfl⟩ ⟨Nat.le_of_ble_eq_true rfl, Nat.le_of_ble_eq_true rfl⟩ rfl hl.1 rfl (Nat.le_of_ble_eq_true rfl) dL_law_282 ⟨by show _ ≤ 601024; omega, by show _ ≤ 7293034; omega⟩) X (fun r103 t104 H lc q105 X => ?_)
  have k115 := q105
  unfold po_X12_feed_q at k115
  obtain ⟨p109, p110, p111, p112, p113, p114⟩ := k115
  obtain ⟨k116, k117, k118⟩ := k_X12_feed_q q105
  obtain ⟨hJ, e108, n106, n107⟩ := j_X12_feed_q hJ q105
  have h119 := congrArg Int32.toInt e108
  refine r_pop S dL_law_285 rfl ?_
  refine r_goto (tgt := 1291) S dL_law_286 (by decide) ?_
  refine w_widen (k := cells + 1) (n := slots + 6) (by omega) (by omega) ?_
  exact kk H lc ls t104 hJ ⟨⟨by omega, by omega⟩, ZZ_feed hZZ (zk_X11_feed_q q43) (zk_X12_feed_q q105) hJ.1 (by omega) (by omega) (by omega) (by omega) (fun h => ⟨p51 h, by omega⟩) p113 (fun h => ⟨p52 h, by omega⟩) p114⟩ X (lv_sub hl [0, 1, 2, 3, 4] rfl)
set_option maxHeartbeats 8000000 in
set_option maxRecDepth 100000 in
theorem lc_end {p : Program} {l : Launch} {e : Env} {s : State} {m : MethodId} {below : List Frame} {meth : Method} {c : Code} {b L : Nat} {xs : Nat → Int32} {G : Gx} {Q : State → Prop} (hst : l.stackTraces = false) (S : Sx G p m c code 7 s #[Value.ref b] RL) (hZ : Zs G s) (hX : va_X b L xs s s.heap) (hbl : b < s.heap.size) (hbA : ¬ G.2.2.2.2 b) (hL : L ≤ 3072) {H : Heap} {lc : List Loc} {ls : Array Slot} {τ : Tau} {cells slots : Nat} {i : Int32} (hi : 0 ≤ i.toInt ∧ i.toInt + 6 ≤ L) (hR : cells + 1 ≤ 601024 ∧ slots + 6 ≤ 7293034) (hJ : JJ τ) (hlen : ((τ 1 1).toInt = (τ 131 2).toInt ∧ (τ 0 11).toInt = (τ 152 0).toInt + 2 * (τ 152 1).toInt) ∧ ZZ τ) (X : Xd G s H lc τ) (hl : lv_has ls 7 [(0, .ref b), (1, .ref (G.2.2.2.1 0)), (2, .ref (G.2.2.2.1 131)), (3, .ref (G.2.2.2.1 153)), (4, .int i)]) (kk : ∀ (H : Heap) (lc : List Loc) (ls : Array Slot) (τ : Tau), JJ τ → (((τ 1 1).toInt = (τ 131 2).toInt ∧ (τ 0 11).toInt = (τ 152 0).toInt + 2 * (τ 152 1).toInt) ∧ ZZ τ) → Xd G s H lc τ → lv_has ls 7 [(0, .ref b), (1, .ref (G.2.2.2.1 0)), (2, .ref (G.2.2.2.1 131)), (3, .ref (G.2.2.2.1 153)), (4, .int i)] → W p l e room_1 s m #[Value.ref b] below meth c H lc (cells + 1) (slots + 6) Q (F0 m 1291 ls [])) : W p l e room_1 s m #[Value.ref b] below meth c H lc cells slots Q (F0 m 289 ls []) := by
  obtain ⟨hA1, hA2⟩ := hlen.1
  have hZZ := hlen.2
  have rl : R 0 940 (τ 1 1) := rd (K := 1) hJ.1 rfl rfl
  have ri : R 0 3072 i := ⟨by omega, by omega⟩
  refine r_aload_n S dL_law_289 rfl (lv_at hl 1 rfl) ?_
  refine r_aload_n S dL_law_290 rfl (lv_at hl 0 rfl) ?_
  refine r_iload S dL_law_291 (lv_at hl 4 rfl) ?_
  refine r_iconst S dL_law_293 (by decide) (fun v1 z2 => ?_)
  refine r_iadd S dL_law_294 (fun v3 z4 => ?_)
  obtain ⟨e5, r6⟩ := i_add (lo := 1) (hi := 3073) z4 ri (R_eq z2) rfl
  refine va_sld S.1.1 S.1.2.1 hX hbl hbA X.2 (vp_in_iff.mpr ⟨by omega, by omega⟩) dL_law_295 ?_
  refine lv_topi (fun y7 z8 => ?_)
  refine r_ki (q_V (As := [.int y7]) (rest := []) (K := 0) (ci := 9) S X (c_X11_end l G τ hJ.1 y7 (R_any _)  ) ckL_37 (Nat.le_of_ble_eq_true rfl) rfl (fun _ => ⟨_, rfl⟩) ⟨_, _, rfl⟩ ⟨Nat.le_of_ble_eq_true rfl, Nat.le_of_ble_eq_true rfl⟩ rfl hl.1 rfl (Nat.le_of_ble_eq_true rfl) dL_law_296 ⟨by show _ ≤ 601024; omega, by show _ ≤ 7293034; omega⟩) X (fun r9 t10 H lc q11 X => ?_)
  have hb0 : R 0 1 r9 := by unfold po_X11_end at q11; exact q11.2.2.1
  obtain ⟨k15, k16, k17⟩ := k_X11_end q11
  obtain ⟨hJ, e14, n12, n13⟩ := j_X11_end hJ q11
  have h18 := congrArg Int32.toInt e14
  refine r_pop S dL_law_299 rfl ?_
  refine r_aload_n S dL_law_300 rfl (lv_at hl 2 rfl) ?_
  refine r_aload_n S dL_law_301 rfl (lv_at hl 0 rfl) ?_
  refine r_iload S dL_law_302 (lv_at hl 4 rfl) ?_
  refine r_iconst S dL_law_304 (by decide) (fun v19 z20 => ?_)
  refine r_iadd S dL_law_305 (fun v21 z22 => ?_)
  obtain ⟨e23, r24⟩ := i_add (lo := 1) (hi := 3073) z22 ri (R_eq z20) rfl
  refine va_sld S.1.1 S.1.2.1 hX hbl hbA X.2 (vp_in_iff.mpr ⟨by omega, by omega⟩) dL_law_306 ?_
  refine lv_topi (fun y25 z26 => ?_)
  have h27 : y7 = y25 := (show y25 = y7 by rw [z26, z8, show v21 = v3 from Int32.toInt_inj.mp (by omega)]).symm
  subst h27
  refine r_ki (q_V (As := [.int y7]) (rest := []) (K := 38) (ci := 10) S X (c_X12_end l G t10 hJ.1 y7 (R_any _)  ) ckL_41 (Nat.le_of_ble_eq_true rfl) rfl (fun _ => ⟨_, rfl⟩) ⟨_, _, rfl⟩ ⟨Nat.le_of_ble_eq_true rfl, Nat.le_of_ble_eq_true rfl⟩ rfl hl.1 rfl (Nat.le_of_ble_eq_true rfl) dL_law_307 ⟨by show _ ≤ 601024; omega, by show _ ≤ 7293034; omega⟩) X (fun r28 t29 H lc q30 X => ?_)
  have hb1 : R 0 1 r28 := by unfold po_X12_end at q30; exact q30.2.2.1
  obtain ⟨k34, k35, k36⟩ := k_X12_end q30
  obtain ⟨hJ, e33, n31, n32⟩ := j_X12_end hJ q30
  have h37 := congrArg Int32.toInt e33
  refine r_pop S dL_law_310 rfl ?_
  refine r_goto (tgt := 1291) S dL_law_311 (by decide) ?_
  refine w_widen (k := cells + 1) (n := slots + 6) (by omega) (by omega) ?_
  exact kk H lc ls t29 hJ ⟨⟨by omega, by omega⟩, ZZ_kp hZZ (zk_X11_end q11) (zk_X12_end q30) (by omega)⟩ X (lv_sub hl [0, 1, 2, 3, 4] rfl)
set_option maxHeartbeats 8000000 in
set_option maxRecDepth 100000 in
theorem lc_ferry {p : Program} {l : Launch} {e : Env} {s : State} {m : MethodId} {below : List Frame} {meth : Method} {c : Code} {b L : Nat} {xs : Nat → Int32} {G : Gx} {Q : State → Prop} (hst : l.stackTraces = false) (S : Sx G p m c code 7 s #[Value.ref b] RL) (hZ : Zs G s) (hX : va_X b L xs s s.heap) (hbl : b < s.heap.size) (hbA : ¬ G.2.2.2.2 b) (hL : L ≤ 3072) {H : Heap} {lc : List Loc} {ls : Array Slot} {τ : Tau} {cells slots : Nat} {i : Int32} (hi : 0 ≤ i.toInt ∧ i.toInt + 6 ≤ L) (hR : cells + 1 ≤ 601024 ∧ slots + 6 ≤ 7293034) (hJ : JJ τ) (hlen : ((τ 1 1).toInt = (τ 131 2).toInt ∧ (τ 0 11).toInt = (τ 152 0).toInt + 2 * (τ 152 1).toInt) ∧ ZZ τ) (X : Xd G s H lc τ) (hl : lv_has ls 7 [(0, .ref b), (1, .ref (G.2.2.2.1 0)), (2, .ref (G.2.2.2.1 131)), (3, .ref (G.2.2.2.1 153)), (4, .int i)]) (kk : ∀ (H : Heap) (lc : List Loc) (ls : Array Slot) (τ : Tau), JJ τ → (((τ 1 1).toInt = (τ 131 2).toInt ∧ (τ 0 11).toInt = (τ 152 0).toInt + 2 * (τ 152 1).toInt) ∧ ZZ τ) → Xd G s H lc τ → lv_has ls 7 [(0, .ref b), (1, .ref (G.2.2.2.1 0)), (2, .ref (G.2.2.2.1 131)), (3, .ref (G.2.2.2.1 153)), (4, .int i)] → W p l e room_1 s m #[Value.ref b] below meth c H lc (cells + 1) (slots + 6) Q (F0 m 1291 ls [])) : W p l e room_1 s m #[Value.ref b] below meth c H lc cells slots Q (F0 m 314 ls []) := by
  obtain ⟨hA1, hA2⟩ := hlen.1
  have hZZ := hlen.2
  have rl : R 0 940 (τ 1 1) := rd (K := 1) hJ.1 rfl rfl
  have ri : R 0 3072 i := ⟨by omega, by omega⟩
  refine r_aload_n S dL_law_314 rfl (lv_at hl 1 rfl) ?_
  refine r_ki (q_V (As := []) (rest := []) (K := 0) (ci := 9) S X (c_X11_ferry_q l G τ hJ.1   hJ.2.1 hJ.2.2.1  (fun j => (τ 2 j).toInt) (τ 1 1).toInt.toNat ⟨by omega, by omega, fun j _ => rfl⟩) ckL_42 (Nat.le_of_ble_eq_true rfl) rfl (fun _ => ⟨_, rfl⟩) ⟨_, _, rfl⟩ ⟨Nat.le_of_ble_eq_true rfl, Nat.le_of_ble_eq_true rfl⟩ rfl hl.1 rfl (Nat.le_of_ble_eq_true rfl) dL_law_315 ⟨by show _ ≤ 601024; omega, by show _ ≤ 7293034; omega⟩) X (fun r1 t2 H lc q3 X => ?_)
  have k12 := q3
  unfold po_X11_ferry_q at k12
  obtain ⟨p6, p7, p8, p9, p10, p11⟩ := k12
  obtain ⟨k13, k14, k15⟩ := k_X11_ferry_q q3
  obtain ⟨hJ, e5, n4⟩ := j_X11_ferry_q hJ q3
  have h16 := congrArg Int32.toInt e5
  refine r_pop S dL_law_318 rfl ?_
  refine r_aload_n S dL_law_319 rfl (lv_at hl 2 rfl) ?_
  refine r_ki (q_V (As := []) (rest := []) (K := 38) (ci := 10) S X (c_X12_ferry_q l G t2 hJ.1    hJ.2.2.2.2.2.2.2.2.2.1 (fun j => (τ 2 j).toInt) (τ 1 1).toInt.toNat ⟨by omega, by omega, fun j hj => by rw [(zk_X11_ferry_q q3).2.1 rfl j]; exact hZZ.1 j (by omega)⟩ (RS_fr hZZ.2.1 ((zk_X11_ferry_q q3).2.2.1 rfl))) ckL_46 (Nat.le_of_ble_eq_true rfl) rfl (fun _ => ⟨_, rfl⟩) ⟨_, _, rfl⟩ ⟨Nat.le_of_ble_eq_true rfl, Nat.le_of_ble_eq_true rfl⟩ rfl hl.1 rfl (Nat.le_of_ble_eq_true rfl) dL_law_320 ⟨by show _ ≤ 601024; omega, by show _ ≤ 7293034; omega⟩) X (fun r17 t18 H lc q19 X => ?_)
  have k27 := q19
  unfold po_X12_ferry_q at k27
  obtain ⟨p22, p23, p24, p25, p26⟩ := k27
  obtain ⟨k28, k29, k30⟩ := k_X12_ferry_q q19
  obtain ⟨hJ, e21, n20⟩ := j_X12_ferry_q hJ q19
  have h31 := congrArg Int32.toInt e21
  have h32 : (t18 131 2).toInt = 0 := by have h1 := n20.1; have h2 := n20.2; omega
  refine r_pop S dL_law_323 rfl ?_
  refine r_goto (tgt := 1291) S dL_law_324 (by decide) ?_
  refine w_widen (k := cells + 1) (n := slots + 6) (by omega) (by omega) ?_
  exact kk H lc ls t18 hJ ⟨⟨by omega, by omega⟩, ZZ_ferry hZZ (zk_X11_ferry_q q3) (zk_X12_ferry_q q19) p11 p26 (by omega)⟩ X (lv_sub hl [0, 1, 2, 3, 4] rfl)
set_option maxHeartbeats 8000000 in
set_option maxRecDepth 100000 in
theorem lc_fault {p : Program} {l : Launch} {e : Env} {s : State} {m : MethodId} {below : List Frame} {meth : Method} {c : Code} {b L : Nat} {xs : Nat → Int32} {G : Gx} {Q : State → Prop} (hst : l.stackTraces = false) (S : Sx G p m c code 7 s #[Value.ref b] RL) (hZ : Zs G s) (hX : va_X b L xs s s.heap) (hbl : b < s.heap.size) (hbA : ¬ G.2.2.2.2 b) (hL : L ≤ 3072) {H : Heap} {lc : List Loc} {ls : Array Slot} {τ : Tau} {cells slots : Nat} {i : Int32} (hi : 0 ≤ i.toInt ∧ i.toInt + 6 ≤ L) (hR : cells + 1 ≤ 601024 ∧ slots + 6 ≤ 7293034) (hJ : JJ τ) (hlen : ((τ 1 1).toInt = (τ 131 2).toInt ∧ (τ 0 11).toInt = (τ 152 0).toInt + 2 * (τ 152 1).toInt) ∧ ZZ τ) (X : Xd G s H lc τ) (hl : lv_has ls 7 [(0, .ref b), (1, .ref (G.2.2.2.1 0)), (2, .ref (G.2.2.2.1 131)), (3, .ref (G.2.2.2.1 153)), (4, .int i)]) (kk : ∀ (H : Heap) (lc : List Loc) (ls : Array Slot) (τ : Tau), JJ τ → (((τ 1 1).toInt = (τ 131 2).toInt ∧ (τ 0 11).toInt = (τ 152 0).toInt + 2 * (τ 152 1).toInt) ∧ ZZ τ) → Xd G s H lc τ → lv_has ls 7 [(0, .ref b), (1, .ref (G.2.2.2.1 0)), (2, .ref (G.2.2.2.1 131)), (3, .ref (G.2.2.2.1 153)), (4, .int i)] → W p l e room_1 s m #[Value.ref b] below meth c H lc (cells + 1) (slots + 6) Q (F0 m 1291 ls [])) : W p l e room_1 s m #[Value.ref b] below meth c H lc cells slots Q (F0 m 327 ls []) := by
  obtain ⟨hA1, hA2⟩ := hlen.1
  have hZZ := hlen.2
  have rl : R 0 940 (τ 1 1) := rd (K := 1) hJ.1 rfl rfl
  have ri : R 0 3072 i := ⟨by omega, by omega⟩
  refine r_aload_n S dL_law_327 rfl (lv_at hl 1 rfl) ?_
  refine r_ki (q_V (As := []) (rest := []) (K := 0) (ci := 9) S X (c_X11_fault l G τ hJ.1    ) ckL_47 (Nat.le_of_ble_eq_true rfl) rfl (fun _ => ⟨_, rfl⟩) ⟨_, _, rfl⟩ ⟨Nat.le_of_ble_eq_true rfl, Nat.le_of_ble_eq_true rfl⟩ rfl hl.1 rfl (Nat.le_of_ble_eq_true rfl) dL_law_328 ⟨by show _ ≤ 601024; omega, by show _ ≤ 7293034; omega⟩) X (fun r1 t2 H lc q3 X => ?_)
  obtain ⟨k6, k7, k8⟩ := k_X11_fault q3
  obtain ⟨hJ, e5, n4⟩ := j_X11_fault hJ q3
  have h9 := congrArg Int32.toInt e5
  have h10 := congrArg Int32.toInt n4
  refine r_pop S dL_law_331 rfl ?_
  refine r_aload_n S dL_law_332 rfl (lv_at hl 2 rfl) ?_
  refine r_ki (q_V (As := []) (rest := []) (K := 38) (ci := 10) S X (c_X12_fault l G t2 hJ.1    ) ckL_50 (Nat.le_of_ble_eq_true rfl) rfl (fun _ => ⟨_, rfl⟩) ⟨_, _, rfl⟩ ⟨Nat.le_of_ble_eq_true rfl, Nat.le_of_ble_eq_true rfl⟩ rfl hl.1 rfl (Nat.le_of_ble_eq_true rfl) dL_law_333 ⟨by show _ ≤ 601024; omega, by show _ ≤ 7293034; omega⟩) X (fun r11 t12 H lc q13 X => ?_)
  obtain ⟨k16, k17, k18⟩ := k_X12_fault q13
  obtain ⟨hJ, e15, n14⟩ := j_X12_fault hJ q13
  have h19 := congrArg Int32.toInt e15
  have h20 := congrArg Int32.toInt n14
  refine r_pop S dL_law_336 rfl ?_
  refine r_goto (tgt := 1291) S dL_law_337 (by decide) ?_
  refine w_widen (k := cells + 1) (n := slots + 6) (by omega) (by omega) ?_
  exact kk H lc ls t12 hJ ⟨⟨by omega, by omega⟩, ZZ_kp hZZ (zk_X11_fault q3) (zk_X12_fault q13) (by omega)⟩ X (lv_sub hl [0, 1, 2, 3, 4] rfl)
set_option maxHeartbeats 8000000 in
set_option maxRecDepth 100000 in
theorem lc_man {p : Program} {l : Launch} {e : Env} {s : State} {m : MethodId} {below : List Frame} {meth : Method} {c : Code} {b L : Nat} {xs : Nat → Int32} {G : Gx} {Q : State → Prop} (hst : l.stackTraces = false) (S : Sx G p m c code 7 s #[Value.ref b] RL) (hZ : Zs G s) (hX : va_X b L xs s s.heap) (hbl : b < s.heap.size) (hbA : ¬ G.2.2.2.2 b) (hL : L ≤ 3072) {H : Heap} {lc : List Loc} {ls : Array Slot} {τ : Tau} {cells slots : Nat} {i : Int32} (hi : 0 ≤ i.toInt ∧ i.toInt + 6 ≤ L) (hR : cells + 1 ≤ 601024 ∧ slots + 6 ≤ 7293034) (hJ : JJ τ) (hlen : ((τ 1 1).toInt = (τ 131 2).toInt ∧ (τ 0 11).toInt = (τ 152 0).toInt + 2 * (τ 152 1).toInt) ∧ ZZ τ) (X : Xd G s H lc τ) (hl : lv_has ls 7 [(0, .ref b), (1, .ref (G.2.2.2.1 0)), (2, .ref (G.2.2.2.1 131)), (3, .ref (G.2.2.2.1 153)), (4, .int i)]) (kk : ∀ (H : Heap) (lc : List Loc) (ls : Array Slot) (τ : Tau), JJ τ → (((τ 1 1).toInt = (τ 131 2).toInt ∧ (τ 0 11).toInt = (τ 152 0).toInt + 2 * (τ 152 1).toInt) ∧ ZZ τ) → Xd G s H lc τ → lv_has ls 7 [(0, .ref b), (1, .ref (G.2.2.2.1 0)), (2, .ref (G.2.2.2.1 131)), (3, .ref (G.2.2.2.1 153)), (4, .int i)] → W p l e room_1 s m #[Value.ref b] below meth c H lc (cells + 1) (slots + 6) Q (F0 m 1291 ls [])) : W p l e room_1 s m #[Value.ref b] below meth c H lc cells slots Q (F0 m 340 ls []) := by
  obtain ⟨hA1, hA2⟩ := hlen.1
  have hZZ := hlen.2
  have rl : R 0 940 (τ 1 1) := rd (K := 1) hJ.1 rfl rfl
  have ri : R 0 3072 i := ⟨by omega, by omega⟩
  refine r_aload_n S dL_law_340 rfl (lv_at hl 1 rfl) ?_
  refine r_aload_n S dL_law_341 rfl (lv_at hl 0 rfl) ?_
  refine r_iload S dL_law_342 (lv_at hl 4 rfl) ?_
  refine r_iconst S dL_law_344 (by decide) (fun v1 z2 => ?_)
  refine r_iadd S dL_law_345 (fun v3 z4 => ?_)
  obtain ⟨e5, r6⟩ := i_add (lo := 1) (hi := 3073) z4 ri (R_eq z2) rfl
  refine va_sld S.1.1 S.1.2.1 hX hbl hbA X.2 (vp_in_iff.mpr ⟨by omega, by omega⟩) dL_law_346 ?_
  refine lv_topi (fun y7 z8 => ?_)
  refine r_aload_n S dL_law_347 rfl (lv_at hl 0 rfl) ?_
  refine r_iload S dL_law_348 (lv_at hl 4 rfl) ?_
  refine r_iconst S dL_law_350 (by decide) (fun v9 z10 => ?_)
  refine r_iadd S dL_law_351 (fun v11 z12 => ?_)
  obtain ⟨e13, r14⟩ := i_add (lo := 2) (hi := 3074) z12 ri (R_eq z10) rfl
  refine va_sld S.1.1 S.1.2.1 hX hbl hbA X.2 (vp_in_iff.mpr ⟨by omega, by omega⟩) dL_law_352 ?_
  refine lv_topi (fun y15 z16 => ?_)
  refine r_aload_n S dL_law_353 rfl (lv_at hl 3 rfl) ?_
  refine r_kl (q_SW (As := [.ref (G.2.2.2.1 0), .int y7, .int y15, .ref (G.2.2.2.1 153)]) (rest := []) S hZ X (c_L_man l hst G τ hJ.1 y7 y15) ckW_51 ⟨Nat.le_of_ble_eq_true rfl, Nat.le_of_ble_eq_true rfl⟩ rfl hl.1 rfl (Nat.le_of_ble_eq_true rfl) dL_law_354 ⟨by show _ ≤ 601024; omega, by show _ ≤ 7293034; omega⟩) X (fun r17 t18 H lc q19 X => ?_)
  obtain ⟨k20, k21, k22⟩ := k_thr q19
  obtain ⟨hJ, e23, e24⟩ := j_thr hJ q19
  have h25 := congrArg Int32.toInt e23
  have h26 := congrArg Int32.toInt e24
  refine r_istore (lv' := [(5, .int r17), (0, .ref b), (1, .ref (G.2.2.2.1 0)), (2, .ref (G.2.2.2.1 131)), (3, .ref (G.2.2.2.1 153)), (4, .int i)]) S dL_law_357 hl (by decide) rfl (fun ls hl => ?_)
  refine r_aload_n S dL_law_359 rfl (lv_at hl 3 rfl) ?_
  refine r_aload_n S dL_law_360 rfl (lv_at hl 1 rfl) ?_
  refine r_iload S dL_law_361 (lv_at hl 5 rfl) ?_
  refine r_iconst S dL_law_363 (by decide) (fun v27 z28 => ?_)
  refine r_iadd S dL_law_364 (fun v29 z30 => ?_)
  obtain ⟨e31, r32⟩ := i_add (lo := 1) (hi := 3073) z30 ri (R_eq z28) rfl
  refine va_sld S.1.1 S.1.2.1 hX hbl hbA X.2 (vp_in_iff.mpr ⟨by omega, by omega⟩) dL_law_365 ?_
  refine lv_topi (fun y33 z34 => ?_)
  have h35 : y7 = y33 := (show y33 = y7 by rw [z34, z8, show v29 = v3 from Int32.toInt_inj.mp (by omega)]).symm
  subst h35
  refine r_aload_n S dL_law_366 rfl (lv_at hl 1 rfl) ?_
  refine r_iload S dL_law_367 (lv_at hl 5 rfl) ?_
  refine r_iconst S dL_law_369 (by decide) (fun v36 z37 => ?_)
  refine r_iadd S dL_law_370 (fun v38 z39 => ?_)
  obtain ⟨e40, r41⟩ := i_add (lo := 2) (hi := 3074) z39 ri (R_eq z37) rfl
  refine va_sld S.1.1 S.1.2.1 hX hbl hbA X.2 (vp_in_iff.mpr ⟨by omega, by omega⟩) dL_law_371 ?_
  refine lv_topi (fun y42 z43 => ?_)
  have h44 : y15 = y42 := (show y42 = y15 by rw [z43, z16, show v38 = v11 from Int32.toInt_inj.mp (by omega)]).symm
  subst h44
  refine r_ki (q_V (As := [.int y7, .int y15]) (rest := []) (K := 38) (ci := 10) S X (c_X12_man l G t18 hJ.1 y7 y15 (R_any _) (R_any _)  ) ckL_56 (Nat.le_of_ble_eq_true rfl) rfl (fun _ => ⟨_, rfl⟩) ⟨_, _, rfl⟩ ⟨Nat.le_of_ble_eq_true rfl, Nat.le_of_ble_eq_true rfl⟩ rfl hl.1 rfl (Nat.le_of_ble_eq_true rfl) dL_law_372 ⟨by show _ ≤ 601024; omega, by show _ ≤ 7293034; omega⟩) X (fun r45 t46 H lc q47 X => ?_)
  obtain ⟨k50, k51, k52⟩ := k_X12_man q47
  obtain ⟨hJ, e49, n48⟩ := j_X12_man hJ q47
  have h53 := congrArg Int32.toInt e49
  have h54 := congrArg Int32.toInt n48
  refine r_istore (lv' := [(6, .int r45), (5, .int r17), (0, .ref b), (1, .ref (G.2.2.2.1 0)), (2, .ref (G.2.2.2.1 131)), (3, .ref (G.2.2.2.1 153)), (4, .int i)]) S dL_law_375 hl (by decide) rfl (fun ls hl => ?_)
  refine r_goto (tgt := 1291) S dL_law_377 (by decide) ?_
  exact kk H lc ls t46 hJ ⟨⟨by omega, by omega⟩, ZZ_kp hZZ (zk_thr q19) (zk_X12_man q47) (by omega)⟩ X (lv_sub hl [2, 3, 4, 5, 6] rfl)
set_option maxHeartbeats 8000000 in
set_option maxRecDepth 100000 in
theorem lc_thinks {p : Program} {l : Launch} {e : Env} {s : State} {m : MethodId} {below : List Frame} {meth : Method} {c : Code} {b L : Nat} {xs : Nat → Int32} {G : Gx} {Q : State → Prop} (hst : l.stackTraces = false) (S : Sx G p m c code 7 s #[Value.ref b] RL) (hZ : Zs G s) (hX : va_X b L xs s s.heap) (hbl : b < s.heap.size) (hbA : ¬ G.2.2.2.2 b) (hL : L ≤ 3072) {H : Heap} {lc : List Loc} {ls : Array Slot} {τ : Tau} {cells slots : Nat} {i : Int32} (hi : 0 ≤ i.toInt ∧ i.toInt + 6 ≤ L) (hR : cells + 1 ≤ 601024 ∧ slots + 6 ≤ 7293034) (hJ : JJ τ) (hlen : ((τ 1 1).toInt = (τ 131 2).toInt ∧ (τ 0 11).toInt = (τ 152 0).toInt + 2 * (τ 152 1).toInt) ∧ ZZ τ) (X : Xd G s H lc τ) (hl : lv_has ls 7 [(0, .ref b), (1, .ref (G.2.2.2.1 0)), (2, .ref (G.2.2.2.1 131)), (3, .ref (G.2.2.2.1 153)), (4, .int i)]) (kk : ∀ (H : Heap) (lc : List Loc) (ls : Array Slot) (τ : Tau), JJ τ → (((τ 1 1).toInt = (τ 131 2).toInt ∧ (τ 0 11).toInt = (τ 152 0).toInt + 2 * (τ 152 1).toInt) ∧ ZZ τ) → Xd G s H lc τ → lv_has ls 7 [(0, .ref b), (1, .ref (G.2.2.2.1 0)), (2, .ref (G.2.2.2.1 131)), (3, .ref (G.2.2.2.1 153)), (4, .int i)] → W p l e room_1 s m #[Value.ref b] below meth c H lc (cells + 1) (slots + 6) Q (F0 m 1291 ls [])) : W p l e room_1 s m #[Value.ref b] below meth c H lc cells slots Q (F0 m 380 ls []) := by
  obtain ⟨hA1, hA2⟩ := hlen.1
  have hZZ := hlen.2
  have rl : R 0 940 (τ 1 1) := rd (K := 1) hJ.1 rfl rfl
  have ri : R 0 3072 i := ⟨by omega, by omega⟩
  refine r_aload_n S dL_law_380 rfl (lv_at hl 1 rfl) ?_
  refine r_aload_n S dL_law_381 rfl (lv_at hl 0 rfl) ?_
  refine r_iload S dL_law_382 (lv_at hl 4 rfl) ?_
  refine r_iconst S dL_law_384 (by decide) (fun v1 z2 => ?_)
  refine r_iadd S dL_law_385 (fun v3 z4 => ?_)
  obtain ⟨e5, r6⟩ := i_add (lo := 1) (hi := 3073) z4 ri (R_eq z2) rfl
  refine va_sld S.1.1 S.1.2.1 hX hbl hbA X.2 (vp_in_iff.mpr ⟨by omega, by omega⟩) dL_law_386 ?_
  refine lv_topi (fun y7 z8 => ?_)
  refine r_aload_n S dL_law_387 rfl (lv_at hl 0 rfl) ?_
  refine r_iload S dL_law_388 (lv_at hl 4 rfl) ?_
  refine r_iconst S dL_law_390 (by decide) (fun v9 z10 => ?_)
  refine r_iadd S dL_law_391 (fun v11 z12 => ?_)
  obtain ⟨e13, r14⟩ := i_add (lo := 2) (hi := 3074) z12 ri (R_eq z10) rfl
  refine va_sld S.1.1 S.1.2.1 hX hbl hbA X.2 (vp_in_iff.mpr ⟨by omega, by omega⟩) dL_law_392 ?_
  refine lv_topi (fun y15 z16 => ?_)
  refine r_aload_n S dL_law_393 rfl (lv_at hl 3 rfl) ?_
  refine r_kl (q_SW (As := [.ref (G.2.2.2.1 0), .int y7, .int y15, .ref (G.2.2.2.1 153)]) (rest := []) S hZ X (c_L_thinks l hst G τ hJ.1 y7 y15) ckW_57 ⟨Nat.le_of_ble_eq_true rfl, Nat.le_of_ble_eq_true rfl⟩ rfl hl.1 rfl (Nat.le_of_ble_eq_true rfl) dL_law_394 ⟨by show _ ≤ 601024; omega, by show _ ≤ 7293034; omega⟩) X (fun r17 t18 H lc q19 X => ?_)
  obtain ⟨k20, k21, k22⟩ := k_thr q19
  obtain ⟨hJ, e23, e24⟩ := j_thr hJ q19
  have h25 := congrArg Int32.toInt e23
  have h26 := congrArg Int32.toInt e24
  refine r_istore (lv' := [(5, .int r17), (0, .ref b), (1, .ref (G.2.2.2.1 0)), (2, .ref (G.2.2.2.1 131)), (3, .ref (G.2.2.2.1 153)), (4, .int i)]) S dL_law_397 hl (by decide) rfl (fun ls hl => ?_)
  refine r_aload_n S dL_law_399 rfl (lv_at hl 3 rfl) ?_
  refine r_aload_n S dL_law_400 rfl (lv_at hl 1 rfl) ?_
  refine r_iload S dL_law_401 (lv_at hl 5 rfl) ?_
  refine r_iconst S dL_law_403 (by decide) (fun v27 z28 => ?_)
  refine r_iadd S dL_law_404 (fun v29 z30 => ?_)
  obtain ⟨e31, r32⟩ := i_add (lo := 1) (hi := 3073) z30 ri (R_eq z28) rfl
  refine va_sld S.1.1 S.1.2.1 hX hbl hbA X.2 (vp_in_iff.mpr ⟨by omega, by omega⟩) dL_law_405 ?_
  refine lv_topi (fun y33 z34 => ?_)
  have h35 : y7 = y33 := (show y33 = y7 by rw [z34, z8, show v29 = v3 from Int32.toInt_inj.mp (by omega)]).symm
  subst h35
  refine r_aload_n S dL_law_406 rfl (lv_at hl 1 rfl) ?_
  refine r_iload S dL_law_407 (lv_at hl 5 rfl) ?_
  refine r_iconst S dL_law_409 (by decide) (fun v36 z37 => ?_)
  refine r_iadd S dL_law_410 (fun v38 z39 => ?_)
  obtain ⟨e40, r41⟩ := i_add (lo := 2) (hi := 3074) z39 ri (R_eq z37) rfl
  refine va_sld S.1.1 S.1.2.1 hX hbl hbA X.2 (vp_in_iff.mpr ⟨by omega, by omega⟩) dL_law_411 ?_
  refine lv_topi (fun y42 z43 => ?_)
  have h44 : y15 = y42 := (show y42 = y15 by rw [z43, z16, show v38 = v11 from Int32.toInt_inj.mp (by omega)]).symm
  subst h44
  refine r_ki (q_V (As := [.int y7, .int y15]) (rest := []) (K := 38) (ci := 10) S X (c_X12_thinks l G t18 hJ.1 y7 y15 (R_any _) (R_any _)  ) ckL_59 (Nat.le_of_ble_eq_true rfl) rfl (fun _ => ⟨_, rfl⟩) ⟨_, _, rfl⟩ ⟨Nat.le_of_ble_eq_true rfl, Nat.le_of_ble_eq_true rfl⟩ rfl hl.1 rfl (Nat.le_of_ble_eq_true rfl) dL_law_412 ⟨by show _ ≤ 601024; omega, by show _ ≤ 7293034; omega⟩) X (fun r45 t46 H lc q47 X => ?_)
  obtain ⟨k50, k51, k52⟩ := k_X12_thinks q47
  obtain ⟨hJ, e49, n48⟩ := j_X12_thinks hJ q47
  have h53 := congrArg Int32.toInt e49
  have h54 := congrArg Int32.toInt n48
  refine r_istore (lv' := [(6, .int r45), (5, .int r17), (0, .ref b), (1, .ref (G.2.2.2.1 0)), (2, .ref (G.2.2.2.1 131)), (3, .ref (G.2.2.2.1 153)), (4, .int i)]) S dL_law_415 hl (by decide) rfl (fun ls hl => ?_)
  refine r_goto (tgt := 1291) S dL_law_417 (by decide) ?_
  exact kk H lc ls t46 hJ ⟨⟨by omega, by omega⟩, ZZ_kp hZZ (zk_thr q19) (zk_X12_thinks q47) (by omega)⟩ X (lv_sub hl [2, 3, 4, 5, 6] rfl)
set_option maxHeartbeats 8000000 in
set_option maxRecDepth 100000 in
theorem lc_says {p : Program} {l : Launch} {e : Env} {s : State} {m : MethodId} {below : List Frame} {meth : Method} {c : Code} {b L : Nat} {xs : Nat → Int32} {G : Gx} {Q : State → Prop} (hst : l.stackTraces = false) (S : Sx G p m c code 7 s #[Value.ref b] RL) (hZ : Zs G s) (hX : va_X b L xs s s.heap) (hbl : b < s.heap.size) (hbA : ¬ G.2.2.2.2 b) (hL : L ≤ 3072) {H : Heap} {lc : List Loc} {ls : Array Slot} {τ : Tau} {cells slots : Nat} {i : Int32} (hi : 0 ≤ i.toInt ∧ i.toInt + 6 ≤ L) (hR : cells + 1 ≤ 601024 ∧ slots + 6 ≤ 7293034) (hJ : JJ τ) (hlen : ((τ 1 1).toInt = (τ 131 2).toInt ∧ (τ 0 11).toInt = (τ 152 0).toInt + 2 * (τ 152 1).toInt) ∧ ZZ τ) (X : Xd G s H lc τ) (hl : lv_has ls 7 [(0, .ref b), (1, .ref (G.2.2.2.1 0)), (2, .ref (G.2.2.2.1 131)), (3, .ref (G.2.2.2.1 153)), (4, .int i)]) (kk : ∀ (H : Heap) (lc : List Loc) (ls : Array Slot) (τ : Tau), JJ τ → (((τ 1 1).toInt = (τ 131 2).toInt ∧ (τ 0 11).toInt = (τ 152 0).toInt + 2 * (τ 152 1).toInt) ∧ ZZ τ) → Xd G s H lc τ → lv_has ls 7 [(0, .ref b), (1, .ref (G.2.2.2.1 0)), (2, .ref (G.2.2.2.1 131)), (3, .ref (G.2.2.2.1 153)), (4, .int i)] → W p l e room_1 s m #[Value.ref b] below meth c H lc (cells + 1) (slots + 6) Q (F0 m 1291 ls [])) : W p l e room_1 s m #[Value.ref b] below meth c H lc cells slots Q (F0 m 420 ls []) := by
  obtain ⟨hA1, hA2⟩ := hlen.1
  have hZZ := hlen.2
  have rl : R 0 940 (τ 1 1) := rd (K := 1) hJ.1 rfl rfl
  have ri : R 0 3072 i := ⟨by omega, by omega⟩
  refine r_aload_n S dL_law_420 rfl (lv_at hl 1 rfl) ?_
  refine r_aload_n S dL_law_421 rfl (lv_at hl 0 rfl) ?_
  refine r_iload S dL_law_422 (lv_at hl 4 rfl) ?_
  refine r_iconst S dL_law_424 (by decide) (fun v1 z2 => ?_)
  refine r_iadd S dL_law_425 (fun v3 z4 => ?_)
  obtain ⟨e5, r6⟩ := i_add (lo := 1) (hi := 3073) z4 ri (R_eq z2) rfl
  refine va_sld S.1.1 S.1.2.1 hX hbl hbA X.2 (vp_in_iff.mpr ⟨by omega, by omega⟩) dL_law_426 ?_
  refine lv_topi (fun y7 z8 => ?_)
  refine r_aload_n S dL_law_427 rfl (lv_at hl 0 rfl) ?_
  refine r_iload S dL_law_428 (lv_at hl 4 rfl) ?_
  refine r_iconst S dL_law_430 (by decide) (fun v9 z10 => ?_)
  refine r_iadd S dL_law_431 (fun v11 z12 => ?_)
  obtain ⟨e13, r14⟩ := i_add (lo := 2) (hi := 3074) z12 ri (R_eq z10) rfl
  refine va_sld S.1.1 S.1.2.1 hX hbl hbA X.2 (vp_in_iff.mpr ⟨by omega, by omega⟩) dL_law_432 ?_
  refine lv_topi (fun y15 z16 => ?_)
  refine r_aload_n S dL_law_433 rfl (lv_at hl 3 rfl) ?_
  refine r_kl (q_SW (As := [.ref (G.2.2.2.1 0), .int y7, .int y15, .ref (G.2.2.2.1 153)]) (rest := []) S hZ X (c_L_says l hst G τ hJ.1 y7 y15) ckW_60 ⟨Nat.le_of_ble_eq_true rfl, Nat.le_of_ble_eq_true rfl⟩ rfl hl.1 rfl (Nat.le_of_ble_eq_true rfl) dL_law_434 ⟨by show _ ≤ 601024; omega, by show _ ≤ 7293034; omega⟩) X (fun r17 t18 H lc q19 X => ?_)
  obtain ⟨k20, k21, k22⟩ := k_thr q19
  obtain ⟨hJ, e23, e24⟩ := j_thr hJ q19
  have h25 := congrArg Int32.toInt e23
  have h26 := congrArg Int32.toInt e24
  refine r_istore (lv' := [(5, .int r17), (0, .ref b), (1, .ref (G.2.2.2.1 0)), (2, .ref (G.2.2.2.1 131)), (3, .ref (G.2.2.2.1 153)), (4, .int i)]) S dL_law_437 hl (by decide) rfl (fun ls hl => ?_)
  refine r_aload_n S dL_law_439 rfl (lv_at hl 3 rfl) ?_
  refine r_aload_n S dL_law_440 rfl (lv_at hl 1 rfl) ?_
  refine r_iload S dL_law_441 (lv_at hl 5 rfl) ?_
  refine r_iconst S dL_law_443 (by decide) (fun v27 z28 => ?_)
  refine r_iadd S dL_law_444 (fun v29 z30 => ?_)
  obtain ⟨e31, r32⟩ := i_add (lo := 1) (hi := 3073) z30 ri (R_eq z28) rfl
  refine va_sld S.1.1 S.1.2.1 hX hbl hbA X.2 (vp_in_iff.mpr ⟨by omega, by omega⟩) dL_law_445 ?_
  refine lv_topi (fun y33 z34 => ?_)
  have h35 : y7 = y33 := (show y33 = y7 by rw [z34, z8, show v29 = v3 from Int32.toInt_inj.mp (by omega)]).symm
  subst h35
  refine r_aload_n S dL_law_446 rfl (lv_at hl 1 rfl) ?_
  refine r_iload S dL_law_447 (lv_at hl 5 rfl) ?_
  refine r_iconst S dL_law_449 (by decide) (fun v36 z37 => ?_)
  refine r_iadd S dL_law_450 (fun v38 z39 => ?_)
  obtain ⟨e40, r41⟩ := i_add (lo := 2) (hi := 3074) z39 ri (R_eq z37) rfl
  refine va_sld S.1.1 S.1.2.1 hX hbl hbA X.2 (vp_in_iff.mpr ⟨by omega, by omega⟩) dL_law_451 ?_
  refine lv_topi (fun y42 z43 => ?_)
  have h44 : y15 = y42 := (show y42 = y15 by rw [z43, z16, show v38 = v11 from Int32.toInt_inj.mp (by omega)]).symm
  subst h44
  refine r_ki (q_V (As := [.int y7, .int y15]) (rest := []) (K := 38) (ci := 10) S X (c_X12_says l G t18 hJ.1 y7 y15 (R_any _) (R_any _)  ) ckL_62 (Nat.le_of_ble_eq_true rfl) rfl (fun _ => ⟨_, rfl⟩) ⟨_, _, rfl⟩ ⟨Nat.le_of_ble_eq_true rfl, Nat.le_of_ble_eq_true rfl⟩ rfl hl.1 rfl (Nat.le_of_ble_eq_true rfl) dL_law_452 ⟨by show _ ≤ 601024; omega, by show _ ≤ 7293034; omega⟩) X (fun r45 t46 H lc q47 X => ?_)
  obtain ⟨k50, k51, k52⟩ := k_X12_says q47
  obtain ⟨hJ, e49, n48⟩ := j_X12_says hJ q47
  have h53 := congrArg Int32.toInt e49
  have h54 := congrArg Int32.toInt n48
  refine r_istore (lv' := [(6, .int r45), (5, .int r17), (0, .ref b), (1, .ref (G.2.2.2.1 0)), (2, .ref (G.2.2.2.1 131)), (3, .ref (G.2.2.2.1 153)), (4, .int i)]) S dL_law_455 hl (by decide) rfl (fun ls hl => ?_)
  refine r_goto (tgt := 1291) S dL_law_457 (by decide) ?_
  exact kk H lc ls t46 hJ ⟨⟨by omega, by omega⟩, ZZ_kp hZZ (zk_thr q19) (zk_X12_says q47) (by omega)⟩ X (lv_sub hl [2, 3, 4, 5, 6] rfl)
set_option maxHeartbeats 8000000 in
set_option maxRecDepth 100000 in
theorem lc_now {p : Program} {l : Launch} {e : Env} {s : State} {m : MethodId} {below : List Frame} {meth : Method} {c : Code} {b L : Nat} {xs : Nat → Int32} {G : Gx} {Q : State → Prop} (hst : l.stackTraces = false) (S : Sx G p m c code 7 s #[Value.ref b] RL) (hZ : Zs G s) (hX : va_X b L xs s s.heap) (hbl : b < s.heap.size) (hbA : ¬ G.2.2.2.2 b) (hL : L ≤ 3072) {H : Heap} {lc : List Loc} {ls : Array Slot} {τ : Tau} {cells slots : Nat} {i : Int32} (hi : 0 ≤ i.toInt ∧ i.toInt + 6 ≤ L) (hR : cells + 1 ≤ 601024 ∧ slots + 6 ≤ 7293034) (hJ : JJ τ) (hlen : ((τ 1 1).toInt = (τ 131 2).toInt ∧ (τ 0 11).toInt = (τ 152 0).toInt + 2 * (τ 152 1).toInt) ∧ ZZ τ) (X : Xd G s H lc τ) (hl : lv_has ls 7 [(0, .ref b), (1, .ref (G.2.2.2.1 0)), (2, .ref (G.2.2.2.1 131)), (3, .ref (G.2.2.2.1 153)), (4, .int i)]) (kk : ∀ (H : Heap) (lc : List Loc) (ls : Array Slot) (τ : Tau), JJ τ → (((τ 1 1).toInt = (τ 131 2).toInt ∧ (τ 0 11).toInt = (τ 152 0).toInt + 2 * (τ 152 1).toInt) ∧ ZZ τ) → Xd G s H lc τ → lv_has ls 7 [(0, .ref b), (1, .ref (G.2.2.2.1 0)), (2, .ref (G.2.2.2.1 131)), (3, .ref (G.2.2.2.1 153)), (4, .int i)] → W p l e room_1 s m #[Value.ref b] below meth c H lc (cells + 1) (slots + 6) Q (F0 m 1291 ls [])) : W p l e room_1 s m #[Value.ref b] below meth c H lc cells slots Q (F0 m 460 ls []) := by
  obtain ⟨hA1, hA2⟩ := hlen.1
  have hZZ := hlen.2
  have rl : R 0 940 (τ 1 1) := rd (K := 1) hJ.1 rfl rfl
  have ri : R 0 3072 i := ⟨by omega, by omega⟩
  refine r_aload_n S dL_law_460 rfl (lv_at hl 1 rfl) ?_
  refine r_aload_n S dL_law_461 rfl (lv_at hl 0 rfl) ?_
  refine r_iload S dL_law_462 (lv_at hl 4 rfl) ?_
  refine r_iconst S dL_law_464 (by decide) (fun v1 z2 => ?_)
  refine r_iadd S dL_law_465 (fun v3 z4 => ?_)
  obtain ⟨e5, r6⟩ := i_add (lo := 1) (hi := 3073) z4 ri (R_eq z2) rfl
  refine va_sld S.1.1 S.1.2.1 hX hbl hbA X.2 (vp_in_iff.mpr ⟨by omega, by omega⟩) dL_law_466 ?_
  refine lv_topi (fun y7 z8 => ?_)
  refine r_ki (q_V (As := [.int y7]) (rest := []) (K := 0) (ci := 9) S X (c_X11_now l G τ hJ.1 y7 (R_any _)  ) ckL_63 (Nat.le_of_ble_eq_true rfl) rfl (fun _ => ⟨_, rfl⟩) ⟨_, _, rfl⟩ ⟨Nat.le_of_ble_eq_true rfl, Nat.le_of_ble_eq_true rfl⟩ rfl hl.1 rfl (Nat.le_of_ble_eq_true rfl) dL_law_467 ⟨by show _ ≤ 601024; omega, by show _ ≤ 7293034; omega⟩) X (fun r9 t10 H lc q11 X => ?_)
  obtain ⟨k14, k15, k16⟩ := k_X11_now q11
  obtain ⟨hJ, e13, n12⟩ := j_X11_now hJ q11
  have h17 := congrArg Int32.toInt e13
  have h18 := congrArg Int32.toInt n12
  refine r_pop S dL_law_470 rfl ?_
  refine r_aload_n S dL_law_471 rfl (lv_at hl 2 rfl) ?_
  refine r_aload_n S dL_law_472 rfl (lv_at hl 0 rfl) ?_
  refine r_iload S dL_law_473 (lv_at hl 4 rfl) ?_
  refine r_iconst S dL_law_475 (by decide) (fun v19 z20 => ?_)
  refine r_iadd S dL_law_476 (fun v21 z22 => ?_)
  obtain ⟨e23, r24⟩ := i_add (lo := 1) (hi := 3073) z22 ri (R_eq z20) rfl
  refine va_sld S.1.1 S.1.2.1 hX hbl hbA X.2 (vp_in_iff.mpr ⟨by omega, by omega⟩) dL_law_477 ?_
  refine lv_topi (fun y25 z26 => ?_)
  have h27 : y7 = y25 := (show y25 = y7 by rw [z26, z8, show v21 = v3 from Int32.toInt_inj.mp (by omega)]).symm
  subst h27
  refine r_ki (q_V (As := [.int y7]) (rest := []) (K := 38) (ci := 10) S X (c_X12_now l G t10 hJ.1 y7 (R_any _)  ) ckL_66 (Nat.le_of_ble_eq_true rfl) rfl (fun _ => ⟨_, rfl⟩) ⟨_, _, rfl⟩ ⟨Nat.le_of_ble_eq_true rfl, Nat.le_of_ble_eq_true rfl⟩ rfl hl.1 rfl (Nat.le_of_ble_eq_true rfl) dL_law_478 ⟨by show _ ≤ 601024; omega, by show _ ≤ 7293034; omega⟩) X (fun r28 t29 H lc q30 X => ?_)
  obtain ⟨k33, k34, k35⟩ := k_X12_now q30
  obtain ⟨hJ, e32, n31⟩ := j_X12_now hJ q30
  have h36 := congrArg Int32.toInt e32
  have h37 := congrArg Int32.toInt n31
  refine r_pop S dL_law_481 rfl ?_
  refine r_goto (tgt := 1291) S dL_law_482 (by decide) ?_
  refine w_widen (k := cells + 1) (n := slots + 6) (by omega) (by omega) ?_
  exact kk H lc ls t29 hJ ⟨⟨by omega, by omega⟩, ZZ_kp hZZ (zk_X11_now q11) (zk_X12_now q30) (by omega)⟩ X (lv_sub hl [0, 1, 2, 3, 4] rfl)
set_option maxHeartbeats 8000000 in
set_option maxRecDepth 100000 in
theorem lc_why {p : Program} {l : Launch} {e : Env} {s : State} {m : MethodId} {below : List Frame} {meth : Method} {c : Code} {b L : Nat} {xs : Nat → Int32} {G : Gx} {Q : State → Prop} (hst : l.stackTraces = false) (S : Sx G p m c code 7 s #[Value.ref b] RL) (hZ : Zs G s) (hX : va_X b L xs s s.heap) (hbl : b < s.heap.size) (hbA : ¬ G.2.2.2.2 b) (hL : L ≤ 3072) {H : Heap} {lc : List Loc} {ls : Array Slot} {τ : Tau} {cells slots : Nat} {i : Int32} (hi : 0 ≤ i.toInt ∧ i.toInt + 6 ≤ L) (hR : cells + 1 ≤ 601024 ∧ slots + 6 ≤ 7293034) (hJ : JJ τ) (hlen : ((τ 1 1).toInt = (τ 131 2).toInt ∧ (τ 0 11).toInt = (τ 152 0).toInt + 2 * (τ 152 1).toInt) ∧ ZZ τ) (X : Xd G s H lc τ) (hl : lv_has ls 7 [(0, .ref b), (1, .ref (G.2.2.2.1 0)), (2, .ref (G.2.2.2.1 131)), (3, .ref (G.2.2.2.1 153)), (4, .int i)]) (kk : ∀ (H : Heap) (lc : List Loc) (ls : Array Slot) (τ : Tau), JJ τ → (((τ 1 1).toInt = (τ 131 2).toInt ∧ (τ 0 11).toInt = (τ 152 0).toInt + 2 * (τ 152 1).toInt) ∧ ZZ τ) → Xd G s H lc τ → lv_has ls 7 [(0, .ref b), (1, .ref (G.2.2.2.1 0)), (2, .ref (G.2.2.2.1 131)), (3, .ref (G.2.2.2.1 153)), (4, .int i)] → W p l e room_1 s m #[Value.ref b] below meth c H lc (cells + 1) (slots + 6) Q (F0 m 1291 ls [])) : W p l e room_1 s m #[Value.ref b] below meth c H lc cells slots Q (F0 m 485 ls []) := by
  obtain ⟨hA1, hA2⟩ := hlen.1
  have hZZ := hlen.2
  have rl : R 0 940 (τ 1 1) := rd (K := 1) hJ.1 rfl rfl
  have ri : R 0 3072 i := ⟨by omega, by omega⟩
  refine r_aload_n S dL_law_485 rfl (lv_at hl 1 rfl) ?_
  refine r_aload_n S dL_law_486 rfl (lv_at hl 0 rfl) ?_
  refine r_iload S dL_law_487 (lv_at hl 4 rfl) ?_
  refine r_iconst S dL_law_489 (by decide) (fun v1 z2 => ?_)
  refine r_iadd S dL_law_490 (fun v3 z4 => ?_)
  obtain ⟨e5, r6⟩ := i_add (lo := 1) (hi := 3073) z4 ri (R_eq z2) rfl
  refine va_sld S.1.1 S.1.2.1 hX hbl hbA X.2 (vp_in_iff.mpr ⟨by omega, by omega⟩) dL_law_491 ?_
  refine lv_topi (fun y7 z8 => ?_)
  refine r_ki (q_V (As := [.int y7]) (rest := []) (K := 0) (ci := 9) S X (c_X11_why l G τ hJ.1 y7 (R_any _) hJ.2.1 ) ckL_67 (Nat.le_of_ble_eq_true rfl) rfl (fun _ => ⟨_, rfl⟩) ⟨_, _, rfl⟩ ⟨Nat.le_of_ble_eq_true rfl, Nat.le_of_ble_eq_true rfl⟩ rfl hl.1 rfl (Nat.le_of_ble_eq_true rfl) dL_law_492 ⟨by show _ ≤ 601024; omega, by show _ ≤ 7293034; omega⟩) X (fun r9 t10 H lc q11 X => ?_)
  obtain ⟨k14, k15, k16⟩ := k_X11_why q11
  obtain ⟨hJ, e13, n12⟩ := j_X11_why hJ q11
  have h17 := congrArg Int32.toInt e13
  have h18 := congrArg Int32.toInt n12
  refine r_pop S dL_law_495 rfl ?_
  refine r_aload_n S dL_law_496 rfl (lv_at hl 2 rfl) ?_
  refine r_aload_n S dL_law_497 rfl (lv_at hl 0 rfl) ?_
  refine r_iload S dL_law_498 (lv_at hl 4 rfl) ?_
  refine r_iconst S dL_law_500 (by decide) (fun v19 z20 => ?_)
  refine r_iadd S dL_law_501 (fun v21 z22 => ?_)
  obtain ⟨e23, r24⟩ := i_add (lo := 1) (hi := 3073) z22 ri (R_eq z20) rfl
  refine va_sld S.1.1 S.1.2.1 hX hbl hbA X.2 (vp_in_iff.mpr ⟨by omega, by omega⟩) dL_law_502 ?_
  refine lv_topi (fun y25 z26 => ?_)
  have h27 : y7 = y25 := (show y25 = y7 by rw [z26, z8, show v21 = v3 from Int32.toInt_inj.mp (by omega)]).symm
  subst h27
  refine r_ki (q_V (As := [.int y7]) (rest := []) (K := 38) (ci := 10) S X (c_X12_why l G t10 hJ.1 y7 (R_any _)  ) ckL_70 (Nat.le_of_ble_eq_true rfl) rfl (fun _ => ⟨_, rfl⟩) ⟨_, _, rfl⟩ ⟨Nat.le_of_ble_eq_true rfl, Nat.le_of_ble_eq_true rfl⟩ rfl hl.1 rfl (Nat.le_of_ble_eq_true rfl) dL_law_503 ⟨by show _ ≤ 601024; omega, by show _ ≤ 7293034; omega⟩) X (fun r28 t29 H lc q30 X => ?_)
  obtain ⟨k33, k34, k35⟩ := k_X12_why q30
  obtain ⟨hJ, e32, n31⟩ := j_X12_why hJ q30
  have h36 := congrArg Int32.toInt e32
  have h37 := congrArg Int32.toInt n31
  refine r_pop S dL_law_506 rfl ?_
  refine r_goto (tgt := 1291) S dL_law_507 (by decide) ?_
  refine w_widen (k := cells + 1) (n := slots + 6) (by omega) (by omega) ?_
  exact kk H lc ls t29 hJ ⟨⟨by omega, by omega⟩, ZZ_kp hZZ (zk_X11_why q11) (zk_X12_why q30) (by omega)⟩ X (lv_sub hl [0, 1, 2, 3, 4] rfl)
set_option maxHeartbeats 8000000 in
set_option maxRecDepth 100000 in
theorem lc_cross {p : Program} {l : Launch} {e : Env} {s : State} {m : MethodId} {below : List Frame} {meth : Method} {c : Code} {b L : Nat} {xs : Nat → Int32} {G : Gx} {Q : State → Prop} (hst : l.stackTraces = false) (S : Sx G p m c code 7 s #[Value.ref b] RL) (hZ : Zs G s) (hX : va_X b L xs s s.heap) (hbl : b < s.heap.size) (hbA : ¬ G.2.2.2.2 b) (hL : L ≤ 3072) {H : Heap} {lc : List Loc} {ls : Array Slot} {τ : Tau} {cells slots : Nat} {i : Int32} (hi : 0 ≤ i.toInt ∧ i.toInt + 6 ≤ L) (hR : cells + 1 ≤ 601024 ∧ slots + 6 ≤ 7293034) (hJ : JJ τ) (hlen : ((τ 1 1).toInt = (τ 131 2).toInt ∧ (τ 0 11).toInt = (τ 152 0).toInt + 2 * (τ 152 1).toInt) ∧ ZZ τ) (X : Xd G s H lc τ) (hl : lv_has ls 7 [(0, .ref b), (1, .ref (G.2.2.2.1 0)), (2, .ref (G.2.2.2.1 131)), (3, .ref (G.2.2.2.1 153)), (4, .int i)]) (kk : ∀ (H : Heap) (lc : List Loc) (ls : Array Slot) (τ : Tau), JJ τ → (((τ 1 1).toInt = (τ 131 2).toInt ∧ (τ 0 11).toInt = (τ 152 0).toInt + 2 * (τ 152 1).toInt) ∧ ZZ τ) → Xd G s H lc τ → lv_has ls 7 [(0, .ref b), (1, .ref (G.2.2.2.1 0)), (2, .ref (G.2.2.2.1 131)), (3, .ref (G.2.2.2.1 153)), (4, .int i)] → W p l e room_1 s m #[Value.ref b] below meth c H lc (cells + 1) (slots + 6) Q (F0 m 1291 ls [])) : W p l e room_1 s m #[Value.ref b] below meth c H lc cells slots Q (F0 m 510 ls []) := by
  obtain ⟨hA1, hA2⟩ := hlen.1
  have hZZ := hlen.2
  have rl : R 0 940 (τ 1 1) := rd (K := 1) hJ.1 rfl rfl
  have ri : R 0 3072 i := ⟨by omega, by omega⟩
  refine r_aload_n S dL_law_510 rfl (lv_at hl 1 rfl) ?_
  refine r_aload_n S dL_law_511 rfl (lv_at hl 0 rfl) ?_
  refine r_iload S dL_law_512 (lv_at hl 4 rfl) ?_
  refine r_iconst S dL_law_514 (by decide) (fun v1 z2 => ?_)
  refine r_iadd S dL_law_515 (fun v3 z4 => ?_)
  obtain ⟨e5, r6⟩ := i_add (lo := 1) (hi := 3073) z4 ri (R_eq z2) rfl
  refine va_sld S.1.1 S.1.2.1 hX hbl hbA X.2 (vp_in_iff.mpr ⟨by omega, by omega⟩) dL_law_516 ?_
  refine lv_topi (fun y7 z8 => ?_)
  refine r_ki (q_V (As := [.int y7]) (rest := []) (K := 0) (ci := 9) S X (c_X11_cross l G τ hJ.1 y7 (R_any _) hJ.2.1 hJ.2.2.1 ) ckL_71 (Nat.le_of_ble_eq_true rfl) rfl (fun _ => ⟨_, rfl⟩) ⟨_, _, rfl⟩ ⟨Nat.le_of_ble_eq_true rfl, Nat.le_of_ble_eq_true rfl⟩ rfl hl.1 rfl (Nat.le_of_ble_eq_true rfl) dL_law_517 ⟨by show _ ≤ 601024; omega, by show _ ≤ 7293034; omega⟩) X (fun r9 t10 H lc q11 X => ?_)
  obtain ⟨k14, k15, k16⟩ := k_X11_cross q11
  obtain ⟨hJ, e13, n12⟩ := j_X11_cross hJ q11
  have h17 := congrArg Int32.toInt e13
  have h18 := congrArg Int32.toInt n12
  refine r_pop S dL_law_520 rfl ?_
  refine r_aload_n S dL_law_521 rfl (lv_at hl 2 rfl) ?_
  refine r_aload_n S dL_law_522 rfl (lv_at hl 0 rfl) ?_
  refine r_iload S dL_law_523 (lv_at hl 4 rfl) ?_
  refine r_iconst S dL_law_525 (by decide) (fun v19 z20 => ?_)
  refine r_iadd S dL_law_526 (fun v21 z22 => ?_)
  obtain ⟨e23, r24⟩ := i_add (lo := 1) (hi := 3073) z22 ri (R_eq z20) rfl
  refine va_sld S.1.1 S.1.2.1 hX hbl hbA X.2 (vp_in_iff.mpr ⟨by omega, by omega⟩) dL_law_527 ?_
  refine lv_topi (fun y25 z26 => ?_)
  have h27 : y7 = y25 := (show y25 = y7 by rw [z26, z8, show v21 = v3 from Int32.toInt_inj.mp (by omega)]).symm
  subst h27
  refine r_ki (q_V (As := [.int y7]) (rest := []) (K := 38) (ci := 10) S X (c_X12_cross_x l G t10 hJ.1 y7 (R_any _)  ) ckL_74 (Nat.le_of_ble_eq_true rfl) rfl (fun _ => ⟨_, rfl⟩) ⟨_, _, rfl⟩ ⟨Nat.le_of_ble_eq_true rfl, Nat.le_of_ble_eq_true rfl⟩ rfl hl.1 rfl (Nat.le_of_ble_eq_true rfl) dL_law_528 ⟨by show _ ≤ 601024; omega, by show _ ≤ 7293034; omega⟩) X (fun r28 t29 H lc q30 X => ?_)
  obtain ⟨k33, k34, k35⟩ := k_X12_cross_x q30
  obtain ⟨hJ, e32, n31⟩ := j_X12_cross_x hJ q30
  have h36 := congrArg Int32.toInt e32
  have h37 := congrArg Int32.toInt n31
  refine r_pop S dL_law_531 rfl ?_
  refine r_goto (tgt := 1291) S dL_law_532 (by decide) ?_
  refine w_widen (k := cells + 1) (n := slots + 6) (by omega) (by omega) ?_
  exact kk H lc ls t29 hJ ⟨⟨by omega, by omega⟩, ZZ_kp hZZ (zk_X11_cross q11) (zk_X12_cross_x q30) (by omega)⟩ X (lv_sub hl [0, 1, 2, 3, 4] rfl)
set_option maxHeartbeats 8000000 in
set_option maxRecDepth 100000 in
theorem lc_raise {p : Program} {l : Launch} {e : Env} {s : State} {m : MethodId} {below : List Frame} {meth : Method} {c : Code} {b L : Nat} {xs : Nat → Int32} {G : Gx} {Q : State → Prop} (hst : l.stackTraces = false) (S : Sx G p m c code 7 s #[Value.ref b] RL) (hZ : Zs G s) (hX : va_X b L xs s s.heap) (hbl : b < s.heap.size) (hbA : ¬ G.2.2.2.2 b) (hL : L ≤ 3072) {H : Heap} {lc : List Loc} {ls : Array Slot} {τ : Tau} {cells slots : Nat} {i : Int32} (hi : 0 ≤ i.toInt ∧ i.toInt + 6 ≤ L) (hR : cells + 1 ≤ 601024 ∧ slots + 6 ≤ 7293034) (hJ : JJ τ) (hlen : ((τ 1 1).toInt = (τ 131 2).toInt ∧ (τ 0 11).toInt = (τ 152 0).toInt + 2 * (τ 152 1).toInt) ∧ ZZ τ) (X : Xd G s H lc τ) (hl : lv_has ls 7 [(0, .ref b), (1, .ref (G.2.2.2.1 0)), (2, .ref (G.2.2.2.1 131)), (3, .ref (G.2.2.2.1 153)), (4, .int i)]) (kk : ∀ (H : Heap) (lc : List Loc) (ls : Array Slot) (τ : Tau), JJ τ → (((τ 1 1).toInt = (τ 131 2).toInt ∧ (τ 0 11).toInt = (τ 152 0).toInt + 2 * (τ 152 1).toInt) ∧ ZZ τ) → Xd G s H lc τ → lv_has ls 7 [(0, .ref b), (1, .ref (G.2.2.2.1 0)), (2, .ref (G.2.2.2.1 131)), (3, .ref (G.2.2.2.1 153)), (4, .int i)] → W p l e room_1 s m #[Value.ref b] below meth c H lc (cells + 1) (slots + 6) Q (F0 m 1291 ls [])) : W p l e room_1 s m #[Value.ref b] below meth c H lc cells slots Q (F0 m 535 ls []) := by
  obtain ⟨hA1, hA2⟩ := hlen.1
  have hZZ := hlen.2
  have rl : R 0 940 (τ 1 1) := rd (K := 1) hJ.1 rfl rfl
  have ri : R 0 3072 i := ⟨by omega, by omega⟩
  refine r_aload_n S dL_law_535 rfl (lv_at hl 1 rfl) ?_
  refine r_aload_n S dL_law_536 rfl (lv_at hl 0 rfl) ?_
  refine r_iload S dL_law_537 (lv_at hl 4 rfl) ?_
  refine r_iconst S dL_law_539 (by decide) (fun v1 z2 => ?_)
  refine r_iadd S dL_law_540 (fun v3 z4 => ?_)
  obtain ⟨e5, r6⟩ := i_add (lo := 1) (hi := 3073) z4 ri (R_eq z2) rfl
  refine va_sld S.1.1 S.1.2.1 hX hbl hbA X.2 (vp_in_iff.mpr ⟨by omega, by omega⟩) dL_law_541 ?_
  refine lv_topi (fun y7 z8 => ?_)
  refine r_ki (q_V (As := [.int y7]) (rest := []) (K := 0) (ci := 9) S X (c_X11_raise l G τ hJ.1 y7 (R_any _) hJ.2.1 hJ.2.2.1 ) ckL_75 (Nat.le_of_ble_eq_true rfl) rfl (fun _ => ⟨_, rfl⟩) ⟨_, _, rfl⟩ ⟨Nat.le_of_ble_eq_true rfl, Nat.le_of_ble_eq_true rfl⟩ rfl hl.1 rfl (Nat.le_of_ble_eq_true rfl) dL_law_542 ⟨by show _ ≤ 601024; omega, by show _ ≤ 7293034; omega⟩) X (fun r9 t10 H lc q11 X => ?_)
  obtain ⟨k14, k15, k16⟩ := k_X11_raise q11
  obtain ⟨hJ, e13, n12⟩ := j_X11_raise hJ q11
  have h17 := congrArg Int32.toInt e13
  have h18 := congrArg Int32.toInt n12
  refine r_pop S dL_law_545 rfl ?_
  refine r_aload_n S dL_law_546 rfl (lv_at hl 2 rfl) ?_
  refine r_aload_n S dL_law_547 rfl (lv_at hl 0 rfl) ?_
  refine r_iload S dL_law_548 (lv_at hl 4 rfl) ?_
  refine r_iconst S dL_law_550 (by decide) (fun v19 z20 => ?_)
  refine r_iadd S dL_law_551 (fun v21 z22 => ?_)
  obtain ⟨e23, r24⟩ := i_add (lo := 1) (hi := 3073) z22 ri (R_eq z20) rfl
  refine va_sld S.1.1 S.1.2.1 hX hbl hbA X.2 (vp_in_iff.mpr ⟨by omega, by omega⟩) dL_law_552 ?_
  refine lv_topi (fun y25 z26 => ?_)
  have h27 : y7 = y25 := (show y25 = y7 by rw [z26, z8, show v21 = v3 from Int32.toInt_inj.mp (by omega)]).symm
  subst h27
  refine r_ki (q_V (As := [.int y7]) (rest := []) (K := 38) (ci := 10) S X (c_X12_raise_x l G t10 hJ.1 y7 (R_any _)  ) ckL_78 (Nat.le_of_ble_eq_true rfl) rfl (fun _ => ⟨_, rfl⟩) ⟨_, _, rfl⟩ ⟨Nat.le_of_ble_eq_true rfl, Nat.le_of_ble_eq_true rfl⟩ rfl hl.1 rfl (Nat.le_of_ble_eq_true rfl) dL_law_553 ⟨by show _ ≤ 601024; omega, by show _ ≤ 7293034; omega⟩) X (fun r28 t29 H lc q30 X => ?_)
  obtain ⟨k33, k34, k35⟩ := k_X12_raise_x q30
  obtain ⟨hJ, e32, n31⟩ := j_X12_raise_x hJ q30
  have h36 := congrArg Int32.toInt e32
  have h37 := congrArg Int32.toInt n31
  refine r_pop S dL_law_556 rfl ?_
  refine r_goto (tgt := 1291) S dL_law_557 (by decide) ?_
  refine w_widen (k := cells + 1) (n := slots + 6) (by omega) (by omega) ?_
  exact kk H lc ls t29 hJ ⟨⟨by omega, by omega⟩, ZZ_kp hZZ (zk_X11_raise q11) (zk_X12_raise_x q30) (by omega)⟩ X (lv_sub hl [0, 1, 2, 3, 4] rfl)
set_option maxHeartbeats 8000000 in
set_option maxRecDepth 100000 in
theorem lc_hire {p : Program} {l : Launch} {e : Env} {s : State} {m : MethodId} {below : List Frame} {meth : Method} {c : Code} {b L : Nat} {xs : Nat → Int32} {G : Gx} {Q : State → Prop} (hst : l.stackTraces = false) (S : Sx G p m c code 7 s #[Value.ref b] RL) (hZ : Zs G s) (hX : va_X b L xs s s.heap) (hbl : b < s.heap.size) (hbA : ¬ G.2.2.2.2 b) (hL : L ≤ 3072) {H : Heap} {lc : List Loc} {ls : Array Slot} {τ : Tau} {cells slots : Nat} {i : Int32} (hi : 0 ≤ i.toInt ∧ i.toInt + 6 ≤ L) (hR : cells + 1 ≤ 601024 ∧ slots + 6 ≤ 7293034) (hJ : JJ τ) (hlen : ((τ 1 1).toInt = (τ 131 2).toInt ∧ (τ 0 11).toInt = (τ 152 0).toInt + 2 * (τ 152 1).toInt) ∧ ZZ τ) (X : Xd G s H lc τ) (hl : lv_has ls 7 [(0, .ref b), (1, .ref (G.2.2.2.1 0)), (2, .ref (G.2.2.2.1 131)), (3, .ref (G.2.2.2.1 153)), (4, .int i)]) (kk : ∀ (H : Heap) (lc : List Loc) (ls : Array Slot) (τ : Tau), JJ τ → (((τ 1 1).toInt = (τ 131 2).toInt ∧ (τ 0 11).toInt = (τ 152 0).toInt + 2 * (τ 152 1).toInt) ∧ ZZ τ) → Xd G s H lc τ → lv_has ls 7 [(0, .ref b), (1, .ref (G.2.2.2.1 0)), (2, .ref (G.2.2.2.1 131)), (3, .ref (G.2.2.2.1 153)), (4, .int i)] → W p l e room_1 s m #[Value.ref b] below meth c H lc (cells + 1) (slots + 6) Q (F0 m 1291 ls [])) : W p l e room_1 s m #[Value.ref b] below meth c H lc cells slots Q (F0 m 560 ls []) := by
  obtain ⟨hA1, hA2⟩ := hlen.1
  have hZZ := hlen.2
  have rl : R 0 940 (τ 1 1) := rd (K := 1) hJ.1 rfl rfl
  have ri : R 0 3072 i := ⟨by omega, by omega⟩
  refine r_aload_n S dL_law_560 rfl (lv_at hl 1 rfl) ?_
  refine r_aload_n S dL_law_561 rfl (lv_at hl 0 rfl) ?_
  refine r_iload S dL_law_562 (lv_at hl 4 rfl) ?_
  refine r_iconst S dL_law_564 (by decide) (fun v1 z2 => ?_)
  refine r_iadd S dL_law_565 (fun v3 z4 => ?_)
  obtain ⟨e5, r6⟩ := i_add (lo := 1) (hi := 3073) z4 ri (R_eq z2) rfl
  refine va_sld S.1.1 S.1.2.1 hX hbl hbA X.2 (vp_in_iff.mpr ⟨by omega, by omega⟩) dL_law_566 ?_
  refine lv_topi (fun y7 z8 => ?_)
  refine r_ki (q_V (As := [.int y7]) (rest := []) (K := 0) (ci := 9) S X (c_X11_hire l G τ hJ.1 y7 (R_any _) hJ.2.1 hJ.2.2.1 ) ckL_79 (Nat.le_of_ble_eq_true rfl) rfl (fun _ => ⟨_, rfl⟩) ⟨_, _, rfl⟩ ⟨Nat.le_of_ble_eq_true rfl, Nat.le_of_ble_eq_true rfl⟩ rfl hl.1 rfl (Nat.le_of_ble_eq_true rfl) dL_law_567 ⟨by show _ ≤ 601024; omega, by show _ ≤ 7293034; omega⟩) X (fun r9 t10 H lc q11 X => ?_)
  obtain ⟨k14, k15, k16⟩ := k_X11_hire q11
  obtain ⟨hJ, e13, n12⟩ := j_X11_hire hJ q11
  have h17 := congrArg Int32.toInt e13
  have h18 := congrArg Int32.toInt n12
  refine r_pop S dL_law_570 rfl ?_
  refine r_aload_n S dL_law_571 rfl (lv_at hl 2 rfl) ?_
  refine r_aload_n S dL_law_572 rfl (lv_at hl 0 rfl) ?_
  refine r_iload S dL_law_573 (lv_at hl 4 rfl) ?_
  refine r_iconst S dL_law_575 (by decide) (fun v19 z20 => ?_)
  refine r_iadd S dL_law_576 (fun v21 z22 => ?_)
  obtain ⟨e23, r24⟩ := i_add (lo := 1) (hi := 3073) z22 ri (R_eq z20) rfl
  refine va_sld S.1.1 S.1.2.1 hX hbl hbA X.2 (vp_in_iff.mpr ⟨by omega, by omega⟩) dL_law_577 ?_
  refine lv_topi (fun y25 z26 => ?_)
  have h27 : y7 = y25 := (show y25 = y7 by rw [z26, z8, show v21 = v3 from Int32.toInt_inj.mp (by omega)]).symm
  subst h27
  refine r_ki (q_V (As := [.int y7]) (rest := []) (K := 38) (ci := 10) S X (c_X12_hire_x l G t10 hJ.1 y7 (R_any _)  ) ckL_82 (Nat.le_of_ble_eq_true rfl) rfl (fun _ => ⟨_, rfl⟩) ⟨_, _, rfl⟩ ⟨Nat.le_of_ble_eq_true rfl, Nat.le_of_ble_eq_true rfl⟩ rfl hl.1 rfl (Nat.le_of_ble_eq_true rfl) dL_law_578 ⟨by show _ ≤ 601024; omega, by show _ ≤ 7293034; omega⟩) X (fun r28 t29 H lc q30 X => ?_)
  obtain ⟨k33, k34, k35⟩ := k_X12_hire_x q30
  obtain ⟨hJ, e32, n31⟩ := j_X12_hire_x hJ q30
  have h36 := congrArg Int32.toInt e32
  have h37 := congrArg Int32.toInt n31
  refine r_pop S dL_law_581 rfl ?_
  refine r_goto (tgt := 1291) S dL_law_582 (by decide) ?_
  refine w_widen (k := cells + 1) (n := slots + 6) (by omega) (by omega) ?_
  exact kk H lc ls t29 hJ ⟨⟨by omega, by omega⟩, ZZ_kp hZZ (zk_X11_hire q11) (zk_X12_hire_x q30) (by omega)⟩ X (lv_sub hl [0, 1, 2, 3, 4] rfl)
set_option maxHeartbeats 8000000 in
set_option maxRecDepth 100000 in
theorem lc_lie {p : Program} {l : Launch} {e : Env} {s : State} {m : MethodId} {below : List Frame} {meth : Method} {c : Code} {b L : Nat} {xs : Nat → Int32} {G : Gx} {Q : State → Prop} (hst : l.stackTraces = false) (S : Sx G p m c code 7 s #[Value.ref b] RL) (hZ : Zs G s) (hX : va_X b L xs s s.heap) (hbl : b < s.heap.size) (hbA : ¬ G.2.2.2.2 b) (hL : L ≤ 3072) {H : Heap} {lc : List Loc} {ls : Array Slot} {τ : Tau} {cells slots : Nat} {i : Int32} (hi : 0 ≤ i.toInt ∧ i.toInt + 6 ≤ L) (hR : cells + 1 ≤ 601024 ∧ slots + 6 ≤ 7293034) (hJ : JJ τ) (hlen : ((τ 1 1).toInt = (τ 131 2).toInt ∧ (τ 0 11).toInt = (τ 152 0).toInt + 2 * (τ 152 1).toInt) ∧ ZZ τ) (X : Xd G s H lc τ) (hl : lv_has ls 7 [(0, .ref b), (1, .ref (G.2.2.2.1 0)), (2, .ref (G.2.2.2.1 131)), (3, .ref (G.2.2.2.1 153)), (4, .int i)]) (kk : ∀ (H : Heap) (lc : List Loc) (ls : Array Slot) (τ : Tau), JJ τ → (((τ 1 1).toInt = (τ 131 2).toInt ∧ (τ 0 11).toInt = (τ 152 0).toInt + 2 * (τ 152 1).toInt) ∧ ZZ τ) → Xd G s H lc τ → lv_has ls 7 [(0, .ref b), (1, .ref (G.2.2.2.1 0)), (2, .ref (G.2.2.2.1 131)), (3, .ref (G.2.2.2.1 153)), (4, .int i)] → W p l e room_1 s m #[Value.ref b] below meth c H lc (cells + 1) (slots + 6) Q (F0 m 1291 ls [])) : W p l e room_1 s m #[Value.ref b] below meth c H lc cells slots Q (F0 m 585 ls []) := by
  obtain ⟨hA1, hA2⟩ := hlen.1
  have hZZ := hlen.2
  have rl : R 0 940 (τ 1 1) := rd (K := 1) hJ.1 rfl rfl
  have ri : R 0 3072 i := ⟨by omega, by omega⟩
  refine r_aload_n S dL_law_585 rfl (lv_at hl 1 rfl) ?_
  refine r_aload_n S dL_law_586 rfl (lv_at hl 0 rfl) ?_
  refine r_iload S dL_law_587 (lv_at hl 4 rfl) ?_
  refine r_iconst S dL_law_589 (by decide) (fun v1 z2 => ?_)
  refine r_iadd S dL_law_590 (fun v3 z4 => ?_)
  obtain ⟨e5, r6⟩ := i_add (lo := 1) (hi := 3073) z4 ri (R_eq z2) rfl
  refine va_sld S.1.1 S.1.2.1 hX hbl hbA X.2 (vp_in_iff.mpr ⟨by omega, by omega⟩) dL_law_591 ?_
  refine lv_topi (fun y7 z8 => ?_)
  refine r_aload_n S dL_law_592 rfl (lv_at hl 0 rfl) ?_
  refine r_iload S dL_law_593 (lv_at hl 4 rfl) ?_
  refine r_iconst S dL_law_595 (by decide) (fun v9 z10 => ?_)
  refine r_iadd S dL_law_596 (fun v11 z12 => ?_)
  obtain ⟨e13, r14⟩ := i_add (lo := 2) (hi := 3074) z12 ri (R_eq z10) rfl
  refine va_sld S.1.1 S.1.2.1 hX hbl hbA X.2 (vp_in_iff.mpr ⟨by omega, by omega⟩) dL_law_597 ?_
  refine lv_topi (fun y15 z16 => ?_)
  refine r_aload_n S dL_law_598 rfl (lv_at hl 0 rfl) ?_
  refine r_iload S dL_law_599 (lv_at hl 4 rfl) ?_
  refine r_iconst S dL_law_601 (by decide) (fun v17 z18 => ?_)
  refine r_iadd S dL_law_602 (fun v19 z20 => ?_)
  obtain ⟨e21, r22⟩ := i_add (lo := 3) (hi := 3075) z20 ri (R_eq z18) rfl
  refine va_sld S.1.1 S.1.2.1 hX hbl hbA X.2 (vp_in_iff.mpr ⟨by omega, by omega⟩) dL_law_603 ?_
  refine lv_topi (fun y23 z24 => ?_)
  refine r_ki (q_V (As := [.int y7, .int y15, .int y23]) (rest := []) (K := 0) (ci := 9) S X (c_X11_lie l G τ hJ.1 y7 y15 y23 (R_any _) (R_any _) (R_any _) hJ.2.1 hJ.2.2.1 ) ckL_83 (Nat.le_of_ble_eq_true rfl) rfl (fun _ => ⟨_, rfl⟩) ⟨_, _, rfl⟩ ⟨Nat.le_of_ble_eq_true rfl, Nat.le_of_ble_eq_true rfl⟩ rfl hl.1 rfl (Nat.le_of_ble_eq_true rfl) dL_law_604 ⟨by show _ ≤ 601024; omega, by show _ ≤ 7293034; omega⟩) X (fun r25 t26 H lc q27 X => ?_)
  obtain ⟨k30, k31, k32⟩ := k_X11_lie q27
  obtain ⟨hJ, e29, n28⟩ := j_X11_lie hJ q27
  have h33 := congrArg Int32.toInt e29
  have h34 := congrArg Int32.toInt n28
  refine r_pop S dL_law_607 rfl ?_
  refine r_aload_n S dL_law_608 rfl (lv_at hl 2 rfl) ?_
  refine r_aload_n S dL_law_609 rfl (lv_at hl 0 rfl) ?_
  refine r_iload S dL_law_610 (lv_at hl 4 rfl) ?_
  refine r_iconst S dL_law_612 (by decide) (fun v35 z36 => ?_)
  refine r_iadd S dL_law_613 (fun v37 z38 => ?_)
  obtain ⟨e39, r40⟩ := i_add (lo := 1) (hi := 3073) z38 ri (R_eq z36) rfl
  refine va_sld S.1.1 S.1.2.1 hX hbl hbA X.2 (vp_in_iff.mpr ⟨by omega, by omega⟩) dL_law_614 ?_
  refine lv_topi (fun y41 z42 => ?_)
  have h43 : y7 = y41 := (show y41 = y7 by rw [z42, z8, show v37 = v3 from Int32.toInt_inj.mp (by omega)]).symm
  subst h43
  refine r_aload_n S dL_law_615 rfl (lv_at hl 0 rfl) ?_
  refine r_iload S dL_law_616 (lv_at hl 4 rfl) ?_
  refine r_iconst S dL_law_618 (by decide) (fun v44 z45 => ?_)
  refine r_iadd S dL_law_619 (fun v46 z47 => ?_)
  obtain ⟨e48, r49⟩ := i_add (lo := 2) (hi := 3074) z47 ri (R_eq z45) rfl
  refine va_sld S.1.1 S.1.2.1 hX hbl hbA X.2 (vp_in_iff.mpr ⟨by omega, by omega⟩) dL_law_620 ?_
  refine lv_topi (fun y50 z51 => ?_)
  have h52 : y15 = y50 := (show y50 = y15 by rw [z51, z16, show v46 = v11 from Int32.toInt_inj.mp (by omega)]).symm
  subst h52
  refine r_aload_n S dL_law_621 rfl (lv_at hl 0 rfl) ?_
  refine r_iload S dL_law_622 (lv_at hl 4 rfl) ?_
  refine r_iconst S dL_law_624 (by decide) (fun v53 z54 => ?_)
  refine r_iadd S dL_law_625 (fun v55 z56 => ?_)
  obtain ⟨e57, r58⟩ := i_add (lo := 3) (hi := 3075) z56 ri (R_eq z54) rfl
  refine va_sld S.1.1 S.1.2.1 hX hbl hbA X.2 (vp_in_iff.mpr ⟨by omega, by omega⟩) dL_law_626 ?_
  refine lv_topi (fun y59 z60 => ?_)
  have h61 : y23 = y59 := (show y59 = y23 by rw [z60, z24, show v55 = v19 from Int32.toInt_inj.mp (by omega)]).symm
  subst h61
  refine r_ki (q_V (As := [.int y7, .int y15, .int y23]) (rest := []) (K := 38) (ci := 10) S X (c_X12_lie_x l G t26 hJ.1 y7 y15 y23 (R_any _) (R_any _) (R_any _)  ) ckL_87 (Nat.le_of_ble_eq_true rfl) rfl (fun _ => ⟨_, rfl⟩) ⟨_, _, rfl⟩ ⟨Nat.le_of_ble_eq_true rfl, Nat.le_of_ble_eq_true rfl⟩ rfl hl.1 rfl (Nat.le_of_ble_eq_true rfl) dL_law_627 ⟨by show _ ≤ 601024; omega, by show _ ≤ 7293034; omega⟩) X (fun r62 t63 H lc q64 X => ?_)
  obtain ⟨k67, k68, k69⟩ := k_X12_lie_x q64
  obtain ⟨hJ, e66, n65⟩ := j_X12_lie_x hJ q64
  have h70 := congrArg Int32.toInt e66
  have h71 := congrArg Int32.toInt n65
  refine r_pop S dL_law_630 rfl ?_
  refine r_goto (tgt := 1291) S dL_law_631 (by decide) ?_
  refine w_widen (k := cells + 1) (n := slots + 6) (by omega) (by omega) ?_
  exact kk H lc ls t63 hJ ⟨⟨by omega, by omega⟩, ZZ_kp hZZ (zk_X11_lie q27) (zk_X12_lie_x q64) (by omega)⟩ X (lv_sub hl [0, 1, 2, 3, 4] rfl)
set_option maxHeartbeats 8000000 in
set_option maxRecDepth 100000 in
theorem lc_turn {p : Program} {l : Launch} {e : Env} {s : State} {m : MethodId} {below : List Frame} {meth : Method} {c : Code} {b L : Nat} {xs : Nat → Int32} {G : Gx} {Q : State → Prop} (hst : l.stackTraces = false) (S : Sx G p m c code 7 s #[Value.ref b] RL) (hZ : Zs G s) (hX : va_X b L xs s s.heap) (hbl : b < s.heap.size) (hbA : ¬ G.2.2.2.2 b) (hL : L ≤ 3072) {H : Heap} {lc : List Loc} {ls : Array Slot} {τ : Tau} {cells slots : Nat} {i : Int32} (hi : 0 ≤ i.toInt ∧ i.toInt + 6 ≤ L) (hR : cells + 1 ≤ 601024 ∧ slots + 6 ≤ 7293034) (hJ : JJ τ) (hlen : ((τ 1 1).toInt = (τ 131 2).toInt ∧ (τ 0 11).toInt = (τ 152 0).toInt + 2 * (τ 152 1).toInt) ∧ ZZ τ) (X : Xd G s H lc τ) (hl : lv_has ls 7 [(0, .ref b), (1, .ref (G.2.2.2.1 0)), (2, .ref (G.2.2.2.1 131)), (3, .ref (G.2.2.2.1 153)), (4, .int i)]) (kk : ∀ (H : Heap) (lc : List Loc) (ls : Array Slot) (τ : Tau), JJ τ → (((τ 1 1).toInt = (τ 131 2).toInt ∧ (τ 0 11).toInt = (τ 152 0).toInt + 2 * (τ 152 1).toInt) ∧ ZZ τ) → Xd G s H lc τ → lv_has ls 7 [(0, .ref b), (1, .ref (G.2.2.2.1 0)), (2, .ref (G.2.2.2.1 131)), (3, .ref (G.2.2.2.1 153)), (4, .int i)] → W p l e room_1 s m #[Value.ref b] below meth c H lc (cells + 1) (slots + 6) Q (F0 m 1291 ls [])) : W p l e room_1 s m #[Value.ref b] below meth c H lc cells slots Q (F0 m 634 ls []) := by
  obtain ⟨hA1, hA2⟩ := hlen.1
  have hZZ := hlen.2
  have rl : R 0 940 (τ 1 1) := rd (K := 1) hJ.1 rfl rfl
  have ri : R 0 3072 i := ⟨by omega, by omega⟩
  refine r_aload_n S dL_law_634 rfl (lv_at hl 1 rfl) ?_
  refine r_aload_n S dL_law_635 rfl (lv_at hl 0 rfl) ?_
  refine r_iload S dL_law_636 (lv_at hl 4 rfl) ?_
  refine r_iconst S dL_law_638 (by decide) (fun v1 z2 => ?_)
  refine r_iadd S dL_law_639 (fun v3 z4 => ?_)
  obtain ⟨e5, r6⟩ := i_add (lo := 1) (hi := 3073) z4 ri (R_eq z2) rfl
  refine va_sld S.1.1 S.1.2.1 hX hbl hbA X.2 (vp_in_iff.mpr ⟨by omega, by omega⟩) dL_law_640 ?_
  refine lv_topi (fun y7 z8 => ?_)
  refine r_aload_n S dL_law_641 rfl (lv_at hl 0 rfl) ?_
  refine r_iload S dL_law_642 (lv_at hl 4 rfl) ?_
  refine r_iconst S dL_law_644 (by decide) (fun v9 z10 => ?_)
  refine r_iadd S dL_law_645 (fun v11 z12 => ?_)
  obtain ⟨e13, r14⟩ := i_add (lo := 2) (hi := 3074) z12 ri (R_eq z10) rfl
  refine va_sld S.1.1 S.1.2.1 hX hbl hbA X.2 (vp_in_iff.mpr ⟨by omega, by omega⟩) dL_law_646 ?_
  refine lv_topi (fun y15 z16 => ?_)
  refine r_aload_n S dL_law_647 rfl (lv_at hl 0 rfl) ?_
  refine r_iload S dL_law_648 (lv_at hl 4 rfl) ?_
  refine r_iconst S dL_law_650 (by decide) (fun v17 z18 => ?_)
  refine r_iadd S dL_law_651 (fun v19 z20 => ?_)
  obtain ⟨e21, r22⟩ := i_add (lo := 3) (hi := 3075) z20 ri (R_eq z18) rfl
  refine va_sld S.1.1 S.1.2.1 hX hbl hbA X.2 (vp_in_iff.mpr ⟨by omega, by omega⟩) dL_law_652 ?_
  refine lv_topi (fun y23 z24 => ?_)
  refine r_ki (q_V (As := [.int y7, .int y15, .int y23]) (rest := []) (K := 0) (ci := 9) S X (c_X11_turn l G τ hJ.1 y7 y15 y23 (R_any _) (R_any _) (R_any _) hJ.2.1 hJ.2.2.1 ) ckL_88 (Nat.le_of_ble_eq_true rfl) rfl (fun _ => ⟨_, rfl⟩) ⟨_, _, rfl⟩ ⟨Nat.le_of_ble_eq_true rfl, Nat.le_of_ble_eq_true rfl⟩ rfl hl.1 rfl (Nat.le_of_ble_eq_true rfl) dL_law_653 ⟨by show _ ≤ 601024; omega, by show _ ≤ 7293034; omega⟩) X (fun r25 t26 H lc q27 X => ?_)
  obtain ⟨k30, k31, k32⟩ := k_X11_turn q27
  obtain ⟨hJ, e29, n28⟩ := j_X11_turn hJ q27
  have h33 := congrArg Int32.toInt e29
  have h34 := congrArg Int32.toInt n28
  refine r_pop S dL_law_656 rfl ?_
  refine r_aload_n S dL_law_657 rfl (lv_at hl 2 rfl) ?_
  refine r_aload_n S dL_law_658 rfl (lv_at hl 0 rfl) ?_
  refine r_iload S dL_law_659 (lv_at hl 4 rfl) ?_
  refine r_iconst S dL_law_661 (by decide) (fun v35 z36 => ?_)
  refine r_iadd S dL_law_662 (fun v37 z38 => ?_)
  obtain ⟨e39, r40⟩ := i_add (lo := 1) (hi := 3073) z38 ri (R_eq z36) rfl
  refine va_sld S.1.1 S.1.2.1 hX hbl hbA X.2 (vp_in_iff.mpr ⟨by omega, by omega⟩) dL_law_663 ?_
  refine lv_topi (fun y41 z42 => ?_)
  have h43 : y7 = y41 := (show y41 = y7 by rw [z42, z8, show v37 = v3 from Int32.toInt_inj.mp (by omega)]).symm
  subst h43
  refine r_aload_n S dL_law_664 rfl (lv_at hl 0 rfl) ?_
  refine r_iload S dL_law_665 (lv_at hl 4 rfl) ?_
  refine r_iconst S dL_law_667 (by decide) (fun v44 z45 => ?_)
  refine r_iadd S dL_law_668 (fun v46 z47 => ?_)
  obtain ⟨e48, r49⟩ := i_add (lo := 2) (hi := 3074) z47 ri (R_eq z45) rfl
  refine va_sld S.1.1 S.1.2.1 hX hbl hbA X.2 (vp_in_iff.mpr ⟨by omega, by omega⟩) dL_law_669 ?_
  refine lv_topi (fun y50 z51 => ?_)
  have h52 : y15 = y50 := (show y50 = y15 by rw [z51, z16, show v46 = v11 from Int32.toInt_inj.mp (by omega)]).symm
  subst h52
  refine r_aload_n S dL_law_670 rfl (lv_at hl 0 rfl) ?_
  refine r_iload S dL_law_671 (lv_at hl 4 rfl) ?_
  refine r_iconst S dL_law_673 (by decide) (fun v53 z54 => ?_)
  refine r_iadd S dL_law_674 (fun v55 z56 => ?_)
  obtain ⟨e57, r58⟩ := i_add (lo := 3) (hi := 3075) z56 ri (R_eq z54) rfl
  refine va_sld S.1.1 S.1.2.1 hX hbl hbA X.2 (vp_in_iff.mpr ⟨by omega, by omega⟩) dL_law_675 ?_
  refine lv_topi (fun y59 z60 => ?_)
  have h61 : y23 = y59 := (show y59 = y23 by rw [z60, z24, show v55 = v19 from Int32.toInt_inj.mp (by omega)]).symm
  subst h61
  refine r_ki (q_V (As := [.int y7, .int y15, .int y23]) (rest := []) (K := 38) (ci := 10) S X (c_X12_turn_x l G t26 hJ.1 y7 y15 y23 (R_any _) (R_any _) (R_any _)  ) ckL_91 (Nat.le_of_ble_eq_true rfl) rfl (fun _ => ⟨_, rfl⟩) ⟨_, _, rfl⟩ ⟨Nat.le_of_ble_eq_true rfl, Nat.le_of_ble_eq_true rfl⟩ rfl hl.1 rfl (Nat.le_of_ble_eq_true rfl) dL_law_676 ⟨by show _ ≤ 601024; omega, by show _ ≤ 7293034; omega⟩) X (fun r62 t63 H lc q64 X => ?_)
  obtain ⟨k67, k68, k69⟩ := k_X12_turn_x q64
  obtain ⟨hJ, e66, n65⟩ := j_X12_turn_x hJ q64
  have h70 := congrArg Int32.toInt e66
  have h71 := congrArg Int32.toInt n65
  refine r_pop S dL_law_679 rfl ?_
  refine r_goto (tgt := 1291) S dL_law_680 (by decide) ?_
  refine w_widen (k := cells + 1) (n := slots + 6) (by omega) (by omega) ?_
  exact kk H lc ls t63 hJ ⟨⟨by omega, by omega⟩, ZZ_kp hZZ (zk_X11_turn q27) (zk_X12_turn_x q64) (by omega)⟩ X (lv_sub hl [0, 1, 2, 3, 4] rfl)
set_option maxHeartbeats 8000000 in
set_option maxRecDepth 100000 in
theorem lc_undo {p : Program} {l : Launch} {e : Env} {s : State} {m : MethodId} {below : List Frame} {meth : Method} {c : Code} {b L : Nat} {xs : Nat → Int32} {G : Gx} {Q : State → Prop} (hst : l.stackTraces = false) (S : Sx G p m c code 7 s #[Value.ref b] RL) (hZ : Zs G s) (hX : va_X b L xs s s.heap) (hbl : b < s.heap.size) (hbA : ¬ G.2.2.2.2 b) (hL : L ≤ 3072) {H : Heap} {lc : List Loc} {ls : Array Slot} {τ : Tau} {cells slots : Nat} {i : Int32} (hi : 0 ≤ i.toInt ∧ i.toInt + 6 ≤ L) (hR : cells + 1 ≤ 601024 ∧ slots + 6 ≤ 7293034) (hJ : JJ τ) (hlen : ((τ 1 1).toInt = (τ 131 2).toInt ∧ (τ 0 11).toInt = (τ 152 0).toInt + 2 * (τ 152 1).toInt) ∧ ZZ τ) (X : Xd G s H lc τ) (hl : lv_has ls 7 [(0, .ref b), (1, .ref (G.2.2.2.1 0)), (2, .ref (G.2.2.2.1 131)), (3, .ref (G.2.2.2.1 153)), (4, .int i)]) (kk : ∀ (H : Heap) (lc : List Loc) (ls : Array Slot) (τ : Tau), JJ τ → (((τ 1 1).toInt = (τ 131 2).toInt ∧ (τ 0 11).toInt = (τ 152 0).toInt + 2 * (τ 152 1).toInt) ∧ ZZ τ) → Xd G s H lc τ → lv_has ls 7 [(0, .ref b), (1, .ref (G.2.2.2.1 0)), (2, .ref (G.2.2.2.1 131)), (3, .ref (G.2.2.2.1 153)), (4, .int i)] → W p l e room_1 s m #[Value.ref b] below meth c H lc (cells + 1) (slots + 6) Q (F0 m 1291 ls [])) : W p l e room_1 s m #[Value.ref b] below meth c H lc cells slots Q (F0 m 683 ls []) := by
  obtain ⟨hA1, hA2⟩ := hlen.1
  have hZZ := hlen.2
  have rl : R 0 940 (τ 1 1) := rd (K := 1) hJ.1 rfl rfl
  have ri : R 0 3072 i := ⟨by omega, by omega⟩
  refine r_aload_n S dL_law_683 rfl (lv_at hl 1 rfl) ?_
  refine r_ki (q_V (As := []) (rest := []) (K := 0) (ci := 9) S X (c_X11_undo l G τ hJ.1   hJ.2.1 hJ.2.2.1 ) ckL_92 (Nat.le_of_ble_eq_true rfl) rfl (fun _ => ⟨_, rfl⟩) ⟨_, _, rfl⟩ ⟨Nat.le_of_ble_eq_true rfl, Nat.le_of_ble_eq_true rfl⟩ rfl hl.1 rfl (Nat.le_of_ble_eq_true rfl) dL_law_684 ⟨by show _ ≤ 601024; omega, by show _ ≤ 7293034; omega⟩) X (fun r1 t2 H lc q3 X => ?_)
  obtain ⟨k6, k7, k8⟩ := k_X11_undo q3
  obtain ⟨hJ, e5, n4⟩ := j_X11_undo hJ q3
  have h9 := congrArg Int32.toInt e5
  have h10 := congrArg Int32.toInt n4
  refine r_pop S dL_law_687 rfl ?_
  refine r_aload_n S dL_law_688 rfl (lv_at hl 2 rfl) ?_
  refine r_ki (q_V (As := []) (rest := []) (K := 38) (ci := 10) S X (c_X12_undo_x l G t2 hJ.1    ) ckL_95 (Nat.le_of_ble_eq_true rfl) rfl (fun _ => ⟨_, rfl⟩) ⟨_, _, rfl⟩ ⟨Nat.le_of_ble_eq_true rfl, Nat.le_of_ble_eq_true rfl⟩ rfl hl.1 rfl (Nat.le_of_ble_eq_true rfl) dL_law_689 ⟨by show _ ≤ 601024; omega, by show _ ≤ 7293034; omega⟩) X (fun r11 t12 H lc q13 X => ?_)
  obtain ⟨k16, k17, k18⟩ := k_X12_undo_x q13
  obtain ⟨hJ, e15, n14⟩ := j_X12_undo_x hJ q13
  have h19 := congrArg Int32.toInt e15
  have h20 := congrArg Int32.toInt n14
  refine r_pop S dL_law_692 rfl ?_
  refine r_goto (tgt := 1291) S dL_law_693 (by decide) ?_
  refine w_widen (k := cells + 1) (n := slots + 6) (by omega) (by omega) ?_
  exact kk H lc ls t12 hJ ⟨⟨by omega, by omega⟩, ZZ_kp hZZ (zk_X11_undo q3) (zk_X12_undo_x q13) (by omega)⟩ X (lv_sub hl [0, 1, 2, 3, 4] rfl)
set_option maxHeartbeats 8000000 in
set_option maxRecDepth 100000 in
theorem lc_sum {p : Program} {l : Launch} {e : Env} {s : State} {m : MethodId} {below : List Frame} {meth : Method} {c : Code} {b L : Nat} {xs : Nat → Int32} {G : Gx} {Q : State → Prop} (hst : l.stackTraces = false) (S : Sx G p m c code 7 s #[Value.ref b] RL) (hZ : Zs G s) (hX : va_X b L xs s s.heap) (hbl : b < s.heap.size) (hbA : ¬ G.2.2.2.2 b) (hL : L ≤ 3072) {H : Heap} {lc : List Loc} {ls : Array Slot} {τ : Tau} {cells slots : Nat} {i : Int32} (hi : 0 ≤ i.toInt ∧ i.toInt + 6 ≤ L) (hR : cells + 1 ≤ 601024 ∧ slots + 6 ≤ 7293034) (hJ : JJ τ) (hlen : ((τ 1 1).toInt = (τ 131 2).toInt ∧ (τ 0 11).toInt = (τ 152 0).toInt + 2 * (τ 152 1).toInt) ∧ ZZ τ) (X : Xd G s H lc τ) (hl : lv_has ls 7 [(0, .ref b), (1, .ref (G.2.2.2.1 0)), (2, .ref (G.2.2.2.1 131)), (3, .ref (G.2.2.2.1 153)), (4, .int i)]) (kk : ∀ (H : Heap) (lc : List Loc) (ls : Array Slot) (τ : Tau), JJ τ → (((τ 1 1).toInt = (τ 131 2).toInt ∧ (τ 0 11).toInt = (τ 152 0).toInt + 2 * (τ 152 1).toInt) ∧ ZZ τ) → Xd G s H lc τ → lv_has ls 7 [(0, .ref b), (1, .ref (G.2.2.2.1 0)), (2, .ref (G.2.2.2.1 131)), (3, .ref (G.2.2.2.1 153)), (4, .int i)] → W p l e room_1 s m #[Value.ref b] below meth c H lc (cells + 1) (slots + 6) Q (F0 m 1291 ls [])) : W p l e room_1 s m #[Value.ref b] below meth c H lc cells slots Q (F0 m 696 ls []) := by
  obtain ⟨hA1, hA2⟩ := hlen.1
  have hZZ := hlen.2
  have rl : R 0 940 (τ 1 1) := rd (K := 1) hJ.1 rfl rfl
  have ri : R 0 3072 i := ⟨by omega, by omega⟩
  refine r_aload_n S dL_law_696 rfl (lv_at hl 1 rfl) ?_
  refine r_aload_n S dL_law_697 rfl (lv_at hl 0 rfl) ?_
  refine r_iload S dL_law_698 (lv_at hl 4 rfl) ?_
  refine r_iconst S dL_law_700 (by decide) (fun v1 z2 => ?_)
  refine r_iadd S dL_law_701 (fun v3 z4 => ?_)
  obtain ⟨e5, r6⟩ := i_add (lo := 1) (hi := 3073) z4 ri (R_eq z2) rfl
  refine va_sld S.1.1 S.1.2.1 hX hbl hbA X.2 (vp_in_iff.mpr ⟨by omega, by omega⟩) dL_law_702 ?_
  refine lv_topi (fun y7 z8 => ?_)
  refine r_aload_n S dL_law_703 rfl (lv_at hl 3 rfl) ?_
  refine r_kl (q_SW (As := [.ref (G.2.2.2.1 0), .int y7, .ref (G.2.2.2.1 153)]) (rest := []) S hZ X (c_L_sum l hst G τ hJ.1 y7 hJ.2.1) ckW_96 ⟨Nat.le_of_ble_eq_true rfl, Nat.le_of_ble_eq_true rfl⟩ rfl hl.1 rfl (Nat.le_of_ble_eq_true rfl) dL_law_704 ⟨by show _ ≤ 601024; omega, by show _ ≤ 7293034; omega⟩) X (fun r9 t10 H lc q11 X => ?_)
  obtain ⟨k12, k13, k14⟩ := k_thr q11
  obtain ⟨hJ, e15, e16⟩ := j_thr hJ q11
  have h17 := congrArg Int32.toInt e15
  have h18 := congrArg Int32.toInt e16
  refine r_istore (lv' := [(5, .int r9), (0, .ref b), (1, .ref (G.2.2.2.1 0)), (2, .ref (G.2.2.2.1 131)), (3, .ref (G.2.2.2.1 153)), (4, .int i)]) S dL_law_707 hl (by decide) rfl (fun ls hl => ?_)
  refine r_aload_n S dL_law_709 rfl (lv_at hl 3 rfl) ?_
  refine r_aload_n S dL_law_710 rfl (lv_at hl 1 rfl) ?_
  refine r_iload S dL_law_711 (lv_at hl 5 rfl) ?_
  refine r_iconst S dL_law_713 (by decide) (fun v19 z20 => ?_)
  refine r_iadd S dL_law_714 (fun v21 z22 => ?_)
  obtain ⟨e23, r24⟩ := i_add (lo := 1) (hi := 3073) z22 ri (R_eq z20) rfl
  refine va_sld S.1.1 S.1.2.1 hX hbl hbA X.2 (vp_in_iff.mpr ⟨by omega, by omega⟩) dL_law_715 ?_
  refine lv_topi (fun y25 z26 => ?_)
  have h27 : y7 = y25 := (show y25 = y7 by rw [z26, z8, show v21 = v3 from Int32.toInt_inj.mp (by omega)]).symm
  subst h27
  refine r_ki (q_V (As := [.int y7]) (rest := []) (K := 38) (ci := 10) S X (c_X12_sum l G t10 hJ.1 y7 (R_any _)  ) ckL_99 (Nat.le_of_ble_eq_true rfl) rfl (fun _ => ⟨_, rfl⟩) ⟨_, _, rfl⟩ ⟨Nat.le_of_ble_eq_true rfl, Nat.le_of_ble_eq_true rfl⟩ rfl hl.1 rfl (Nat.le_of_ble_eq_true rfl) dL_law_716 ⟨by show _ ≤ 601024; omega, by show _ ≤ 7293034; omega⟩) X (fun r28 t29 H lc q30 X => ?_)
  obtain ⟨k33, k34, k35⟩ := k_X12_sum q30
  obtain ⟨hJ, e32, n31⟩ := j_X12_sum hJ q30
  have h36 := congrArg Int32.toInt e32
  have h37 := congrArg Int32.toInt n31
  refine r_istore (lv' := [(6, .int r28), (5, .int r9), (0, .ref b), (1, .ref (G.2.2.2.1 0)), (2, .ref (G.2.2.2.1 131)), (3, .ref (G.2.2.2.1 153)), (4, .int i)]) S dL_law_719 hl (by decide) rfl (fun ls hl => ?_)
  refine r_goto (tgt := 1291) S dL_law_721 (by decide) ?_
  exact kk H lc ls t29 hJ ⟨⟨by omega, by omega⟩, ZZ_kp hZZ (zk_thr q11) (zk_X12_sum q30) (by omega)⟩ X (lv_sub hl [2, 3, 4, 5, 6] rfl)
set_option maxHeartbeats 8000000 in
set_option maxRecDepth 100000 in
theorem lc_crews {p : Program} {l : Launch} {e : Env} {s : State} {m : MethodId} {below : List Frame} {meth : Method} {c : Code} {b L : Nat} {xs : Nat → Int32} {G : Gx} {Q : State → Prop} (hst : l.stackTraces = false) (S : Sx G p m c code 7 s #[Value.ref b] RL) (hZ : Zs G s) (hX : va_X b L xs s s.heap) (hbl : b < s.heap.size) (hbA : ¬ G.2.2.2.2 b) (hL : L ≤ 3072) {H : Heap} {lc : List Loc} {ls : Array Slot} {τ : Tau} {cells slots : Nat} {i : Int32} (hi : 0 ≤ i.toInt ∧ i.toInt + 6 ≤ L) (hR : cells + 1 ≤ 601024 ∧ slots + 6 ≤ 7293034) (hJ : JJ τ) (hlen : ((τ 1 1).toInt = (τ 131 2).toInt ∧ (τ 0 11).toInt = (τ 152 0).toInt + 2 * (τ 152 1).toInt) ∧ ZZ τ) (X : Xd G s H lc τ) (hl : lv_has ls 7 [(0, .ref b), (1, .ref (G.2.2.2.1 0)), (2, .ref (G.2.2.2.1 131)), (3, .ref (G.2.2.2.1 153)), (4, .int i)]) (kk : ∀ (H : Heap) (lc : List Loc) (ls : Array Slot) (τ : Tau), JJ τ → (((τ 1 1).toInt = (τ 131 2).toInt ∧ (τ 0 11).toInt = (τ 152 0).toInt + 2 * (τ 152 1).toInt) ∧ ZZ τ) → Xd G s H lc τ → lv_has ls 7 [(0, .ref b), (1, .ref (G.2.2.2.1 0)), (2, .ref (G.2.2.2.1 131)), (3, .ref (G.2.2.2.1 153)), (4, .int i)] → W p l e room_1 s m #[Value.ref b] below meth c H lc (cells + 1) (slots + 6) Q (F0 m 1291 ls [])) : W p l e room_1 s m #[Value.ref b] below meth c H lc cells slots Q (F0 m 724 ls []) := by
  obtain ⟨hA1, hA2⟩ := hlen.1
  have hZZ := hlen.2
  have rl : R 0 940 (τ 1 1) := rd (K := 1) hJ.1 rfl rfl
  have ri : R 0 3072 i := ⟨by omega, by omega⟩
  refine r_aload_n S dL_law_724 rfl (lv_at hl 1 rfl) ?_
  refine r_aload_n S dL_law_725 rfl (lv_at hl 0 rfl) ?_
  refine r_iload S dL_law_726 (lv_at hl 4 rfl) ?_
  refine r_iconst S dL_law_728 (by decide) (fun v1 z2 => ?_)
  refine r_iadd S dL_law_729 (fun v3 z4 => ?_)
  obtain ⟨e5, r6⟩ := i_add (lo := 1) (hi := 3073) z4 ri (R_eq z2) rfl
  refine va_sld S.1.1 S.1.2.1 hX hbl hbA X.2 (vp_in_iff.mpr ⟨by omega, by omega⟩) dL_law_730 ?_
  refine lv_topi (fun y7 z8 => ?_)
  refine r_ki (q_V (As := [.int y7]) (rest := []) (K := 0) (ci := 9) S X (c_X11_crews l G τ hJ.1 y7 (R_any _) hJ.2.1 ) ckL_100 (Nat.le_of_ble_eq_true rfl) rfl (fun _ => ⟨_, rfl⟩) ⟨_, _, rfl⟩ ⟨Nat.le_of_ble_eq_true rfl, Nat.le_of_ble_eq_true rfl⟩ rfl hl.1 rfl (Nat.le_of_ble_eq_true rfl) dL_law_731 ⟨by show _ ≤ 601024; omega, by show _ ≤ 7293034; omega⟩) X (fun r9 t10 H lc q11 X => ?_)
  obtain ⟨k14, k15, k16⟩ := k_X11_crews q11
  obtain ⟨hJ, e13, n12⟩ := j_X11_crews hJ q11
  have h17 := congrArg Int32.toInt e13
  have h18 := congrArg Int32.toInt n12
  refine r_pop S dL_law_734 rfl ?_
  refine r_aload_n S dL_law_735 rfl (lv_at hl 2 rfl) ?_
  refine r_aload_n S dL_law_736 rfl (lv_at hl 0 rfl) ?_
  refine r_iload S dL_law_737 (lv_at hl 4 rfl) ?_
  refine r_iconst S dL_law_739 (by decide) (fun v19 z20 => ?_)
  refine r_iadd S dL_law_740 (fun v21 z22 => ?_)
  obtain ⟨e23, r24⟩ := i_add (lo := 1) (hi := 3073) z22 ri (R_eq z20) rfl
  refine va_sld S.1.1 S.1.2.1 hX hbl hbA X.2 (vp_in_iff.mpr ⟨by omega, by omega⟩) dL_law_741 ?_
  refine lv_topi (fun y25 z26 => ?_)
  have h27 : y7 = y25 := (show y25 = y7 by rw [z26, z8, show v21 = v3 from Int32.toInt_inj.mp (by omega)]).symm
  subst h27
  refine r_ki (q_V (As := [.int y7]) (rest := []) (K := 38) (ci := 10) S X (c_X12_crews l G t10 hJ.1 y7 (R_any _)  ) ckL_103 (Nat.le_of_ble_eq_true rfl) rfl (fun _ => ⟨_, rfl⟩) ⟨_, _, rfl⟩ ⟨Nat.le_of_ble_eq_true rfl, Nat.le_of_ble_eq_true rfl⟩ rfl hl.1 rfl (Nat.le_of_ble_eq_true rfl) dL_law_742 ⟨by show _ ≤ 601024; omega, by show _ ≤ 7293034; omega⟩) X (fun r28 t29 H lc q30 X => ?_)
  obtain ⟨k33, k34, k35⟩ := k_X12_crews q30
  obtain ⟨hJ, e32, n31⟩ := j_X12_crews hJ q30
  have h36 := congrArg Int32.toInt e32
  have h37 := congrArg Int32.toInt n31
  refine r_pop S dL_law_745 rfl ?_
  refine r_goto (tgt := 1291) S dL_law_746 (by decide) ?_
  refine w_widen (k := cells + 1) (n := slots + 6) (by omega) (by omega) ?_
  exact kk H lc ls t29 hJ ⟨⟨by omega, by omega⟩, ZZ_kp hZZ (zk_X11_crews q11) (zk_X12_crews q30) (by omega)⟩ X (lv_sub hl [0, 1, 2, 3, 4] rfl)
set_option maxHeartbeats 8000000 in
set_option maxRecDepth 100000 in
theorem lc_largest {p : Program} {l : Launch} {e : Env} {s : State} {m : MethodId} {below : List Frame} {meth : Method} {c : Code} {b L : Nat} {xs : Nat → Int32} {G : Gx} {Q : State → Prop} (hst : l.stackTraces = false) (S : Sx G p m c code 7 s #[Value.ref b] RL) (hZ : Zs G s) (hX : va_X b L xs s s.heap) (hbl : b < s.heap.size) (hbA : ¬ G.2.2.2.2 b) (hL : L ≤ 3072) {H : Heap} {lc : List Loc} {ls : Array Slot} {τ : Tau} {cells slots : Nat} {i : Int32} (hi : 0 ≤ i.toInt ∧ i.toInt + 6 ≤ L) (hR : cells + 1 ≤ 601024 ∧ slots + 6 ≤ 7293034) (hJ : JJ τ) (hlen : ((τ 1 1).toInt = (τ 131 2).toInt ∧ (τ 0 11).toInt = (τ 152 0).toInt + 2 * (τ 152 1).toInt) ∧ ZZ τ) (X : Xd G s H lc τ) (hl : lv_has ls 7 [(0, .ref b), (1, .ref (G.2.2.2.1 0)), (2, .ref (G.2.2.2.1 131)), (3, .ref (G.2.2.2.1 153)), (4, .int i)]) (kk : ∀ (H : Heap) (lc : List Loc) (ls : Array Slot) (τ : Tau), JJ τ → (((τ 1 1).toInt = (τ 131 2).toInt ∧ (τ 0 11).toInt = (τ 152 0).toInt + 2 * (τ 152 1).toInt) ∧ ZZ τ) → Xd G s H lc τ → lv_has ls 7 [(0, .ref b), (1, .ref (G.2.2.2.1 0)), (2, .ref (G.2.2.2.1 131)), (3, .ref (G.2.2.2.1 153)), (4, .int i)] → W p l e room_1 s m #[Value.ref b] below meth c H lc (cells + 1) (slots + 6) Q (F0 m 1291 ls [])) : W p l e room_1 s m #[Value.ref b] below meth c H lc cells slots Q (F0 m 749 ls []) := by
  obtain ⟨hA1, hA2⟩ := hlen.1
  have hZZ := hlen.2
  have rl : R 0 940 (τ 1 1) := rd (K := 1) hJ.1 rfl rfl
  have ri : R 0 3072 i := ⟨by omega, by omega⟩
  refine r_aload_n S dL_law_749 rfl (lv_at hl 1 rfl) ?_
  refine r_ki (q_V (As := []) (rest := []) (K := 0) (ci := 9) S X (c_X11_largest l G τ hJ.1   hJ.2.1 ) ckL_104 (Nat.le_of_ble_eq_true rfl) rfl (fun _ => ⟨_, rfl⟩) ⟨_, _, rfl⟩ ⟨Nat.le_of_ble_eq_true rfl, Nat.le_of_ble_eq_true rfl⟩ rfl hl.1 rfl (Nat.le_of_ble_eq_true rfl) dL_law_750 ⟨by show _ ≤ 601024; omega, by show _ ≤ 7293034; omega⟩) X (fun r1 t2 H lc q3 X => ?_)
  obtain ⟨k6, k7, k8⟩ := k_X11_largest q3
  obtain ⟨hJ, e5, n4⟩ := j_X11_largest hJ q3
  have h9 := congrArg Int32.toInt e5
  have h10 := congrArg Int32.toInt n4
  refine r_pop S dL_law_753 rfl ?_
  refine r_aload_n S dL_law_754 rfl (lv_at hl 2 rfl) ?_
  refine r_ki (q_V (As := []) (rest := []) (K := 38) (ci := 10) S X (c_X12_largest l G t2 hJ.1    ) ckL_107 (Nat.le_of_ble_eq_true rfl) rfl (fun _ => ⟨_, rfl⟩) ⟨_, _, rfl⟩ ⟨Nat.le_of_ble_eq_true rfl, Nat.le_of_ble_eq_true rfl⟩ rfl hl.1 rfl (Nat.le_of_ble_eq_true rfl) dL_law_755 ⟨by show _ ≤ 601024; omega, by show _ ≤ 7293034; omega⟩) X (fun r11 t12 H lc q13 X => ?_)
  obtain ⟨k16, k17, k18⟩ := k_X12_largest q13
  obtain ⟨hJ, e15, n14⟩ := j_X12_largest hJ q13
  have h19 := congrArg Int32.toInt e15
  have h20 := congrArg Int32.toInt n14
  refine r_pop S dL_law_758 rfl ?_
  refine r_goto (tgt := 1291) S dL_law_759 (by decide) ?_
  refine w_widen (k := cells + 1) (n := slots + 6) (by omega) (by omega) ?_
  exact kk H lc ls t12 hJ ⟨⟨by omega, by omega⟩, ZZ_kp hZZ (zk_X11_largest q3) (zk_X12_largest q13) (by omega)⟩ X (lv_sub hl [0, 1, 2, 3, 4] rfl)
set_option maxHeartbeats 8000000 in
set_option maxRecDepth 100000 in
theorem lc_stuck {p : Program} {l : Launch} {e : Env} {s : State} {m : MethodId} {below : List Frame} {meth : Method} {c : Code} {b L : Nat} {xs : Nat → Int32} {G : Gx} {Q : State → Prop} (hst : l.stackTraces = false) (S : Sx G p m c code 7 s #[Value.ref b] RL) (hZ : Zs G s) (hX : va_X b L xs s s.heap) (hbl : b < s.heap.size) (hbA : ¬ G.2.2.2.2 b) (hL : L ≤ 3072) {H : Heap} {lc : List Loc} {ls : Array Slot} {τ : Tau} {cells slots : Nat} {i : Int32} (hi : 0 ≤ i.toInt ∧ i.toInt + 6 ≤ L) (hR : cells + 1 ≤ 601024 ∧ slots + 6 ≤ 7293034) (hJ : JJ τ) (hlen : ((τ 1 1).toInt = (τ 131 2).toInt ∧ (τ 0 11).toInt = (τ 152 0).toInt + 2 * (τ 152 1).toInt) ∧ ZZ τ) (X : Xd G s H lc τ) (hl : lv_has ls 7 [(0, .ref b), (1, .ref (G.2.2.2.1 0)), (2, .ref (G.2.2.2.1 131)), (3, .ref (G.2.2.2.1 153)), (4, .int i)]) (kk : ∀ (H : Heap) (lc : List Loc) (ls : Array Slot) (τ : Tau), JJ τ → (((τ 1 1).toInt = (τ 131 2).toInt ∧ (τ 0 11).toInt = (τ 152 0).toInt + 2 * (τ 152 1).toInt) ∧ ZZ τ) → Xd G s H lc τ → lv_has ls 7 [(0, .ref b), (1, .ref (G.2.2.2.1 0)), (2, .ref (G.2.2.2.1 131)), (3, .ref (G.2.2.2.1 153)), (4, .int i)] → W p l e room_1 s m #[Value.ref b] below meth c H lc (cells + 1) (slots + 6) Q (F0 m 1291 ls [])) : W p l e room_1 s m #[Value.ref b] below meth c H lc cells slots Q (F0 m 762 ls []) := by
  obtain ⟨hA1, hA2⟩ := hlen.1
  have hZZ := hlen.2
  have rl : R 0 940 (τ 1 1) := rd (K := 1) hJ.1 rfl rfl
  have ri : R 0 3072 i := ⟨by omega, by omega⟩
  refine r_aload_n S dL_law_762 rfl (lv_at hl 1 rfl) ?_
  refine r_ki (q_V (As := []) (rest := []) (K := 0) (ci := 9) S X (c_X11_stuck l G τ hJ.1   hJ.2.1 ) ckL_108 (Nat.le_of_ble_eq_true rfl) rfl (fun _ => ⟨_, rfl⟩) ⟨_, _, rfl⟩ ⟨Nat.le_of_ble_eq_true rfl, Nat.le_of_ble_eq_true rfl⟩ rfl hl.1 rfl (Nat.le_of_ble_eq_true rfl) dL_law_763 ⟨by show _ ≤ 601024; omega, by show _ ≤ 7293034; omega⟩) X (fun r1 t2 H lc q3 X => ?_)
  obtain ⟨k6, k7, k8⟩ := k_X11_stuck q3
  obtain ⟨hJ, e5, n4⟩ := j_X11_stuck hJ q3
  have h9 := congrArg Int32.toInt e5
  have h10 := congrArg Int32.toInt n4
  refine r_pop S dL_law_766 rfl ?_
  refine r_aload_n S dL_law_767 rfl (lv_at hl 2 rfl) ?_
  refine r_ki (q_V (As := []) (rest := []) (K := 38) (ci := 10) S X (c_X12_stuck l G t2 hJ.1    ) ckL_111 (Nat.le_of_ble_eq_true rfl) rfl (fun _ => ⟨_, rfl⟩) ⟨_, _, rfl⟩ ⟨Nat.le_of_ble_eq_true rfl, Nat.le_of_ble_eq_true rfl⟩ rfl hl.1 rfl (Nat.le_of_ble_eq_true rfl) dL_law_768 ⟨by show _ ≤ 601024; omega, by show _ ≤ 7293034; omega⟩) X (fun r11 t12 H lc q13 X => ?_)
  obtain ⟨k16, k17, k18⟩ := k_X12_stuck q13
  obtain ⟨hJ, e15, n14⟩ := j_X12_stuck hJ q13
  have h19 := congrArg Int32.toInt e15
  have h20 := congrArg Int32.toInt n14
  refine r_pop S dL_law_771 rfl ?_
  refine r_goto (tgt := 1291) S dL_law_772 (by decide) ?_
  refine w_widen (k := cells + 1) (n := slots + 6) (by omega) (by omega) ?_
  exact kk H lc ls t12 hJ ⟨⟨by omega, by omega⟩, ZZ_kp hZZ (zk_X11_stuck q3) (zk_X12_stuck q13) (by omega)⟩ X (lv_sub hl [0, 1, 2, 3, 4] rfl)
set_option maxHeartbeats 8000000 in
set_option maxRecDepth 100000 in
theorem lc_trips {p : Program} {l : Launch} {e : Env} {s : State} {m : MethodId} {below : List Frame} {meth : Method} {c : Code} {b L : Nat} {xs : Nat → Int32} {G : Gx} {Q : State → Prop} (hst : l.stackTraces = false) (S : Sx G p m c code 7 s #[Value.ref b] RL) (hZ : Zs G s) (hX : va_X b L xs s s.heap) (hbl : b < s.heap.size) (hbA : ¬ G.2.2.2.2 b) (hL : L ≤ 3072) {H : Heap} {lc : List Loc} {ls : Array Slot} {τ : Tau} {cells slots : Nat} {i : Int32} (hi : 0 ≤ i.toInt ∧ i.toInt + 6 ≤ L) (hR : cells + 1 ≤ 601024 ∧ slots + 6 ≤ 7293034) (hJ : JJ τ) (hlen : ((τ 1 1).toInt = (τ 131 2).toInt ∧ (τ 0 11).toInt = (τ 152 0).toInt + 2 * (τ 152 1).toInt) ∧ ZZ τ) (X : Xd G s H lc τ) (hl : lv_has ls 7 [(0, .ref b), (1, .ref (G.2.2.2.1 0)), (2, .ref (G.2.2.2.1 131)), (3, .ref (G.2.2.2.1 153)), (4, .int i)]) (kk : ∀ (H : Heap) (lc : List Loc) (ls : Array Slot) (τ : Tau), JJ τ → (((τ 1 1).toInt = (τ 131 2).toInt ∧ (τ 0 11).toInt = (τ 152 0).toInt + 2 * (τ 152 1).toInt) ∧ ZZ τ) → Xd G s H lc τ → lv_has ls 7 [(0, .ref b), (1, .ref (G.2.2.2.1 0)), (2, .ref (G.2.2.2.1 131)), (3, .ref (G.2.2.2.1 153)), (4, .int i)] → W p l e room_1 s m #[Value.ref b] below meth c H lc (cells + 1) (slots + 6) Q (F0 m 1291 ls [])) : W p l e room_1 s m #[Value.ref b] below meth c H lc cells slots Q (F0 m 775 ls []) := by
  obtain ⟨hA1, hA2⟩ := hlen.1
  have hZZ := hlen.2
  have rl : R 0 940 (τ 1 1) := rd (K := 1) hJ.1 rfl rfl
  have ri : R 0 3072 i := ⟨by omega, by omega⟩
  refine r_aload_n S dL_law_775 rfl (lv_at hl 1 rfl) ?_
  refine r_aload_n S dL_law_776 rfl (lv_at hl 0 rfl) ?_
  refine r_iload S dL_law_777 (lv_at hl 4 rfl) ?_
  refine r_iconst S dL_law_779 (by decide) (fun v1 z2 => ?_)
  refine r_iadd S dL_law_780 (fun v3 z4 => ?_)
  obtain ⟨e5, r6⟩ := i_add (lo := 1) (hi := 3073) z4 ri (R_eq z2) rfl
  refine va_sld S.1.1 S.1.2.1 hX hbl hbA X.2 (vp_in_iff.mpr ⟨by omega, by omega⟩) dL_law_781 ?_
  refine lv_topi (fun y7 z8 => ?_)
  refine r_ki (q_V (As := [.int y7]) (rest := []) (K := 0) (ci := 9) S X (c_X11_trips l G τ hJ.1 y7 (R_any _)  ) ckL_112 (Nat.le_of_ble_eq_true rfl) rfl (fun _ => ⟨_, rfl⟩) ⟨_, _, rfl⟩ ⟨Nat.le_of_ble_eq_true rfl, Nat.le_of_ble_eq_true rfl⟩ rfl hl.1 rfl (Nat.le_of_ble_eq_true rfl) dL_law_782 ⟨by show _ ≤ 601024; omega, by show _ ≤ 7293034; omega⟩) X (fun r9 t10 H lc q11 X => ?_)
  obtain ⟨k14, k15, k16⟩ := k_X11_trips q11
  obtain ⟨hJ, e13, n12⟩ := j_X11_trips hJ q11
  have h17 := congrArg Int32.toInt e13
  have h18 := congrArg Int32.toInt n12
  refine r_pop S dL_law_785 rfl ?_
  refine r_aload_n S dL_law_786 rfl (lv_at hl 2 rfl) ?_
  refine r_aload_n S dL_law_787 rfl (lv_at hl 0 rfl) ?_
  refine r_iload S dL_law_788 (lv_at hl 4 rfl) ?_
  refine r_iconst S dL_law_790 (by decide) (fun v19 z20 => ?_)
  refine r_iadd S dL_law_791 (fun v21 z22 => ?_)
  obtain ⟨e23, r24⟩ := i_add (lo := 1) (hi := 3073) z22 ri (R_eq z20) rfl
  refine va_sld S.1.1 S.1.2.1 hX hbl hbA X.2 (vp_in_iff.mpr ⟨by omega, by omega⟩) dL_law_792 ?_
  refine lv_topi (fun y25 z26 => ?_)
  have h27 : y7 = y25 := (show y25 = y7 by rw [z26, z8, show v21 = v3 from Int32.toInt_inj.mp (by omega)]).symm
  subst h27
  refine r_ki (q_V (As := [.int y7]) (rest := []) (K := 38) (ci := 10) S X (c_X12_trips l G t10 hJ.1 y7 (R_any _)  ) ckL_115 (Nat.le_of_ble_eq_true rfl) rfl (fun _ => ⟨_, rfl⟩) ⟨_, _, rfl⟩ ⟨Nat.le_of_ble_eq_true rfl, Nat.le_of_ble_eq_true rfl⟩ rfl hl.1 rfl (Nat.le_of_ble_eq_true rfl) dL_law_793 ⟨by show _ ≤ 601024; omega, by show _ ≤ 7293034; omega⟩) X (fun r28 t29 H lc q30 X => ?_)
  obtain ⟨k33, k34, k35⟩ := k_X12_trips q30
  obtain ⟨hJ, e32, n31⟩ := j_X12_trips hJ q30
  have h36 := congrArg Int32.toInt e32
  have h37 := congrArg Int32.toInt n31
  refine r_pop S dL_law_796 rfl ?_
  refine r_goto (tgt := 1291) S dL_law_797 (by decide) ?_
  refine w_widen (k := cells + 1) (n := slots + 6) (by omega) (by omega) ?_
  exact kk H lc ls t29 hJ ⟨⟨by omega, by omega⟩, ZZ_kp hZZ (zk_X11_trips q11) (zk_X12_trips q30) (by omega)⟩ X (lv_sub hl [0, 1, 2, 3, 4] rfl)
set_option maxHeartbeats 8000000 in
set_option maxRecDepth 100000 in
theorem lc_next {p : Program} {l : Launch} {e : Env} {s : State} {m : MethodId} {below : List Frame} {meth : Method} {c : Code} {b L : Nat} {xs : Nat → Int32} {G : Gx} {Q : State → Prop} (hst : l.stackTraces = false) (S : Sx G p m c code 7 s #[Value.ref b] RL) (hZ : Zs G s) (hX : va_X b L xs s s.heap) (hbl : b < s.heap.size) (hbA : ¬ G.2.2.2.2 b) (hL : L ≤ 3072) {H : Heap} {lc : List Loc} {ls : Array Slot} {τ : Tau} {cells slots : Nat} {i : Int32} (hi : 0 ≤ i.toInt ∧ i.toInt + 6 ≤ L) (hR : cells + 1 ≤ 601024 ∧ slots + 6 ≤ 7293034) (hJ : JJ τ) (hlen : ((τ 1 1).toInt = (τ 131 2).toInt ∧ (τ 0 11).toInt = (τ 152 0).toInt + 2 * (τ 152 1).toInt) ∧ ZZ τ) (X : Xd G s H lc τ) (hl : lv_has ls 7 [(0, .ref b), (1, .ref (G.2.2.2.1 0)), (2, .ref (G.2.2.2.1 131)), (3, .ref (G.2.2.2.1 153)), (4, .int i)]) (kk : ∀ (H : Heap) (lc : List Loc) (ls : Array Slot) (τ : Tau), JJ τ → (((τ 1 1).toInt = (τ 131 2).toInt ∧ (τ 0 11).toInt = (τ 152 0).toInt + 2 * (τ 152 1).toInt) ∧ ZZ τ) → Xd G s H lc τ → lv_has ls 7 [(0, .ref b), (1, .ref (G.2.2.2.1 0)), (2, .ref (G.2.2.2.1 131)), (3, .ref (G.2.2.2.1 153)), (4, .int i)] → W p l e room_1 s m #[Value.ref b] below meth c H lc (cells + 1) (slots + 6) Q (F0 m 1291 ls [])) : W p l e room_1 s m #[Value.ref b] below meth c H lc cells slots Q (F0 m 800 ls []) := by
  obtain ⟨hA1, hA2⟩ := hlen.1
  have hZZ := hlen.2
  have rl : R 0 940 (τ 1 1) := rd (K := 1) hJ.1 rfl rfl
  have ri : R 0 3072 i := ⟨by omega, by omega⟩
  refine r_aload_n S dL_law_800 rfl (lv_at hl 1 rfl) ?_
  refine r_ki (q_V (As := []) (rest := []) (K := 0) (ci := 9) S X (c_X11_next l G τ hJ.1   hJ.2.1 ) ckL_116 (Nat.le_of_ble_eq_true rfl) rfl (fun _ => ⟨_, rfl⟩) ⟨_, _, rfl⟩ ⟨Nat.le_of_ble_eq_true rfl, Nat.le_of_ble_eq_true rfl⟩ rfl hl.1 rfl (Nat.le_of_ble_eq_true rfl) dL_law_801 ⟨by show _ ≤ 601024; omega, by show _ ≤ 7293034; omega⟩) X (fun r1 t2 H lc q3 X => ?_)
  obtain ⟨k6, k7, k8⟩ := k_X11_next q3
  obtain ⟨hJ, e5, n4⟩ := j_X11_next hJ q3
  have h9 := congrArg Int32.toInt e5
  have h10 := congrArg Int32.toInt n4
  refine r_pop S dL_law_804 rfl ?_
  refine r_aload_n S dL_law_805 rfl (lv_at hl 2 rfl) ?_
  refine r_ki (q_V (As := []) (rest := []) (K := 38) (ci := 10) S X (c_X12_next l G t2 hJ.1    ) ckL_119 (Nat.le_of_ble_eq_true rfl) rfl (fun _ => ⟨_, rfl⟩) ⟨_, _, rfl⟩ ⟨Nat.le_of_ble_eq_true rfl, Nat.le_of_ble_eq_true rfl⟩ rfl hl.1 rfl (Nat.le_of_ble_eq_true rfl) dL_law_806 ⟨by show _ ≤ 601024; omega, by show _ ≤ 7293034; omega⟩) X (fun r11 t12 H lc q13 X => ?_)
  obtain ⟨k16, k17, k18⟩ := k_X12_next q13
  obtain ⟨hJ, e15, n14⟩ := j_X12_next hJ q13
  have h19 := congrArg Int32.toInt e15
  have h20 := congrArg Int32.toInt n14
  refine r_pop S dL_law_809 rfl ?_
  refine r_goto (tgt := 1291) S dL_law_810 (by decide) ?_
  refine w_widen (k := cells + 1) (n := slots + 6) (by omega) (by omega) ?_
  exact kk H lc ls t12 hJ ⟨⟨by omega, by omega⟩, ZZ_kp hZZ (zk_X11_next q3) (zk_X12_next q13) (by omega)⟩ X (lv_sub hl [0, 1, 2, 3, 4] rfl)
set_option maxHeartbeats 8000000 in
set_option maxRecDepth 100000 in
theorem lc_best {p : Program} {l : Launch} {e : Env} {s : State} {m : MethodId} {below : List Frame} {meth : Method} {c : Code} {b L : Nat} {xs : Nat → Int32} {G : Gx} {Q : State → Prop} (hst : l.stackTraces = false) (S : Sx G p m c code 7 s #[Value.ref b] RL) (hZ : Zs G s) (hX : va_X b L xs s s.heap) (hbl : b < s.heap.size) (hbA : ¬ G.2.2.2.2 b) (hL : L ≤ 3072) {H : Heap} {lc : List Loc} {ls : Array Slot} {τ : Tau} {cells slots : Nat} {i : Int32} (hi : 0 ≤ i.toInt ∧ i.toInt + 6 ≤ L) (hR : cells + 1 ≤ 601024 ∧ slots + 6 ≤ 7293034) (hJ : JJ τ) (hlen : ((τ 1 1).toInt = (τ 131 2).toInt ∧ (τ 0 11).toInt = (τ 152 0).toInt + 2 * (τ 152 1).toInt) ∧ ZZ τ) (X : Xd G s H lc τ) (hl : lv_has ls 7 [(0, .ref b), (1, .ref (G.2.2.2.1 0)), (2, .ref (G.2.2.2.1 131)), (3, .ref (G.2.2.2.1 153)), (4, .int i)]) (kk : ∀ (H : Heap) (lc : List Loc) (ls : Array Slot) (τ : Tau), JJ τ → (((τ 1 1).toInt = (τ 131 2).toInt ∧ (τ 0 11).toInt = (τ 152 0).toInt + 2 * (τ 152 1).toInt) ∧ ZZ τ) → Xd G s H lc τ → lv_has ls 7 [(0, .ref b), (1, .ref (G.2.2.2.1 0)), (2, .ref (G.2.2.2.1 131)), (3, .ref (G.2.2.2.1 153)), (4, .int i)] → W p l e room_1 s m #[Value.ref b] below meth c H lc (cells + 1) (slots + 6) Q (F0 m 1291 ls [])) : W p l e room_1 s m #[Value.ref b] below meth c H lc cells slots Q (F0 m 813 ls []) := by
  obtain ⟨hA1, hA2⟩ := hlen.1
  have hZZ := hlen.2
  have rl : R 0 940 (τ 1 1) := rd (K := 1) hJ.1 rfl rfl
  have ri : R 0 3072 i := ⟨by omega, by omega⟩
  refine r_aload_n S dL_law_813 rfl (lv_at hl 1 rfl) ?_
  refine r_ki (q_V (As := []) (rest := []) (K := 0) (ci := 9) S X (c_X11_best l G τ hJ.1    ) ckL_120 (Nat.le_of_ble_eq_true rfl) rfl (fun _ => ⟨_, rfl⟩) ⟨_, _, rfl⟩ ⟨Nat.le_of_ble_eq_true rfl, Nat.le_of_ble_eq_true rfl⟩ rfl hl.1 rfl (Nat.le_of_ble_eq_true rfl) dL_law_814 ⟨by show _ ≤ 601024; omega, by show _ ≤ 7293034; omega⟩) X (fun r1 t2 H lc q3 X => ?_)
  obtain ⟨k6, k7, k8⟩ := k_X11_best q3
  obtain ⟨hJ, e5, n4⟩ := j_X11_best hJ q3
  have h9 := congrArg Int32.toInt e5
  have h10 := congrArg Int32.toInt n4
  refine r_pop S dL_law_817 rfl ?_
  refine r_aload_n S dL_law_818 rfl (lv_at hl 2 rfl) ?_
  refine r_ki (q_V (As := []) (rest := []) (K := 38) (ci := 10) S X (c_X12_best l G t2 hJ.1    ) ckL_123 (Nat.le_of_ble_eq_true rfl) rfl (fun _ => ⟨_, rfl⟩) ⟨_, _, rfl⟩ ⟨Nat.le_of_ble_eq_true rfl, Nat.le_of_ble_eq_true rfl⟩ rfl hl.1 rfl (Nat.le_of_ble_eq_true rfl) dL_law_819 ⟨by show _ ≤ 601024; omega, by show _ ≤ 7293034; omega⟩) X (fun r11 t12 H lc q13 X => ?_)
  obtain ⟨k16, k17, k18⟩ := k_X12_best q13
  obtain ⟨hJ, e15, n14⟩ := j_X12_best hJ q13
  have h19 := congrArg Int32.toInt e15
  have h20 := congrArg Int32.toInt n14
  refine r_pop S dL_law_822 rfl ?_
  refine r_goto (tgt := 1291) S dL_law_823 (by decide) ?_
  refine w_widen (k := cells + 1) (n := slots + 6) (by omega) (by omega) ?_
  exact kk H lc ls t12 hJ ⟨⟨by omega, by omega⟩, ZZ_kp hZZ (zk_X11_best q3) (zk_X12_best q13) (by omega)⟩ X (lv_sub hl [0, 1, 2, 3, 4] rfl)
set_option maxHeartbeats 8000000 in
set_option maxRecDepth 100000 in
theorem lc_easy {p : Program} {l : Launch} {e : Env} {s : State} {m : MethodId} {below : List Frame} {meth : Method} {c : Code} {b L : Nat} {xs : Nat → Int32} {G : Gx} {Q : State → Prop} (hst : l.stackTraces = false) (S : Sx G p m c code 7 s #[Value.ref b] RL) (hZ : Zs G s) (hX : va_X b L xs s s.heap) (hbl : b < s.heap.size) (hbA : ¬ G.2.2.2.2 b) (hL : L ≤ 3072) {H : Heap} {lc : List Loc} {ls : Array Slot} {τ : Tau} {cells slots : Nat} {i : Int32} (hi : 0 ≤ i.toInt ∧ i.toInt + 6 ≤ L) (hR : cells + 1 ≤ 601024 ∧ slots + 6 ≤ 7293034) (hJ : JJ τ) (hlen : ((τ 1 1).toInt = (τ 131 2).toInt ∧ (τ 0 11).toInt = (τ 152 0).toInt + 2 * (τ 152 1).toInt) ∧ ZZ τ) (X : Xd G s H lc τ) (hl : lv_has ls 7 [(0, .ref b), (1, .ref (G.2.2.2.1 0)), (2, .ref (G.2.2.2.1 131)), (3, .ref (G.2.2.2.1 153)), (4, .int i)]) (kk : ∀ (H : Heap) (lc : List Loc) (ls : Array Slot) (τ : Tau), JJ τ → (((τ 1 1).toInt = (τ 131 2).toInt ∧ (τ 0 11).toInt = (τ 152 0).toInt + 2 * (τ 152 1).toInt) ∧ ZZ τ) → Xd G s H lc τ → lv_has ls 7 [(0, .ref b), (1, .ref (G.2.2.2.1 0)), (2, .ref (G.2.2.2.1 131)), (3, .ref (G.2.2.2.1 153)), (4, .int i)] → W p l e room_1 s m #[Value.ref b] below meth c H lc (cells + 1) (slots + 6) Q (F0 m 1291 ls [])) : W p l e room_1 s m #[Value.ref b] below meth c H lc cells slots Q (F0 m 826 ls []) := by
  obtain ⟨hA1, hA2⟩ := hlen.1
  have hZZ := hlen.2
  have rl : R 0 940 (τ 1 1) := rd (K := 1) hJ.1 rfl rfl
  have ri : R 0 3072 i := ⟨by omega, by omega⟩
  refine r_aload_n S dL_law_826 rfl (lv_at hl 1 rfl) ?_
  refine r_ki (q_V (As := []) (rest := []) (K := 0) (ci := 9) S X (c_X11_easy l G τ hJ.1    ) ckL_124 (Nat.le_of_ble_eq_true rfl) rfl (fun _ => ⟨_, rfl⟩) ⟨_, _, rfl⟩ ⟨Nat.le_of_ble_eq_true rfl, Nat.le_of_ble_eq_true rfl⟩ rfl hl.1 rfl (Nat.le_of_ble_eq_true rfl) dL_law_827 ⟨by show _ ≤ 601024; omega, by show _ ≤ 7293034; omega⟩) X (fun r1 t2 H lc q3 X => ?_)
  obtain ⟨k6, k7, k8⟩ := k_X11_easy q3
  obtain ⟨hJ, e5, n4⟩ := j_X11_easy hJ q3
  have h9 := congrArg Int32.toInt e5
  have h10 := congrArg Int32.toInt n4
  refine r_pop S dL_law_830 rfl ?_
  refine r_aload_n S dL_law_831 rfl (lv_at hl 2 rfl) ?_
  refine r_ki (q_V (As := []) (rest := []) (K := 38) (ci := 10) S X (c_X12_easy l G t2 hJ.1    ) ckL_127 (Nat.le_of_ble_eq_true rfl) rfl (fun _ => ⟨_, rfl⟩) ⟨_, _, rfl⟩ ⟨Nat.le_of_ble_eq_true rfl, Nat.le_of_ble_eq_true rfl⟩ rfl hl.1 rfl (Nat.le_of_ble_eq_true rfl) dL_law_832 ⟨by show _ ≤ 601024; omega, by show _ ≤ 7293034; omega⟩) X (fun r11 t12 H lc q13 X => ?_)
  obtain ⟨k16, k17, k18⟩ := k_X12_easy q13
  obtain ⟨hJ, e15, n14⟩ := j_X12_easy hJ q13
  have h19 := congrArg Int32.toInt e15
  have h20 := congrArg Int32.toInt n14
  refine r_pop S dL_law_835 rfl ?_
  refine r_goto (tgt := 1291) S dL_law_836 (by decide) ?_
  refine w_widen (k := cells + 1) (n := slots + 6) (by omega) (by omega) ?_
  exact kk H lc ls t12 hJ ⟨⟨by omega, by omega⟩, ZZ_kp hZZ (zk_X11_easy q3) (zk_X12_easy q13) (by omega)⟩ X (lv_sub hl [0, 1, 2, 3, 4] rfl)
set_option maxHeartbeats 8000000 in
set_option maxRecDepth 100000 in
theorem lc_changed {p : Program} {l : Launch} {e : Env} {s : State} {m : MethodId} {below : List Frame} {meth : Method} {c : Code} {b L : Nat} {xs : Nat → Int32} {G : Gx} {Q : State → Prop} (hst : l.stackTraces = false) (S : Sx G p m c code 7 s #[Value.ref b] RL) (hZ : Zs G s) (hX : va_X b L xs s s.heap) (hbl : b < s.heap.size) (hbA : ¬ G.2.2.2.2 b) (hL : L ≤ 3072) {H : Heap} {lc : List Loc} {ls : Array Slot} {τ : Tau} {cells slots : Nat} {i : Int32} (hi : 0 ≤ i.toInt ∧ i.toInt + 6 ≤ L) (hR : cells + 1 ≤ 601024 ∧ slots + 6 ≤ 7293034) (hJ : JJ τ) (hlen : ((τ 1 1).toInt = (τ 131 2).toInt ∧ (τ 0 11).toInt = (τ 152 0).toInt + 2 * (τ 152 1).toInt) ∧ ZZ τ) (X : Xd G s H lc τ) (hl : lv_has ls 7 [(0, .ref b), (1, .ref (G.2.2.2.1 0)), (2, .ref (G.2.2.2.1 131)), (3, .ref (G.2.2.2.1 153)), (4, .int i)]) (kk : ∀ (H : Heap) (lc : List Loc) (ls : Array Slot) (τ : Tau), JJ τ → (((τ 1 1).toInt = (τ 131 2).toInt ∧ (τ 0 11).toInt = (τ 152 0).toInt + 2 * (τ 152 1).toInt) ∧ ZZ τ) → Xd G s H lc τ → lv_has ls 7 [(0, .ref b), (1, .ref (G.2.2.2.1 0)), (2, .ref (G.2.2.2.1 131)), (3, .ref (G.2.2.2.1 153)), (4, .int i)] → W p l e room_1 s m #[Value.ref b] below meth c H lc (cells + 1) (slots + 6) Q (F0 m 1291 ls [])) : W p l e room_1 s m #[Value.ref b] below meth c H lc cells slots Q (F0 m 839 ls []) := by
  obtain ⟨hA1, hA2⟩ := hlen.1
  have hZZ := hlen.2
  have rl : R 0 940 (τ 1 1) := rd (K := 1) hJ.1 rfl rfl
  have ri : R 0 3072 i := ⟨by omega, by omega⟩
  refine r_aload_n S dL_law_839 rfl (lv_at hl 1 rfl) ?_
  refine r_aload_n S dL_law_840 rfl (lv_at hl 0 rfl) ?_
  refine r_iload S dL_law_841 (lv_at hl 4 rfl) ?_
  refine r_iconst S dL_law_843 (by decide) (fun v1 z2 => ?_)
  refine r_iadd S dL_law_844 (fun v3 z4 => ?_)
  obtain ⟨e5, r6⟩ := i_add (lo := 1) (hi := 3073) z4 ri (R_eq z2) rfl
  refine va_sld S.1.1 S.1.2.1 hX hbl hbA X.2 (vp_in_iff.mpr ⟨by omega, by omega⟩) dL_law_845 ?_
  refine lv_topi (fun y7 z8 => ?_)
  refine r_ki (q_V (As := [.int y7]) (rest := []) (K := 0) (ci := 9) S X (c_X11_changed l G τ hJ.1 y7 (R_any _) hJ.2.1 ) ckL_128 (Nat.le_of_ble_eq_true rfl) rfl (fun _ => ⟨_, rfl⟩) ⟨_, _, rfl⟩ ⟨Nat.le_of_ble_eq_true rfl, Nat.le_of_ble_eq_true rfl⟩ rfl hl.1 rfl (Nat.le_of_ble_eq_true rfl) dL_law_846 ⟨by show _ ≤ 601024; omega, by show _ ≤ 7293034; omega⟩) X (fun r9 t10 H lc q11 X => ?_)
  obtain ⟨k14, k15, k16⟩ := k_X11_changed q11
  obtain ⟨hJ, e13, n12⟩ := j_X11_changed hJ q11
  have h17 := congrArg Int32.toInt e13
  have h18 := congrArg Int32.toInt n12
  refine r_pop S dL_law_849 rfl ?_
  refine r_aload_n S dL_law_850 rfl (lv_at hl 2 rfl) ?_
  refine r_aload_n S dL_law_851 rfl (lv_at hl 0 rfl) ?_
  refine r_iload S dL_law_852 (lv_at hl 4 rfl) ?_
  refine r_iconst S dL_law_854 (by decide) (fun v19 z20 => ?_)
  refine r_iadd S dL_law_855 (fun v21 z22 => ?_)
  obtain ⟨e23, r24⟩ := i_add (lo := 1) (hi := 3073) z22 ri (R_eq z20) rfl
  refine va_sld S.1.1 S.1.2.1 hX hbl hbA X.2 (vp_in_iff.mpr ⟨by omega, by omega⟩) dL_law_856 ?_
  refine lv_topi (fun y25 z26 => ?_)
  have h27 : y7 = y25 := (show y25 = y7 by rw [z26, z8, show v21 = v3 from Int32.toInt_inj.mp (by omega)]).symm
  subst h27
  refine r_ki (q_V (As := [.int y7]) (rest := []) (K := 38) (ci := 10) S X (c_X12_changed l G t10 hJ.1 y7 (R_any _)  ) ckL_131 (Nat.le_of_ble_eq_true rfl) rfl (fun _ => ⟨_, rfl⟩) ⟨_, _, rfl⟩ ⟨Nat.le_of_ble_eq_true rfl, Nat.le_of_ble_eq_true rfl⟩ rfl hl.1 rfl (Nat.le_of_ble_eq_true rfl) dL_law_857 ⟨by show _ ≤ 601024; omega, by show _ ≤ 7293034; omega⟩) X (fun r28 t29 H lc q30 X => ?_)
  obtain ⟨k33, k34, k35⟩ := k_X12_changed q30
  obtain ⟨hJ, e32, n31⟩ := j_X12_changed hJ q30
  have h36 := congrArg Int32.toInt e32
  have h37 := congrArg Int32.toInt n31
  refine r_pop S dL_law_860 rfl ?_
  refine r_goto (tgt := 1291) S dL_law_861 (by decide) ?_
  refine w_widen (k := cells + 1) (n := slots + 6) (by omega) (by omega) ?_
  exact kk H lc ls t29 hJ ⟨⟨by omega, by omega⟩, ZZ_kp hZZ (zk_X11_changed q11) (zk_X12_changed q30) (by omega)⟩ X (lv_sub hl [0, 1, 2, 3, 4] rfl)
set_option maxHeartbeats 8000000 in
set_option maxRecDepth 100000 in
theorem lc_fits {p : Program} {l : Launch} {e : Env} {s : State} {m : MethodId} {below : List Frame} {meth : Method} {c : Code} {b L : Nat} {xs : Nat → Int32} {G : Gx} {Q : State → Prop} (hst : l.stackTraces = false) (S : Sx G p m c code 7 s #[Value.ref b] RL) (hZ : Zs G s) (hX : va_X b L xs s s.heap) (hbl : b < s.heap.size) (hbA : ¬ G.2.2.2.2 b) (hL : L ≤ 3072) {H : Heap} {lc : List Loc} {ls : Array Slot} {τ : Tau} {cells slots : Nat} {i : Int32} (hi : 0 ≤ i.toInt ∧ i.toInt + 6 ≤ L) (hR : cells + 1 ≤ 601024 ∧ slots + 6 ≤ 7293034) (hJ : JJ τ) (hlen : ((τ 1 1).toInt = (τ 131 2).toInt ∧ (τ 0 11).toInt = (τ 152 0).toInt + 2 * (τ 152 1).toInt) ∧ ZZ τ) (X : Xd G s H lc τ) (hl : lv_has ls 7 [(0, .ref b), (1, .ref (G.2.2.2.1 0)), (2, .ref (G.2.2.2.1 131)), (3, .ref (G.2.2.2.1 153)), (4, .int i)]) (kk : ∀ (H : Heap) (lc : List Loc) (ls : Array Slot) (τ : Tau), JJ τ → (((τ 1 1).toInt = (τ 131 2).toInt ∧ (τ 0 11).toInt = (τ 152 0).toInt + 2 * (τ 152 1).toInt) ∧ ZZ τ) → Xd G s H lc τ → lv_has ls 7 [(0, .ref b), (1, .ref (G.2.2.2.1 0)), (2, .ref (G.2.2.2.1 131)), (3, .ref (G.2.2.2.1 153)), (4, .int i)] → W p l e room_1 s m #[Value.ref b] below meth c H lc (cells + 1) (slots + 6) Q (F0 m 1291 ls [])) : W p l e room_1 s m #[Value.ref b] below meth c H lc cells slots Q (F0 m 864 ls []) := by
  obtain ⟨hA1, hA2⟩ := hlen.1
  have hZZ := hlen.2
  have rl : R 0 940 (τ 1 1) := rd (K := 1) hJ.1 rfl rfl
  have ri : R 0 3072 i := ⟨by omega, by omega⟩
  refine r_aload_n S dL_law_864 rfl (lv_at hl 1 rfl) ?_
  refine r_aload_n S dL_law_865 rfl (lv_at hl 0 rfl) ?_
  refine r_iload S dL_law_866 (lv_at hl 4 rfl) ?_
  refine r_iconst S dL_law_868 (by decide) (fun v1 z2 => ?_)
  refine r_iadd S dL_law_869 (fun v3 z4 => ?_)
  obtain ⟨e5, r6⟩ := i_add (lo := 1) (hi := 3073) z4 ri (R_eq z2) rfl
  refine va_sld S.1.1 S.1.2.1 hX hbl hbA X.2 (vp_in_iff.mpr ⟨by omega, by omega⟩) dL_law_870 ?_
  refine lv_topi (fun y7 z8 => ?_)
  refine r_ki (q_V (As := [.int y7]) (rest := []) (K := 0) (ci := 9) S X (c_X11_fits l G τ hJ.1 y7 (R_any _) hJ.2.1 ) ckL_132 (Nat.le_of_ble_eq_true rfl) rfl (fun _ => ⟨_, rfl⟩) ⟨_, _, rfl⟩ ⟨Nat.le_of_ble_eq_true rfl, Nat.le_of_ble_eq_true rfl⟩ rfl hl.1 rfl (Nat.le_of_ble_eq_true rfl) dL_law_871 ⟨by show _ ≤ 601024; omega, by show _ ≤ 7293034; omega⟩) X (fun r9 t10 H lc q11 X => ?_)
  obtain ⟨k14, k15, k16⟩ := k_X11_fits q11
  obtain ⟨hJ, e13, n12⟩ := j_X11_fits hJ q11
  have h17 := congrArg Int32.toInt e13
  refine r_pop S dL_law_874 rfl ?_
  refine r_aload_n S dL_law_875 rfl (lv_at hl 2 rfl) ?_
  refine r_aload_n S dL_law_876 rfl (lv_at hl 0 rfl) ?_
  refine r_iload S dL_law_877 (lv_at hl 4 rfl) ?_
  refine r_iconst S dL_law_879 (by decide) (fun v18 z19 => ?_)
  refine r_iadd S dL_law_880 (fun v20 z21 => ?_)
  obtain ⟨e22, r23⟩ := i_add (lo := 1) (hi := 3073) z21 ri (R_eq z19) rfl
  refine va_sld S.1.1 S.1.2.1 hX hbl hbA X.2 (vp_in_iff.mpr ⟨by omega, by omega⟩) dL_law_881 ?_
  refine lv_topi (fun y24 z25 => ?_)
  have h26 : y7 = y24 := (show y24 = y7 by rw [z25, z8, show v20 = v3 from Int32.toInt_inj.mp (by omega)]).symm
  subst h26
  refine r_ki (q_V (As := [.int y7]) (rest := []) (K := 38) (ci := 10) S X (c_X12_fits l G t10 hJ.1 y7 (R_any _)  ) ckL_135 (Nat.le_of_ble_eq_true rfl) rfl (fun _ => ⟨_, rfl⟩) ⟨_, _, rfl⟩ ⟨Nat.le_of_ble_eq_true rfl, Nat.le_of_ble_eq_true rfl⟩ rfl hl.1 rfl (Nat.le_of_ble_eq_true rfl) dL_law_882 ⟨by show _ ≤ 601024; omega, by show _ ≤ 7293034; omega⟩) X (fun r27 t28 H lc q29 X => ?_)
  obtain ⟨k32, k33, k34⟩ := k_X12_fits q29
  obtain ⟨hJ, e31, n30⟩ := j_X12_fits hJ q29
  have h35 := congrArg Int32.toInt e31
  have h36 : (t28 131 2).toInt = 0 := by have h1 := n30.1; have h2 := n30.2; omega
  refine r_pop S dL_law_885 rfl ?_
  refine r_goto (tgt := 1291) S dL_law_886 (by decide) ?_
  refine w_widen (k := cells + 1) (n := slots + 6) (by omega) (by omega) ?_
  exact kk H lc ls t28 hJ ⟨⟨by omega, by omega⟩, ZZ_kp hZZ (zk_X11_fits q11) (zk_X12_fits q29) (by omega)⟩ X (lv_sub hl [0, 1, 2, 3, 4] rfl)
set_option maxHeartbeats 8000000 in
set_option maxRecDepth 100000 in
theorem lc_fit {p : Program} {l : Launch} {e : Env} {s : State} {m : MethodId} {below : List Frame} {meth : Method} {c : Code} {b L : Nat} {xs : Nat → Int32} {G : Gx} {Q : State → Prop} (hst : l.stackTraces = false) (S : Sx G p m c code 7 s #[Value.ref b] RL) (hZ : Zs G s) (hX : va_X b L xs s s.heap) (hbl : b < s.heap.size) (hbA : ¬ G.2.2.2.2 b) (hL : L ≤ 3072) {H : Heap} {lc : List Loc} {ls : Array Slot} {τ : Tau} {cells slots : Nat} {i : Int32} (hi : 0 ≤ i.toInt ∧ i.toInt + 6 ≤ L) (hR : cells + 1 ≤ 601024 ∧ slots + 6 ≤ 7293034) (hJ : JJ τ) (hlen : ((τ 1 1).toInt = (τ 131 2).toInt ∧ (τ 0 11).toInt = (τ 152 0).toInt + 2 * (τ 152 1).toInt) ∧ ZZ τ) (X : Xd G s H lc τ) (hl : lv_has ls 7 [(0, .ref b), (1, .ref (G.2.2.2.1 0)), (2, .ref (G.2.2.2.1 131)), (3, .ref (G.2.2.2.1 153)), (4, .int i)]) (kk : ∀ (H : Heap) (lc : List Loc) (ls : Array Slot) (τ : Tau), JJ τ → (((τ 1 1).toInt = (τ 131 2).toInt ∧ (τ 0 11).toInt = (τ 152 0).toInt + 2 * (τ 152 1).toInt) ∧ ZZ τ) → Xd G s H lc τ → lv_has ls 7 [(0, .ref b), (1, .ref (G.2.2.2.1 0)), (2, .ref (G.2.2.2.1 131)), (3, .ref (G.2.2.2.1 153)), (4, .int i)] → W p l e room_1 s m #[Value.ref b] below meth c H lc (cells + 1) (slots + 6) Q (F0 m 1291 ls [])) : W p l e room_1 s m #[Value.ref b] below meth c H lc cells slots Q (F0 m 889 ls []) := by
  obtain ⟨hA1, hA2⟩ := hlen.1
  have hZZ := hlen.2
  have rl : R 0 940 (τ 1 1) := rd (K := 1) hJ.1 rfl rfl
  have ri : R 0 3072 i := ⟨by omega, by omega⟩
  refine r_aload_n S dL_law_889 rfl (lv_at hl 1 rfl) ?_
  refine r_aload_n S dL_law_890 rfl (lv_at hl 0 rfl) ?_
  refine r_iload S dL_law_891 (lv_at hl 4 rfl) ?_
  refine r_iconst S dL_law_893 (by decide) (fun v1 z2 => ?_)
  refine r_iadd S dL_law_894 (fun v3 z4 => ?_)
  obtain ⟨e5, r6⟩ := i_add (lo := 1) (hi := 3073) z4 ri (R_eq z2) rfl
  refine va_sld S.1.1 S.1.2.1 hX hbl hbA X.2 (vp_in_iff.mpr ⟨by omega, by omega⟩) dL_law_895 ?_
  refine lv_topi (fun y7 z8 => ?_)
  refine r_ki (q_V (As := [.int y7]) (rest := []) (K := 0) (ci := 9) S X (c_X11_fit l G τ hJ.1 y7 (R_any _)  ) ckL_136 (Nat.le_of_ble_eq_true rfl) rfl (fun _ => ⟨_, rfl⟩) ⟨_, _, rfl⟩ ⟨Nat.le_of_ble_eq_true rfl, Nat.le_of_ble_eq_true rfl⟩ rfl hl.1 rfl (Nat.le_of_ble_eq_true rfl) dL_law_896 ⟨by show _ ≤ 601024; omega, by show _ ≤ 7293034; omega⟩) X (fun r9 t10 H lc q11 X => ?_)
  obtain ⟨k14, k15, k16⟩ := k_X11_fit q11
  obtain ⟨hJ, e13, n12⟩ := j_X11_fit hJ q11
  have h17 := congrArg Int32.toInt e13
  have h18 := congrArg Int32.toInt n12
  refine r_pop S dL_law_899 rfl ?_
  refine r_aload_n S dL_law_900 rfl (lv_at hl 2 rfl) ?_
  refine r_aload_n S dL_law_901 rfl (lv_at hl 0 rfl) ?_
  refine r_iload S dL_law_902 (lv_at hl 4 rfl) ?_
  refine r_iconst S dL_law_904 (by decide) (fun v19 z20 => ?_)
  refine r_iadd S dL_law_905 (fun v21 z22 => ?_)
  obtain ⟨e23, r24⟩ := i_add (lo := 1) (hi := 3073) z22 ri (R_eq z20) rfl
  refine va_sld S.1.1 S.1.2.1 hX hbl hbA X.2 (vp_in_iff.mpr ⟨by omega, by omega⟩) dL_law_906 ?_
  refine lv_topi (fun y25 z26 => ?_)
  have h27 : y7 = y25 := (show y25 = y7 by rw [z26, z8, show v21 = v3 from Int32.toInt_inj.mp (by omega)]).symm
  subst h27
  refine r_ki (q_V (As := [.int y7]) (rest := []) (K := 38) (ci := 10) S X (c_X12_fit l G t10 hJ.1 y7 (R_any _)  ) ckL_139 (Nat.le_of_ble_eq_true rfl) rfl (fun _ => ⟨_, rfl⟩) ⟨_, _, rfl⟩ ⟨Nat.le_of_ble_eq_true rfl, Nat.le_of_ble_eq_true rfl⟩ rfl hl.1 rfl (Nat.le_of_ble_eq_true rfl) dL_law_907 ⟨by show _ ≤ 601024; omega, by show _ ≤ 7293034; omega⟩) X (fun r28 t29 H lc q30 X => ?_)
  obtain ⟨k33, k34, k35⟩ := k_X12_fit q30
  obtain ⟨hJ, e32, n31⟩ := j_X12_fit hJ q30
  have h36 := congrArg Int32.toInt e32
  have h37 := congrArg Int32.toInt n31
  refine r_pop S dL_law_910 rfl ?_
  refine r_goto (tgt := 1291) S dL_law_911 (by decide) ?_
  refine w_widen (k := cells + 1) (n := slots + 6) (by omega) (by omega) ?_
  exact kk H lc ls t29 hJ ⟨⟨by omega, by omega⟩, ZZ_kp hZZ (zk_X11_fit q11) (zk_X12_fit q30) (by omega)⟩ X (lv_sub hl [0, 1, 2, 3, 4] rfl)
set_option maxHeartbeats 8000000 in
set_option maxRecDepth 100000 in
theorem lc_couples {p : Program} {l : Launch} {e : Env} {s : State} {m : MethodId} {below : List Frame} {meth : Method} {c : Code} {b L : Nat} {xs : Nat → Int32} {G : Gx} {Q : State → Prop} (hst : l.stackTraces = false) (S : Sx G p m c code 7 s #[Value.ref b] RL) (hZ : Zs G s) (hX : va_X b L xs s s.heap) (hbl : b < s.heap.size) (hbA : ¬ G.2.2.2.2 b) (hL : L ≤ 3072) {H : Heap} {lc : List Loc} {ls : Array Slot} {τ : Tau} {cells slots : Nat} {i : Int32} (hi : 0 ≤ i.toInt ∧ i.toInt + 6 ≤ L) (hR : cells + 1 ≤ 601024 ∧ slots + 6 ≤ 7293034) (hJ : JJ τ) (hlen : ((τ 1 1).toInt = (τ 131 2).toInt ∧ (τ 0 11).toInt = (τ 152 0).toInt + 2 * (τ 152 1).toInt) ∧ ZZ τ) (X : Xd G s H lc τ) (hl : lv_has ls 7 [(0, .ref b), (1, .ref (G.2.2.2.1 0)), (2, .ref (G.2.2.2.1 131)), (3, .ref (G.2.2.2.1 153)), (4, .int i)]) (kk : ∀ (H : Heap) (lc : List Loc) (ls : Array Slot) (τ : Tau), JJ τ → (((τ 1 1).toInt = (τ 131 2).toInt ∧ (τ 0 11).toInt = (τ 152 0).toInt + 2 * (τ 152 1).toInt) ∧ ZZ τ) → Xd G s H lc τ → lv_has ls 7 [(0, .ref b), (1, .ref (G.2.2.2.1 0)), (2, .ref (G.2.2.2.1 131)), (3, .ref (G.2.2.2.1 153)), (4, .int i)] → W p l e room_1 s m #[Value.ref b] below meth c H lc (cells + 1) (slots + 6) Q (F0 m 1291 ls [])) : W p l e room_1 s m #[Value.ref b] below meth c H lc cells slots Q (F0 m 914 ls []) := by
  obtain ⟨hA1, hA2⟩ := hlen.1
  have hZZ := hlen.2
  have rl : R 0 940 (τ 1 1) := rd (K := 1) hJ.1 rfl rfl
  have ri : R 0 3072 i := ⟨by omega, by omega⟩
  refine r_aload_n S dL_law_914 rfl (lv_at hl 1 rfl) ?_
  refine r_ki (q_V (As := []) (rest := []) (K := 0) (ci := 9) S X (c_X11_couples l G τ hJ.1   hJ.2.1 ) ckL_140 (Nat.le_of_ble_eq_true rfl) rfl (fun _ => ⟨_, rfl⟩) ⟨_, _, rfl⟩ ⟨Nat.le_of_ble_eq_true rfl, Nat.le_of_ble_eq_true rfl⟩ rfl hl.1 rfl (Nat.le_of_ble_eq_true rfl) dL_law_915 ⟨by show _ ≤ 601024; omega, by show _ ≤ 7293034; omega⟩) X (fun r1 t2 H lc q3 X => ?_)
  obtain ⟨k6, k7, k8⟩ := k_X11_couples q3
  obtain ⟨hJ, e5, n4⟩ := j_X11_couples hJ q3
  have h9 := congrArg Int32.toInt e5
  have h10 := congrArg Int32.toInt n4
  refine r_pop S dL_law_918 rfl ?_
  refine r_aload_n S dL_law_919 rfl (lv_at hl 2 rfl) ?_
  refine r_ki (q_V (As := []) (rest := []) (K := 38) (ci := 10) S X (c_X12_couples l G t2 hJ.1    ) ckL_143 (Nat.le_of_ble_eq_true rfl) rfl (fun _ => ⟨_, rfl⟩) ⟨_, _, rfl⟩ ⟨Nat.le_of_ble_eq_true rfl, Nat.le_of_ble_eq_true rfl⟩ rfl hl.1 rfl (Nat.le_of_ble_eq_true rfl) dL_law_920 ⟨by show _ ≤ 601024; omega, by show _ ≤ 7293034; omega⟩) X (fun r11 t12 H lc q13 X => ?_)
  obtain ⟨k16, k17, k18⟩ := k_X12_couples q13
  obtain ⟨hJ, e15, n14⟩ := j_X12_couples hJ q13
  have h19 := congrArg Int32.toInt e15
  have h20 := congrArg Int32.toInt n14
  refine r_pop S dL_law_923 rfl ?_
  refine r_goto (tgt := 1291) S dL_law_924 (by decide) ?_
  refine w_widen (k := cells + 1) (n := slots + 6) (by omega) (by omega) ?_
  exact kk H lc ls t12 hJ ⟨⟨by omega, by omega⟩, ZZ_kp hZZ (zk_X11_couples q3) (zk_X12_couples q13) (by omega)⟩ X (lv_sub hl [0, 1, 2, 3, 4] rfl)
set_option maxHeartbeats 8000000 in
set_option maxRecDepth 100000 in
theorem lc_couple {p : Program} {l : Launch} {e : Env} {s : State} {m : MethodId} {below : List Frame} {meth : Method} {c : Code} {b L : Nat} {xs : Nat → Int32} {G : Gx} {Q : State → Prop} (hst : l.stackTraces = false) (S : Sx G p m c code 7 s #[Value.ref b] RL) (hZ : Zs G s) (hX : va_X b L xs s s.heap) (hbl : b < s.heap.size) (hbA : ¬ G.2.2.2.2 b) (hL : L ≤ 3072) {H : Heap} {lc : List Loc} {ls : Array Slot} {τ : Tau} {cells slots : Nat} {i : Int32} (hi : 0 ≤ i.toInt ∧ i.toInt + 6 ≤ L) (hR : cells + 1 ≤ 601024 ∧ slots + 6 ≤ 7293034) (hJ : JJ τ) (hlen : ((τ 1 1).toInt = (τ 131 2).toInt ∧ (τ 0 11).toInt = (τ 152 0).toInt + 2 * (τ 152 1).toInt) ∧ ZZ τ) (X : Xd G s H lc τ) (hl : lv_has ls 7 [(0, .ref b), (1, .ref (G.2.2.2.1 0)), (2, .ref (G.2.2.2.1 131)), (3, .ref (G.2.2.2.1 153)), (4, .int i)]) (kk : ∀ (H : Heap) (lc : List Loc) (ls : Array Slot) (τ : Tau), JJ τ → (((τ 1 1).toInt = (τ 131 2).toInt ∧ (τ 0 11).toInt = (τ 152 0).toInt + 2 * (τ 152 1).toInt) ∧ ZZ τ) → Xd G s H lc τ → lv_has ls 7 [(0, .ref b), (1, .ref (G.2.2.2.1 0)), (2, .ref (G.2.2.2.1 131)), (3, .ref (G.2.2.2.1 153)), (4, .int i)] → W p l e room_1 s m #[Value.ref b] below meth c H lc (cells + 1) (slots + 6) Q (F0 m 1291 ls [])) : W p l e room_1 s m #[Value.ref b] below meth c H lc cells slots Q (F0 m 927 ls []) := by
  obtain ⟨hA1, hA2⟩ := hlen.1
  have hZZ := hlen.2
  have rl : R 0 940 (τ 1 1) := rd (K := 1) hJ.1 rfl rfl
  have ri : R 0 3072 i := ⟨by omega, by omega⟩
  refine r_aload_n S dL_law_927 rfl (lv_at hl 1 rfl) ?_
  refine r_aload_n S dL_law_928 rfl (lv_at hl 0 rfl) ?_
  refine r_iload S dL_law_929 (lv_at hl 4 rfl) ?_
  refine r_iconst S dL_law_931 (by decide) (fun v1 z2 => ?_)
  refine r_iadd S dL_law_932 (fun v3 z4 => ?_)
  obtain ⟨e5, r6⟩ := i_add (lo := 1) (hi := 3073) z4 ri (R_eq z2) rfl
  refine va_sld S.1.1 S.1.2.1 hX hbl hbA X.2 (vp_in_iff.mpr ⟨by omega, by omega⟩) dL_law_933 ?_
  refine lv_topi (fun y7 z8 => ?_)
  refine r_ki (q_V (As := [.int y7]) (rest := []) (K := 0) (ci := 9) S X (c_X11_couple l G τ hJ.1 y7 (R_any _)  ) ckL_144 (Nat.le_of_ble_eq_true rfl) rfl (fun _ => ⟨_, rfl⟩) ⟨_, _, rfl⟩ ⟨Nat.le_of_ble_eq_true rfl, Nat.le_of_ble_eq_true rfl⟩ rfl hl.1 rfl (Nat.le_of_ble_eq_true rfl) dL_law_934 ⟨by show _ ≤ 601024; omega, by show _ ≤ 7293034; omega⟩) X (fun r9 t10 H lc q11 X => ?_)
  obtain ⟨k14, k15, k16⟩ := k_X11_couple q11
  obtain ⟨hJ, e13, n12⟩ := j_X11_couple hJ q11
  have h17 := congrArg Int32.toInt e13
  have h18 := congrArg Int32.toInt n12
  refine r_pop S dL_law_937 rfl ?_
  refine r_aload_n S dL_law_938 rfl (lv_at hl 2 rfl) ?_
  refine r_aload_n S dL_law_939 rfl (lv_at hl 0 rfl) ?_
  refine r_iload S dL_law_940 (lv_at hl 4 rfl) ?_
  refine r_iconst S dL_law_942 (by decide) (fun v19 z20 => ?_)
  refine r_iadd S dL_law_943 (fun v21 z22 => ?_)
  obtain ⟨e23, r24⟩ := i_add (lo := 1) (hi := 3073) z22 ri (R_eq z20) rfl
  refine va_sld S.1.1 S.1.2.1 hX hbl hbA X.2 (vp_in_iff.mpr ⟨by omega, by omega⟩) dL_law_944 ?_
  refine lv_topi (fun y25 z26 => ?_)
  have h27 : y7 = y25 := (show y25 = y7 by rw [z26, z8, show v21 = v3 from Int32.toInt_inj.mp (by omega)]).symm
  subst h27
  refine r_ki (q_V (As := [.int y7]) (rest := []) (K := 38) (ci := 10) S X (c_X12_couple l G t10 hJ.1 y7 (R_any _)  ) ckL_147 (Nat.le_of_ble_eq_true rfl) rfl (fun _ => ⟨_, rfl⟩) ⟨_, _, rfl⟩ ⟨Nat.le_of_ble_eq_true rfl, Nat.le_of_ble_eq_true rfl⟩ rfl hl.1 rfl (Nat.le_of_ble_eq_true rfl) dL_law_945 ⟨by show _ ≤ 601024; omega, by show _ ≤ 7293034; omega⟩) X (fun r28 t29 H lc q30 X => ?_)
  obtain ⟨k33, k34, k35⟩ := k_X12_couple q30
  obtain ⟨hJ, e32, n31⟩ := j_X12_couple hJ q30
  have h36 := congrArg Int32.toInt e32
  have h37 := congrArg Int32.toInt n31
  refine r_pop S dL_law_948 rfl ?_
  refine r_goto (tgt := 1291) S dL_law_949 (by decide) ?_
  refine w_widen (k := cells + 1) (n := slots + 6) (by omega) (by omega) ?_
  exact kk H lc ls t29 hJ ⟨⟨by omega, by omega⟩, ZZ_kp hZZ (zk_X11_couple q11) (zk_X12_couple q30) (by omega)⟩ X (lv_sub hl [0, 1, 2, 3, 4] rfl)
set_option maxHeartbeats 8000000 in
set_option maxRecDepth 100000 in
theorem lc_doubters {p : Program} {l : Launch} {e : Env} {s : State} {m : MethodId} {below : List Frame} {meth : Method} {c : Code} {b L : Nat} {xs : Nat → Int32} {G : Gx} {Q : State → Prop} (hst : l.stackTraces = false) (S : Sx G p m c code 7 s #[Value.ref b] RL) (hZ : Zs G s) (hX : va_X b L xs s s.heap) (hbl : b < s.heap.size) (hbA : ¬ G.2.2.2.2 b) (hL : L ≤ 3072) {H : Heap} {lc : List Loc} {ls : Array Slot} {τ : Tau} {cells slots : Nat} {i : Int32} (hi : 0 ≤ i.toInt ∧ i.toInt + 6 ≤ L) (hR : cells + 1 ≤ 601024 ∧ slots + 6 ≤ 7293034) (hJ : JJ τ) (hlen : ((τ 1 1).toInt = (τ 131 2).toInt ∧ (τ 0 11).toInt = (τ 152 0).toInt + 2 * (τ 152 1).toInt) ∧ ZZ τ) (X : Xd G s H lc τ) (hl : lv_has ls 7 [(0, .ref b), (1, .ref (G.2.2.2.1 0)), (2, .ref (G.2.2.2.1 131)), (3, .ref (G.2.2.2.1 153)), (4, .int i)]) (kk : ∀ (H : Heap) (lc : List Loc) (ls : Array Slot) (τ : Tau), JJ τ → (((τ 1 1).toInt = (τ 131 2).toInt ∧ (τ 0 11).toInt = (τ 152 0).toInt + 2 * (τ 152 1).toInt) ∧ ZZ τ) → Xd G s H lc τ → lv_has ls 7 [(0, .ref b), (1, .ref (G.2.2.2.1 0)), (2, .ref (G.2.2.2.1 131)), (3, .ref (G.2.2.2.1 153)), (4, .int i)] → W p l e room_1 s m #[Value.ref b] below meth c H lc (cells + 1) (slots + 6) Q (F0 m 1291 ls [])) : W p l e room_1 s m #[Value.ref b] below meth c H lc cells slots Q (F0 m 952 ls []) := by
  obtain ⟨hA1, hA2⟩ := hlen.1
  have hZZ := hlen.2
  have rl : R 0 940 (τ 1 1) := rd (K := 1) hJ.1 rfl rfl
  have ri : R 0 3072 i := ⟨by omega, by omega⟩
  refine r_aload_n S dL_law_952 rfl (lv_at hl 1 rfl) ?_
  refine r_aload_n S dL_law_953 rfl (lv_at hl 0 rfl) ?_
  refine r_iload S dL_law_954 (lv_at hl 4 rfl) ?_
  refine r_iconst S dL_law_956 (by decide) (fun v1 z2 => ?_)
  refine r_iadd S dL_law_957 (fun v3 z4 => ?_)
  obtain ⟨e5, r6⟩ := i_add (lo := 1) (hi := 3073) z4 ri (R_eq z2) rfl
  refine va_sld S.1.1 S.1.2.1 hX hbl hbA X.2 (vp_in_iff.mpr ⟨by omega, by omega⟩) dL_law_958 ?_
  refine lv_topi (fun y7 z8 => ?_)
  refine r_ki (q_V (As := [.int y7]) (rest := []) (K := 0) (ci := 9) S X (c_X11_doubters l G τ hJ.1 y7 (R_any _) hJ.2.1 ) ckL_148 (Nat.le_of_ble_eq_true rfl) rfl (fun _ => ⟨_, rfl⟩) ⟨_, _, rfl⟩ ⟨Nat.le_of_ble_eq_true rfl, Nat.le_of_ble_eq_true rfl⟩ rfl hl.1 rfl (Nat.le_of_ble_eq_true rfl) dL_law_959 ⟨by show _ ≤ 601024; omega, by show _ ≤ 7293034; omega⟩) X (fun r9 t10 H lc q11 X => ?_)
  obtain ⟨k14, k15, k16⟩ := k_X11_doubters q11
  obtain ⟨hJ, e13, n12⟩ := j_X11_doubters hJ q11
  have h17 := congrArg Int32.toInt e13
  have h18 := congrArg Int32.toInt n12
  refine r_pop S dL_law_962 rfl ?_
  refine r_aload_n S dL_law_963 rfl (lv_at hl 2 rfl) ?_
  refine r_aload_n S dL_law_964 rfl (lv_at hl 0 rfl) ?_
  refine r_iload S dL_law_965 (lv_at hl 4 rfl) ?_
  refine r_iconst S dL_law_967 (by decide) (fun v19 z20 => ?_)
  refine r_iadd S dL_law_968 (fun v21 z22 => ?_)
  obtain ⟨e23, r24⟩ := i_add (lo := 1) (hi := 3073) z22 ri (R_eq z20) rfl
  refine va_sld S.1.1 S.1.2.1 hX hbl hbA X.2 (vp_in_iff.mpr ⟨by omega, by omega⟩) dL_law_969 ?_
  refine lv_topi (fun y25 z26 => ?_)
  have h27 : y7 = y25 := (show y25 = y7 by rw [z26, z8, show v21 = v3 from Int32.toInt_inj.mp (by omega)]).symm
  subst h27
  refine r_ki (q_V (As := [.int y7]) (rest := []) (K := 38) (ci := 10) S X (c_X12_doubters l G t10 hJ.1 y7 (R_any _)  ) ckL_151 (Nat.le_of_ble_eq_true rfl) rfl (fun _ => ⟨_, rfl⟩) ⟨_, _, rfl⟩ ⟨Nat.le_of_ble_eq_true rfl, Nat.le_of_ble_eq_true rfl⟩ rfl hl.1 rfl (Nat.le_of_ble_eq_true rfl) dL_law_970 ⟨by show _ ≤ 601024; omega, by show _ ≤ 7293034; omega⟩) X (fun r28 t29 H lc q30 X => ?_)
  obtain ⟨k33, k34, k35⟩ := k_X12_doubters q30
  obtain ⟨hJ, e32, n31⟩ := j_X12_doubters hJ q30
  have h36 := congrArg Int32.toInt e32
  have h37 := congrArg Int32.toInt n31
  refine r_pop S dL_law_973 rfl ?_
  refine r_goto (tgt := 1291) S dL_law_974 (by decide) ?_
  refine w_widen (k := cells + 1) (n := slots + 6) (by omega) (by omega) ?_
  exact kk H lc ls t29 hJ ⟨⟨by omega, by omega⟩, ZZ_kp hZZ (zk_X11_doubters q11) (zk_X12_doubters q30) (by omega)⟩ X (lv_sub hl [0, 1, 2, 3, 4] rfl)
set_option maxHeartbeats 8000000 in
set_option maxRecDepth 100000 in
theorem lc_jokes {p : Program} {l : Launch} {e : Env} {s : State} {m : MethodId} {below : List Frame} {meth : Method} {c : Code} {b L : Nat} {xs : Nat → Int32} {G : Gx} {Q : State → Prop} (hst : l.stackTraces = false) (S : Sx G p m c code 7 s #[Value.ref b] RL) (hZ : Zs G s) (hX : va_X b L xs s s.heap) (hbl : b < s.heap.size) (hbA : ¬ G.2.2.2.2 b) (hL : L ≤ 3072) {H : Heap} {lc : List Loc} {ls : Array Slot} {τ : Tau} {cells slots : Nat} {i : Int32} (hi : 0 ≤ i.toInt ∧ i.toInt + 6 ≤ L) (hR : cells + 1 ≤ 601024 ∧ slots + 6 ≤ 7293034) (hJ : JJ τ) (hlen : ((τ 1 1).toInt = (τ 131 2).toInt ∧ (τ 0 11).toInt = (τ 152 0).toInt + 2 * (τ 152 1).toInt) ∧ ZZ τ) (X : Xd G s H lc τ) (hl : lv_has ls 7 [(0, .ref b), (1, .ref (G.2.2.2.1 0)), (2, .ref (G.2.2.2.1 131)), (3, .ref (G.2.2.2.1 153)), (4, .int i)]) (kk : ∀ (H : Heap) (lc : List Loc) (ls : Array Slot) (τ : Tau), JJ τ → (((τ 1 1).toInt = (τ 131 2).toInt ∧ (τ 0 11).toInt = (τ 152 0).toInt + 2 * (τ 152 1).toInt) ∧ ZZ τ) → Xd G s H lc τ → lv_has ls 7 [(0, .ref b), (1, .ref (G.2.2.2.1 0)), (2, .ref (G.2.2.2.1 131)), (3, .ref (G.2.2.2.1 153)), (4, .int i)] → W p l e room_1 s m #[Value.ref b] below meth c H lc (cells + 1) (slots + 6) Q (F0 m 1291 ls [])) : W p l e room_1 s m #[Value.ref b] below meth c H lc cells slots Q (F0 m 977 ls []) := by
  obtain ⟨hA1, hA2⟩ := hlen.1
  have hZZ := hlen.2
  have rl : R 0 940 (τ 1 1) := rd (K := 1) hJ.1 rfl rfl
  have ri : R 0 3072 i := ⟨by omega, by omega⟩
  refine r_aload_n S dL_law_977 rfl (lv_at hl 1 rfl) ?_
  refine r_aload_n S dL_law_978 rfl (lv_at hl 0 rfl) ?_
  refine r_iload S dL_law_979 (lv_at hl 4 rfl) ?_
  refine r_iconst S dL_law_981 (by decide) (fun v1 z2 => ?_)
  refine r_iadd S dL_law_982 (fun v3 z4 => ?_)
  obtain ⟨e5, r6⟩ := i_add (lo := 1) (hi := 3073) z4 ri (R_eq z2) rfl
  refine va_sld S.1.1 S.1.2.1 hX hbl hbA X.2 (vp_in_iff.mpr ⟨by omega, by omega⟩) dL_law_983 ?_
  refine lv_topi (fun y7 z8 => ?_)
  refine r_aload_n S dL_law_984 rfl (lv_at hl 0 rfl) ?_
  refine r_iload S dL_law_985 (lv_at hl 4 rfl) ?_
  refine r_iconst S dL_law_987 (by decide) (fun v9 z10 => ?_)
  refine r_iadd S dL_law_988 (fun v11 z12 => ?_)
  obtain ⟨e13, r14⟩ := i_add (lo := 2) (hi := 3074) z12 ri (R_eq z10) rfl
  refine va_sld S.1.1 S.1.2.1 hX hbl hbA X.2 (vp_in_iff.mpr ⟨by omega, by omega⟩) dL_law_989 ?_
  refine lv_topi (fun y15 z16 => ?_)
  refine r_aload_n S dL_law_990 rfl (lv_at hl 3 rfl) ?_
  refine r_kl (q_SW (As := [.ref (G.2.2.2.1 0), .int y7, .int y15, .ref (G.2.2.2.1 153)]) (rest := []) S hZ X (c_L_jokes l hst G τ hJ.1 y7 y15 hJ.2.1) ckW_152 ⟨Nat.le_of_ble_eq_true rfl, Nat.le_of_ble_eq_true rfl⟩ rfl hl.1 rfl (Nat.le_of_ble_eq_true rfl) dL_law_991 ⟨by show _ ≤ 601024; omega, by show _ ≤ 7293034; omega⟩) X (fun r17 t18 H lc q19 X => ?_)
  obtain ⟨k20, k21, k22⟩ := k_thr q19
  obtain ⟨hJ, e23, e24⟩ := j_thr hJ q19
  have h25 := congrArg Int32.toInt e23
  have h26 := congrArg Int32.toInt e24
  refine r_istore (lv' := [(5, .int r17), (0, .ref b), (1, .ref (G.2.2.2.1 0)), (2, .ref (G.2.2.2.1 131)), (3, .ref (G.2.2.2.1 153)), (4, .int i)]) S dL_law_994 hl (by decide) rfl (fun ls hl => ?_)
  refine r_aload_n S dL_law_996 rfl (lv_at hl 3 rfl) ?_
  refine r_aload_n S dL_law_997 rfl (lv_at hl 1 rfl) ?_
  refine r_iload S dL_law_998 (lv_at hl 5 rfl) ?_
  refine r_iconst S dL_law_1000 (by decide) (fun v27 z28 => ?_)
  refine r_iadd S dL_law_1001 (fun v29 z30 => ?_)
  obtain ⟨e31, r32⟩ := i_add (lo := 1) (hi := 3073) z30 ri (R_eq z28) rfl
  refine va_sld S.1.1 S.1.2.1 hX hbl hbA X.2 (vp_in_iff.mpr ⟨by omega, by omega⟩) dL_law_1002 ?_
  refine lv_topi (fun y33 z34 => ?_)
  have h35 : y7 = y33 := (show y33 = y7 by rw [z34, z8, show v29 = v3 from Int32.toInt_inj.mp (by omega)]).symm
  subst h35
  refine r_aload_n S dL_law_1003 rfl (lv_at hl 1 rfl) ?_
  refine r_iload S dL_law_1004 (lv_at hl 5 rfl) ?_
  refine r_iconst S dL_law_1006 (by decide) (fun v36 z37 => ?_)
  refine r_iadd S dL_law_1007 (fun v38 z39 => ?_)
  obtain ⟨e40, r41⟩ := i_add (lo := 2) (hi := 3074) z39 ri (R_eq z37) rfl
  refine va_sld S.1.1 S.1.2.1 hX hbl hbA X.2 (vp_in_iff.mpr ⟨by omega, by omega⟩) dL_law_1008 ?_
  refine lv_topi (fun y42 z43 => ?_)
  have h44 : y15 = y42 := (show y42 = y15 by rw [z43, z16, show v38 = v11 from Int32.toInt_inj.mp (by omega)]).symm
  subst h44
  refine r_ki (q_V (As := [.int y7, .int y15]) (rest := []) (K := 38) (ci := 10) S X (c_X12_jokes l G t18 hJ.1 y7 y15 (R_any _) (R_any _)  ) ckL_154 (Nat.le_of_ble_eq_true rfl) rfl (fun _ => ⟨_, rfl⟩) ⟨_, _, rfl⟩ ⟨Nat.le_of_ble_eq_true rfl, Nat.le_of_ble_eq_true rfl⟩ rfl hl.1 rfl (Nat.le_of_ble_eq_true rfl) dL_law_1009 ⟨by show _ ≤ 601024; omega, by show _ ≤ 7293034; omega⟩) X (fun r45 t46 H lc q47 X => ?_)
  obtain ⟨k50, k51, k52⟩ := k_X12_jokes q47
  obtain ⟨hJ, e49, n48⟩ := j_X12_jokes hJ q47
  have h53 := congrArg Int32.toInt e49
  have h54 := congrArg Int32.toInt n48
  refine r_istore (lv' := [(6, .int r45), (5, .int r17), (0, .ref b), (1, .ref (G.2.2.2.1 0)), (2, .ref (G.2.2.2.1 131)), (3, .ref (G.2.2.2.1 153)), (4, .int i)]) S dL_law_1012 hl (by decide) rfl (fun ls hl => ?_)
  refine r_goto (tgt := 1291) S dL_law_1014 (by decide) ?_
  exact kk H lc ls t46 hJ ⟨⟨by omega, by omega⟩, ZZ_kp hZZ (zk_thr q19) (zk_X12_jokes q47) (by omega)⟩ X (lv_sub hl [2, 3, 4, 5, 6] rfl)
set_option maxHeartbeats 8000000 in
set_option maxRecDepth 100000 in
theorem lc_foes {p : Program} {l : Launch} {e : Env} {s : State} {m : MethodId} {below : List Frame} {meth : Method} {c : Code} {b L : Nat} {xs : Nat → Int32} {G : Gx} {Q : State → Prop} (hst : l.stackTraces = false) (S : Sx G p m c code 7 s #[Value.ref b] RL) (hZ : Zs G s) (hX : va_X b L xs s s.heap) (hbl : b < s.heap.size) (hbA : ¬ G.2.2.2.2 b) (hL : L ≤ 3072) {H : Heap} {lc : List Loc} {ls : Array Slot} {τ : Tau} {cells slots : Nat} {i : Int32} (hi : 0 ≤ i.toInt ∧ i.toInt + 6 ≤ L) (hR : cells + 1 ≤ 601024 ∧ slots + 6 ≤ 7293034) (hJ : JJ τ) (hlen : ((τ 1 1).toInt = (τ 131 2).toInt ∧ (τ 0 11).toInt = (τ 152 0).toInt + 2 * (τ 152 1).toInt) ∧ ZZ τ) (X : Xd G s H lc τ) (hl : lv_has ls 7 [(0, .ref b), (1, .ref (G.2.2.2.1 0)), (2, .ref (G.2.2.2.1 131)), (3, .ref (G.2.2.2.1 153)), (4, .int i)]) (kk : ∀ (H : Heap) (lc : List Loc) (ls : Array Slot) (τ : Tau), JJ τ → (((τ 1 1).toInt = (τ 131 2).toInt ∧ (τ 0 11).toInt = (τ 152 0).toInt + 2 * (τ 152 1).toInt) ∧ ZZ τ) → Xd G s H lc τ → lv_has ls 7 [(0, .ref b), (1, .ref (G.2.2.2.1 0)), (2, .ref (G.2.2.2.1 131)), (3, .ref (G.2.2.2.1 153)), (4, .int i)] → W p l e room_1 s m #[Value.ref b] below meth c H lc (cells + 1) (slots + 6) Q (F0 m 1291 ls [])) : W p l e room_1 s m #[Value.ref b] below meth c H lc cells slots Q (F0 m 1017 ls []) := by
  obtain ⟨hA1, hA2⟩ := hlen.1
  have hZZ := hlen.2
  have rl : R 0 940 (τ 1 1) := rd (K := 1) hJ.1 rfl rfl
  have ri : R 0 3072 i := ⟨by omega, by omega⟩
  refine r_aload_n S dL_law_1017 rfl (lv_at hl 1 rfl) ?_
  refine r_aload_n S dL_law_1018 rfl (lv_at hl 0 rfl) ?_
  refine r_iload S dL_law_1019 (lv_at hl 4 rfl) ?_
  refine r_iconst S dL_law_1021 (by decide) (fun v1 z2 => ?_)
  refine r_iadd S dL_law_1022 (fun v3 z4 => ?_)
  obtain ⟨e5, r6⟩ := i_add (lo := 1) (hi := 3073) z4 ri (R_eq z2) rfl
  refine va_sld S.1.1 S.1.2.1 hX hbl hbA X.2 (vp_in_iff.mpr ⟨by omega, by omega⟩) dL_law_1023 ?_
  refine lv_topi (fun y7 z8 => ?_)
  refine r_ki (q_V (As := [.int y7]) (rest := []) (K := 0) (ci := 9) S X (c_X11_foes l G τ hJ.1 y7 (R_any _)  ) ckL_155 (Nat.le_of_ble_eq_true rfl) rfl (fun _ => ⟨_, rfl⟩) ⟨_, _, rfl⟩ ⟨Nat.le_of_ble_eq_true rfl, Nat.le_of_ble_eq_true rfl⟩ rfl hl.1 rfl (Nat.le_of_ble_eq_true rfl) dL_law_1024 ⟨by show _ ≤ 601024; omega, by show _ ≤ 7293034; omega⟩) X (fun r9 t10 H lc q11 X => ?_)
  obtain ⟨k14, k15, k16⟩ := k_X11_foes q11
  obtain ⟨hJ, e13, n12⟩ := j_X11_foes hJ q11
  have h17 := congrArg Int32.toInt e13
  have h18 := congrArg Int32.toInt n12
  refine r_pop S dL_law_1027 rfl ?_
  refine r_aload_n S dL_law_1028 rfl (lv_at hl 2 rfl) ?_
  refine r_aload_n S dL_law_1029 rfl (lv_at hl 0 rfl) ?_
  refine r_iload S dL_law_1030 (lv_at hl 4 rfl) ?_
  refine r_iconst S dL_law_1032 (by decide) (fun v19 z20 => ?_)
  refine r_iadd S dL_law_1033 (fun v21 z22 => ?_)
  obtain ⟨e23, r24⟩ := i_add (lo := 1) (hi := 3073) z22 ri (R_eq z20) rfl
  refine va_sld S.1.1 S.1.2.1 hX hbl hbA X.2 (vp_in_iff.mpr ⟨by omega, by omega⟩) dL_law_1034 ?_
  refine lv_topi (fun y25 z26 => ?_)
  have h27 : y7 = y25 := (show y25 = y7 by rw [z26, z8, show v21 = v3 from Int32.toInt_inj.mp (by omega)]).symm
  subst h27
  refine r_ki (q_V (As := [.int y7]) (rest := []) (K := 38) (ci := 10) S X (c_X12_foes l G t10 hJ.1 y7 (R_any _)  ) ckL_158 (Nat.le_of_ble_eq_true rfl) rfl (fun _ => ⟨_, rfl⟩) ⟨_, _, rfl⟩ ⟨Nat.le_of_ble_eq_true rfl, Nat.le_of_ble_eq_true rfl⟩ rfl hl.1 rfl (Nat.le_of_ble_eq_true rfl) dL_law_1035 ⟨by show _ ≤ 601024; omega, by show _ ≤ 7293034; omega⟩) X (fun r28 t29 H lc q30 X => ?_)
  obtain ⟨k33, k34, k35⟩ := k_X12_foes q30
  obtain ⟨hJ, e32, n31⟩ := j_X12_foes hJ q30
  have h36 := congrArg Int32.toInt e32
  have h37 := congrArg Int32.toInt n31
  refine r_pop S dL_law_1038 rfl ?_
  refine r_goto (tgt := 1291) S dL_law_1039 (by decide) ?_
  refine w_widen (k := cells + 1) (n := slots + 6) (by omega) (by omega) ?_
  exact kk H lc ls t29 hJ ⟨⟨by omega, by omega⟩, ZZ_kp hZZ (zk_X11_foes q11) (zk_X12_foes q30) (by omega)⟩ X (lv_sub hl [0, 1, 2, 3, 4] rfl)
set_option maxHeartbeats 8000000 in
set_option maxRecDepth 100000 in
theorem lc_drawn {p : Program} {l : Launch} {e : Env} {s : State} {m : MethodId} {below : List Frame} {meth : Method} {c : Code} {b L : Nat} {xs : Nat → Int32} {G : Gx} {Q : State → Prop} (hst : l.stackTraces = false) (S : Sx G p m c code 7 s #[Value.ref b] RL) (hZ : Zs G s) (hX : va_X b L xs s s.heap) (hbl : b < s.heap.size) (hbA : ¬ G.2.2.2.2 b) (hL : L ≤ 3072) {H : Heap} {lc : List Loc} {ls : Array Slot} {τ : Tau} {cells slots : Nat} {i : Int32} (hi : 0 ≤ i.toInt ∧ i.toInt + 6 ≤ L) (hR : cells + 1 ≤ 601024 ∧ slots + 6 ≤ 7293034) (hJ : JJ τ) (hlen : ((τ 1 1).toInt = (τ 131 2).toInt ∧ (τ 0 11).toInt = (τ 152 0).toInt + 2 * (τ 152 1).toInt) ∧ ZZ τ) (X : Xd G s H lc τ) (hl : lv_has ls 7 [(0, .ref b), (1, .ref (G.2.2.2.1 0)), (2, .ref (G.2.2.2.1 131)), (3, .ref (G.2.2.2.1 153)), (4, .int i)]) (kk : ∀ (H : Heap) (lc : List Loc) (ls : Array Slot) (τ : Tau), JJ τ → (((τ 1 1).toInt = (τ 131 2).toInt ∧ (τ 0 11).toInt = (τ 152 0).toInt + 2 * (τ 152 1).toInt) ∧ ZZ τ) → Xd G s H lc τ → lv_has ls 7 [(0, .ref b), (1, .ref (G.2.2.2.1 0)), (2, .ref (G.2.2.2.1 131)), (3, .ref (G.2.2.2.1 153)), (4, .int i)] → W p l e room_1 s m #[Value.ref b] below meth c H lc (cells + 1) (slots + 6) Q (F0 m 1291 ls [])) : W p l e room_1 s m #[Value.ref b] below meth c H lc cells slots Q (F0 m 1042 ls []) := by
  obtain ⟨hA1, hA2⟩ := hlen.1
  have hZZ := hlen.2
  have rl : R 0 940 (τ 1 1) := rd (K := 1) hJ.1 rfl rfl
  have ri : R 0 3072 i := ⟨by omega, by omega⟩
  refine r_aload_n S dL_law_1042 rfl (lv_at hl 1 rfl) ?_
  refine r_aload_n S dL_law_1043 rfl (lv_at hl 0 rfl) ?_
  refine r_iload S dL_law_1044 (lv_at hl 4 rfl) ?_
  refine r_iconst S dL_law_1046 (by decide) (fun v1 z2 => ?_)
  refine r_iadd S dL_law_1047 (fun v3 z4 => ?_)
  obtain ⟨e5, r6⟩ := i_add (lo := 1) (hi := 3073) z4 ri (R_eq z2) rfl
  refine va_sld S.1.1 S.1.2.1 hX hbl hbA X.2 (vp_in_iff.mpr ⟨by omega, by omega⟩) dL_law_1048 ?_
  refine lv_topi (fun y7 z8 => ?_)
  refine r_aload_n S dL_law_1049 rfl (lv_at hl 0 rfl) ?_
  refine r_iload S dL_law_1050 (lv_at hl 4 rfl) ?_
  refine r_iconst S dL_law_1052 (by decide) (fun v9 z10 => ?_)
  refine r_iadd S dL_law_1053 (fun v11 z12 => ?_)
  obtain ⟨e13, r14⟩ := i_add (lo := 2) (hi := 3074) z12 ri (R_eq z10) rfl
  refine va_sld S.1.1 S.1.2.1 hX hbl hbA X.2 (vp_in_iff.mpr ⟨by omega, by omega⟩) dL_law_1054 ?_
  refine lv_topi (fun y15 z16 => ?_)
  refine r_ki (q_V (As := [.int y7, .int y15]) (rest := []) (K := 0) (ci := 9) S X (c_X11_drawn l G τ hJ.1 y7 y15 (R_any _) (R_any _) hJ.2.1 hJ.2.2.1 ) ckL_159 (Nat.le_of_ble_eq_true rfl) rfl (fun _ => ⟨_, rfl⟩) ⟨_, _, rfl⟩ ⟨Nat.le_of_ble_eq_true rfl, Nat.le_of_ble_eq_true rfl⟩ rfl hl.1 rfl (Nat.le_of_ble_eq_true rfl) dL_law_1055 ⟨by show _ ≤ 601024; omega, by show _ ≤ 7293034; omega⟩) X (fun r17 t18 H lc q19 X => ?_)
  obtain ⟨k22, k23, k24⟩ := k_X11_drawn q19
  obtain ⟨hJ, e21, n20⟩ := j_X11_drawn hJ q19
  have h25 := congrArg Int32.toInt e21
  have h26 := congrArg Int32.toInt n20
  refine r_pop S dL_law_1058 rfl ?_
  refine r_aload_n S dL_law_1059 rfl (lv_at hl 2 rfl) ?_
  refine r_aload_n S dL_law_1060 rfl (lv_at hl 0 rfl) ?_
  refine r_iload S dL_law_1061 (lv_at hl 4 rfl) ?_
  refine r_iconst S dL_law_1063 (by decide) (fun v27 z28 => ?_)
  refine r_iadd S dL_law_1064 (fun v29 z30 => ?_)
  obtain ⟨e31, r32⟩ := i_add (lo := 1) (hi := 3073) z30 ri (R_eq z28) rfl
  refine va_sld S.1.1 S.1.2.1 hX hbl hbA X.2 (vp_in_iff.mpr ⟨by omega, by omega⟩) dL_law_1065 ?_
  refine lv_topi (fun y33 z34 => ?_)
  have h35 : y7 = y33 := (show y33 = y7 by rw [z34, z8, show v29 = v3 from Int32.toInt_inj.mp (by omega)]).symm
  subst h35
  refine r_aload_n S dL_law_1066 rfl (lv_at hl 0 rfl) ?_
  refine r_iload S dL_law_1067 (lv_at hl 4 rfl) ?_
  refine r_iconst S dL_law_1069 (by decide) (fun v36 z37 => ?_)
  refine r_iadd S dL_law_1070 (fun v38 z39 => ?_)
  obtain ⟨e40, r41⟩ := i_add (lo := 2) (hi := 3074) z39 ri (R_eq z37) rfl
  refine va_sld S.1.1 S.1.2.1 hX hbl hbA X.2 (vp_in_iff.mpr ⟨by omega, by omega⟩) dL_law_1071 ?_
  refine lv_topi (fun y42 z43 => ?_)
  have h44 : y15 = y42 := (show y42 = y15 by rw [z43, z16, show v38 = v11 from Int32.toInt_inj.mp (by omega)]).symm
  subst h44
  refine r_ki (q_V (As := [.int y7, .int y15]) (rest := []) (K := 38) (ci := 10) S X (c_X12_drawn_x l G t18 hJ.1 y7 y15 (R_any _) (R_any _)  ) ckL_162 (Nat.le_of_ble_eq_true rfl) rfl (fun _ => ⟨_, rfl⟩) ⟨_, _, rfl⟩ ⟨Nat.le_of_ble_eq_true rfl, Nat.le_of_ble_eq_true rfl⟩ rfl hl.1 rfl (Nat.le_of_ble_eq_true rfl) dL_law_1072 ⟨by show _ ≤ 601024; omega, by show _ ≤ 7293034; omega⟩) X (fun r45 t46 H lc q47 X => ?_)
  obtain ⟨k50, k51, k52⟩ := k_X12_drawn_x q47
  obtain ⟨hJ, e49, n48⟩ := j_X12_drawn_x hJ q47
  have h53 := congrArg Int32.toInt e49
  have h54 := congrArg Int32.toInt n48
  refine r_pop S dL_law_1075 rfl ?_
  refine r_goto (tgt := 1291) S dL_law_1076 (by decide) ?_
  refine w_widen (k := cells + 1) (n := slots + 6) (by omega) (by omega) ?_
  exact kk H lc ls t46 hJ ⟨⟨by omega, by omega⟩, ZZ_kp hZZ (zk_X11_drawn q19) (zk_X12_drawn_x q47) (by omega)⟩ X (lv_sub hl [0, 1, 2, 3, 4] rfl)
set_option maxHeartbeats 8000000 in
set_option maxRecDepth 100000 in
theorem lc_odds {p : Program} {l : Launch} {e : Env} {s : State} {m : MethodId} {below : List Frame} {meth : Method} {c : Code} {b L : Nat} {xs : Nat → Int32} {G : Gx} {Q : State → Prop} (hst : l.stackTraces = false) (S : Sx G p m c code 7 s #[Value.ref b] RL) (hZ : Zs G s) (hX : va_X b L xs s s.heap) (hbl : b < s.heap.size) (hbA : ¬ G.2.2.2.2 b) (hL : L ≤ 3072) {H : Heap} {lc : List Loc} {ls : Array Slot} {τ : Tau} {cells slots : Nat} {i : Int32} (hi : 0 ≤ i.toInt ∧ i.toInt + 6 ≤ L) (hR : cells + 1 ≤ 601024 ∧ slots + 6 ≤ 7293034) (hJ : JJ τ) (hlen : ((τ 1 1).toInt = (τ 131 2).toInt ∧ (τ 0 11).toInt = (τ 152 0).toInt + 2 * (τ 152 1).toInt) ∧ ZZ τ) (X : Xd G s H lc τ) (hl : lv_has ls 7 [(0, .ref b), (1, .ref (G.2.2.2.1 0)), (2, .ref (G.2.2.2.1 131)), (3, .ref (G.2.2.2.1 153)), (4, .int i)]) (kk : ∀ (H : Heap) (lc : List Loc) (ls : Array Slot) (τ : Tau), JJ τ → (((τ 1 1).toInt = (τ 131 2).toInt ∧ (τ 0 11).toInt = (τ 152 0).toInt + 2 * (τ 152 1).toInt) ∧ ZZ τ) → Xd G s H lc τ → lv_has ls 7 [(0, .ref b), (1, .ref (G.2.2.2.1 0)), (2, .ref (G.2.2.2.1 131)), (3, .ref (G.2.2.2.1 153)), (4, .int i)] → W p l e room_1 s m #[Value.ref b] below meth c H lc (cells + 1) (slots + 6) Q (F0 m 1291 ls [])) : W p l e room_1 s m #[Value.ref b] below meth c H lc cells slots Q (F0 m 1079 ls []) := by
  obtain ⟨hA1, hA2⟩ := hlen.1
  have hZZ := hlen.2
  have rl : R 0 940 (τ 1 1) := rd (K := 1) hJ.1 rfl rfl
  have ri : R 0 3072 i := ⟨by omega, by omega⟩
  refine r_aload_n S dL_law_1079 rfl (lv_at hl 1 rfl) ?_
  refine r_aload_n S dL_law_1080 rfl (lv_at hl 0 rfl) ?_
  refine r_iload S dL_law_1081 (lv_at hl 4 rfl) ?_
  refine r_iconst S dL_law_1083 (by decide) (fun v1 z2 => ?_)
  refine r_iadd S dL_law_1084 (fun v3 z4 => ?_)
  obtain ⟨e5, r6⟩ := i_add (lo := 1) (hi := 3073) z4 ri (R_eq z2) rfl
  refine va_sld S.1.1 S.1.2.1 hX hbl hbA X.2 (vp_in_iff.mpr ⟨by omega, by omega⟩) dL_law_1085 ?_
  refine lv_topi (fun y7 z8 => ?_)
  refine r_aload_n S dL_law_1086 rfl (lv_at hl 0 rfl) ?_
  refine r_iload S dL_law_1087 (lv_at hl 4 rfl) ?_
  refine r_iconst S dL_law_1089 (by decide) (fun v9 z10 => ?_)
  refine r_iadd S dL_law_1090 (fun v11 z12 => ?_)
  obtain ⟨e13, r14⟩ := i_add (lo := 2) (hi := 3074) z12 ri (R_eq z10) rfl
  refine va_sld S.1.1 S.1.2.1 hX hbl hbA X.2 (vp_in_iff.mpr ⟨by omega, by omega⟩) dL_law_1091 ?_
  refine lv_topi (fun y15 z16 => ?_)
  refine r_aload_n S dL_law_1092 rfl (lv_at hl 0 rfl) ?_
  refine r_iload S dL_law_1093 (lv_at hl 4 rfl) ?_
  refine r_iconst S dL_law_1095 (by decide) (fun v17 z18 => ?_)
  refine r_iadd S dL_law_1096 (fun v19 z20 => ?_)
  obtain ⟨e21, r22⟩ := i_add (lo := 3) (hi := 3075) z20 ri (R_eq z18) rfl
  refine va_sld S.1.1 S.1.2.1 hX hbl hbA X.2 (vp_in_iff.mpr ⟨by omega, by omega⟩) dL_law_1097 ?_
  refine lv_topi (fun y23 z24 => ?_)
  refine r_ki (q_V (As := [.int y7, .int y15, .int y23]) (rest := []) (K := 0) (ci := 9) S X (c_X11_odds l G τ hJ.1 y7 y15 y23 (R_any _) (R_any _) (R_any _) hJ.2.1 ) ckL_163 (Nat.le_of_ble_eq_true rfl) rfl (fun _ => ⟨_, rfl⟩) ⟨_, _, rfl⟩ ⟨Nat.le_of_ble_eq_true rfl, Nat.le_of_ble_eq_true rfl⟩ rfl hl.1 rfl (Nat.le_of_ble_eq_true rfl) dL_law_1098 ⟨by show _ ≤ 601024; omega, by show _ ≤ 7293034; omega⟩) X (fun r25 t26 H lc q27 X => ?_)
  obtain ⟨k30, k31, k32⟩ := k_X11_odds q27
  obtain ⟨hJ, e29, n28⟩ := j_X11_odds hJ q27
  have h33 := congrArg Int32.toInt e29
  have h34 := congrArg Int32.toInt n28
  refine r_pop S dL_law_1101 rfl ?_
  refine r_aload_n S dL_law_1102 rfl (lv_at hl 2 rfl) ?_
  refine r_aload_n S dL_law_1103 rfl (lv_at hl 0 rfl) ?_
  refine r_iload S dL_law_1104 (lv_at hl 4 rfl) ?_
  refine r_iconst S dL_law_1106 (by decide) (fun v35 z36 => ?_)
  refine r_iadd S dL_law_1107 (fun v37 z38 => ?_)
  obtain ⟨e39, r40⟩ := i_add (lo := 1) (hi := 3073) z38 ri (R_eq z36) rfl
  refine va_sld S.1.1 S.1.2.1 hX hbl hbA X.2 (vp_in_iff.mpr ⟨by omega, by omega⟩) dL_law_1108 ?_
  refine lv_topi (fun y41 z42 => ?_)
  have h43 : y7 = y41 := (show y41 = y7 by rw [z42, z8, show v37 = v3 from Int32.toInt_inj.mp (by omega)]).symm
  subst h43
  refine r_aload_n S dL_law_1109 rfl (lv_at hl 0 rfl) ?_
  refine r_iload S dL_law_1110 (lv_at hl 4 rfl) ?_
  refine r_iconst S dL_law_1112 (by decide) (fun v44 z45 => ?_)
  refine r_iadd S dL_law_1113 (fun v46 z47 => ?_)
  obtain ⟨e48, r49⟩ := i_add (lo := 2) (hi := 3074) z47 ri (R_eq z45) rfl
  refine va_sld S.1.1 S.1.2.1 hX hbl hbA X.2 (vp_in_iff.mpr ⟨by omega, by omega⟩) dL_law_1114 ?_
  refine lv_topi (fun y50 z51 => ?_)
  have h52 : y15 = y50 := (show y50 = y15 by rw [z51, z16, show v46 = v11 from Int32.toInt_inj.mp (by omega)]).symm
  subst h52
  refine r_aload_n S dL_law_1115 rfl (lv_at hl 0 rfl) ?_
  refine r_iload S dL_law_1116 (lv_at hl 4 rfl) ?_
  refine r_iconst S dL_law_1118 (by decide) (fun v53 z54 => ?_)
  refine r_iadd S dL_law_1119 (fun v55 z56 => ?_)
  obtain ⟨e57, r58⟩ := i_add (lo := 3) (hi := 3075) z56 ri (R_eq z54) rfl
  refine va_sld S.1.1 S.1.2.1 hX hbl hbA X.2 (vp_in_iff.mpr ⟨by omega, by omega⟩) dL_law_1120 ?_
  refine lv_topi (fun y59 z60 => ?_)
  have h61 : y23 = y59 := (show y59 = y23 by rw [z60, z24, show v55 = v19 from Int32.toInt_inj.mp (by omega)]).symm
  subst h61
  refine r_ki (q_V (As := [.int y7, .int y15, .int y23]) (rest := []) (K := 38) (ci := 10) S X (c_X12_odds l G t26 hJ.1 y7 y15 y23 (R_any _) (R_any _) (R_any _)  ) ckL_166 (Nat.le_of_ble_eq_true rfl) rfl (fun _ => ⟨_, rfl⟩) ⟨_, _, rfl⟩ ⟨Nat.le_of_ble_eq_true rfl, Nat.le_of_ble_eq_true rfl⟩ rfl hl.1 rfl (Nat.le_of_ble_eq_true rfl) dL_law_1121 ⟨by show _ ≤ 601024; omega, by show _ ≤ 7293034; omega⟩) X (fun r62 t63 H lc q64 X => ?_)
  obtain ⟨k67, k68, k69⟩ := k_X12_odds q64
  obtain ⟨hJ, e66, n65⟩ := j_X12_odds hJ q64
  have h70 := congrArg Int32.toInt e66
  have h71 := congrArg Int32.toInt n65
  refine r_pop S dL_law_1124 rfl ?_
  refine r_goto (tgt := 1291) S dL_law_1125 (by decide) ?_
  refine w_widen (k := cells + 1) (n := slots + 6) (by omega) (by omega) ?_
  exact kk H lc ls t63 hJ ⟨⟨by omega, by omega⟩, ZZ_kp hZZ (zk_X11_odds q27) (zk_X12_odds q64) (by omega)⟩ X (lv_sub hl [0, 1, 2, 3, 4] rfl)
set_option maxHeartbeats 8000000 in
set_option maxRecDepth 100000 in
theorem lc_log {p : Program} {l : Launch} {e : Env} {s : State} {m : MethodId} {below : List Frame} {meth : Method} {c : Code} {b L : Nat} {xs : Nat → Int32} {G : Gx} {Q : State → Prop} (hst : l.stackTraces = false) (S : Sx G p m c code 7 s #[Value.ref b] RL) (hZ : Zs G s) (hX : va_X b L xs s s.heap) (hbl : b < s.heap.size) (hbA : ¬ G.2.2.2.2 b) (hL : L ≤ 3072) {H : Heap} {lc : List Loc} {ls : Array Slot} {τ : Tau} {cells slots : Nat} {i : Int32} (hi : 0 ≤ i.toInt ∧ i.toInt + 6 ≤ L) (hR : cells + 1 ≤ 601024 ∧ slots + 6 ≤ 7293034) (hJ : JJ τ) (hlen : ((τ 1 1).toInt = (τ 131 2).toInt ∧ (τ 0 11).toInt = (τ 152 0).toInt + 2 * (τ 152 1).toInt) ∧ ZZ τ) (X : Xd G s H lc τ) (hl : lv_has ls 7 [(0, .ref b), (1, .ref (G.2.2.2.1 0)), (2, .ref (G.2.2.2.1 131)), (3, .ref (G.2.2.2.1 153)), (4, .int i)]) (kk : ∀ (H : Heap) (lc : List Loc) (ls : Array Slot) (τ : Tau), JJ τ → (((τ 1 1).toInt = (τ 131 2).toInt ∧ (τ 0 11).toInt = (τ 152 0).toInt + 2 * (τ 152 1).toInt) ∧ ZZ τ) → Xd G s H lc τ → lv_has ls 7 [(0, .ref b), (1, .ref (G.2.2.2.1 0)), (2, .ref (G.2.2.2.1 131)), (3, .ref (G.2.2.2.1 153)), (4, .int i)] → W p l e room_1 s m #[Value.ref b] below meth c H lc (cells + 1) (slots + 6) Q (F0 m 1291 ls [])) : W p l e room_1 s m #[Value.ref b] below meth c H lc cells slots Q (F0 m 1128 ls []) := by
  obtain ⟨hA1, hA2⟩ := hlen.1
  have hZZ := hlen.2
  have rl : R 0 940 (τ 1 1) := rd (K := 1) hJ.1 rfl rfl
  have ri : R 0 3072 i := ⟨by omega, by omega⟩
  refine r_aload_n S dL_law_1128 rfl (lv_at hl 1 rfl) ?_
  refine r_aload_n S dL_law_1129 rfl (lv_at hl 0 rfl) ?_
  refine r_iload S dL_law_1130 (lv_at hl 4 rfl) ?_
  refine r_iconst S dL_law_1132 (by decide) (fun v1 z2 => ?_)
  refine r_iadd S dL_law_1133 (fun v3 z4 => ?_)
  obtain ⟨e5, r6⟩ := i_add (lo := 1) (hi := 3073) z4 ri (R_eq z2) rfl
  refine va_sld S.1.1 S.1.2.1 hX hbl hbA X.2 (vp_in_iff.mpr ⟨by omega, by omega⟩) dL_law_1134 ?_
  refine lv_topi (fun y7 z8 => ?_)
  refine r_ki (q_V (As := [.int y7]) (rest := []) (K := 0) (ci := 9) S X (c_X11_log l G τ hJ.1 y7 (R_any _) hJ.2.1 hJ.2.2.1 hJ.2.2.2.2.1 ) ckL_167 (Nat.le_of_ble_eq_true rfl) rfl (fun _ => ⟨_, rfl⟩) ⟨_, _, rfl⟩ ⟨Nat.le_of_ble_eq_true rfl, Nat.le_of_ble_eq_true rfl⟩ rfl hl.1 rfl (Nat.le_of_ble_eq_true rfl) dL_law_1135 ⟨by show _ ≤ 601024; omega, by show _ ≤ 7293034; omega⟩) X (fun r9 t10 H lc q11 X => ?_)
  obtain ⟨k15, k16, k17⟩ := k_X11_log q11
  obtain ⟨hJ, e14, n12, n13⟩ := j_X11_log hJ q11
  have h18 := congrArg Int32.toInt e14
  refine r_pop S dL_law_1138 rfl ?_
  refine r_aload_n S dL_law_1139 rfl (lv_at hl 2 rfl) ?_
  refine r_aload_n S dL_law_1140 rfl (lv_at hl 0 rfl) ?_
  refine r_iload S dL_law_1141 (lv_at hl 4 rfl) ?_
  refine r_iconst S dL_law_1143 (by decide) (fun v19 z20 => ?_)
  refine r_iadd S dL_law_1144 (fun v21 z22 => ?_)
  obtain ⟨e23, r24⟩ := i_add (lo := 1) (hi := 3073) z22 ri (R_eq z20) rfl
  refine va_sld S.1.1 S.1.2.1 hX hbl hbA X.2 (vp_in_iff.mpr ⟨by omega, by omega⟩) dL_law_1145 ?_
  refine lv_topi (fun y25 z26 => ?_)
  have h27 : y7 = y25 := (show y25 = y7 by rw [z26, z8, show v21 = v3 from Int32.toInt_inj.mp (by omega)]).symm
  subst h27
  refine r_ki (q_V (As := [.int y7]) (rest := []) (K := 38) (ci := 10) S X (c_X12_log l G t10 hJ.1 y7 (R_any _)  ) ckL_170 (Nat.le_of_ble_eq_true rfl) rfl (fun _ => ⟨_, rfl⟩) ⟨_, _, rfl⟩ ⟨Nat.le_of_ble_eq_true rfl, Nat.le_of_ble_eq_true rfl⟩ rfl hl.1 rfl (Nat.le_of_ble_eq_true rfl) dL_law_1146 ⟨by show _ ≤ 601024; omega, by show _ ≤ 7293034; omega⟩) X (fun r28 t29 H lc q30 X => ?_)
  obtain ⟨k34, k35, k36⟩ := k_X12_log q30
  obtain ⟨hJ, e33, n31, n32⟩ := j_X12_log hJ q30
  have h37 := congrArg Int32.toInt e33
  refine r_pop S dL_law_1149 rfl ?_
  refine r_goto (tgt := 1291) S dL_law_1150 (by decide) ?_
  refine w_widen (k := cells + 1) (n := slots + 6) (by omega) (by omega) ?_
  exact kk H lc ls t29 hJ ⟨⟨by omega, by omega⟩, ZZ_kp hZZ (zk_X11_log q11) (zk_X12_log q30) (by omega)⟩ X (lv_sub hl [0, 1, 2, 3, 4] rfl)
set_option maxHeartbeats 8000000 in
set_option maxRecDepth 100000 in
theorem lc_logged {p : Program} {l : Launch} {e : Env} {s : State} {m : MethodId} {below : List Frame} {meth : Method} {c : Code} {b L : Nat} {xs : Nat → Int32} {G : Gx} {Q : State → Prop} (hst : l.stackTraces = false) (S : Sx G p m c code 7 s #[Value.ref b] RL) (hZ : Zs G s) (hX : va_X b L xs s s.heap) (hbl : b < s.heap.size) (hbA : ¬ G.2.2.2.2 b) (hL : L ≤ 3072) {H : Heap} {lc : List Loc} {ls : Array Slot} {τ : Tau} {cells slots : Nat} {i : Int32} (hi : 0 ≤ i.toInt ∧ i.toInt + 6 ≤ L) (hR : cells + 1 ≤ 601024 ∧ slots + 6 ≤ 7293034) (hJ : JJ τ) (hlen : ((τ 1 1).toInt = (τ 131 2).toInt ∧ (τ 0 11).toInt = (τ 152 0).toInt + 2 * (τ 152 1).toInt) ∧ ZZ τ) (X : Xd G s H lc τ) (hl : lv_has ls 7 [(0, .ref b), (1, .ref (G.2.2.2.1 0)), (2, .ref (G.2.2.2.1 131)), (3, .ref (G.2.2.2.1 153)), (4, .int i)]) (kk : ∀ (H : Heap) (lc : List Loc) (ls : Array Slot) (τ : Tau), JJ τ → (((τ 1 1).toInt = (τ 131 2).toInt ∧ (τ 0 11).toInt = (τ 152 0).toInt + 2 * (τ 152 1).toInt) ∧ ZZ τ) → Xd G s H lc τ → lv_has ls 7 [(0, .ref b), (1, .ref (G.2.2.2.1 0)), (2, .ref (G.2.2.2.1 131)), (3, .ref (G.2.2.2.1 153)), (4, .int i)] → W p l e room_1 s m #[Value.ref b] below meth c H lc (cells + 1) (slots + 6) Q (F0 m 1291 ls [])) : W p l e room_1 s m #[Value.ref b] below meth c H lc cells slots Q (F0 m 1153 ls []) := by
  obtain ⟨hA1, hA2⟩ := hlen.1
  have hZZ := hlen.2
  have rl : R 0 940 (τ 1 1) := rd (K := 1) hJ.1 rfl rfl
  have ri : R 0 3072 i := ⟨by omega, by omega⟩
  refine r_aload_n S dL_law_1153 rfl (lv_at hl 1 rfl) ?_
  refine r_aload_n S dL_law_1154 rfl (lv_at hl 0 rfl) ?_
  refine r_iload S dL_law_1155 (lv_at hl 4 rfl) ?_
  refine r_iconst S dL_law_1157 (by decide) (fun v1 z2 => ?_)
  refine r_iadd S dL_law_1158 (fun v3 z4 => ?_)
  obtain ⟨e5, r6⟩ := i_add (lo := 1) (hi := 3073) z4 ri (R_eq z2) rfl
  refine va_sld S.1.1 S.1.2.1 hX hbl hbA X.2 (vp_in_iff.mpr ⟨by omega, by omega⟩) dL_law_1159 ?_
  refine lv_topi (fun y7 z8 => ?_)
  refine r_ki (q_V (As := [.int y7]) (rest := []) (K := 0) (ci := 9) S X (c_X11_logged l G τ hJ.1 y7 (R_any _)  ) ckL_171 (Nat.le_of_ble_eq_true rfl) rfl (fun _ => ⟨_, rfl⟩) ⟨_, _, rfl⟩ ⟨Nat.le_of_ble_eq_true rfl, Nat.le_of_ble_eq_true rfl⟩ rfl hl.1 rfl (Nat.le_of_ble_eq_true rfl) dL_law_1160 ⟨by show _ ≤ 601024; omega, by show _ ≤ 7293034; omega⟩) X (fun r9 t10 H lc q11 X => ?_)
  obtain ⟨k14, k15, k16⟩ := k_X11_logged q11
  obtain ⟨hJ, e13, n12⟩ := j_X11_logged hJ q11
  have h17 := congrArg Int32.toInt e13
  have h18 := congrArg Int32.toInt n12
  refine r_pop S dL_law_1163 rfl ?_
  refine r_aload_n S dL_law_1164 rfl (lv_at hl 2 rfl) ?_
  refine r_aload_n S dL_law_1165 rfl (lv_at hl 0 rfl) ?_
  refine r_iload S dL_law_1166 (lv_at hl 4 rfl) ?_
  refine r_iconst S dL_law_1168 (by decide) (fun v19 z20 => ?_)
  refine r_iadd S dL_law_1169 (fun v21 z22 => ?_)
  obtain ⟨e23, r24⟩ := i_add (lo := 1) (hi := 3073) z22 ri (R_eq z20) rfl
  refine va_sld S.1.1 S.1.2.1 hX hbl hbA X.2 (vp_in_iff.mpr ⟨by omega, by omega⟩) dL_law_1170 ?_
  refine lv_topi (fun y25 z26 => ?_)
  have h27 : y7 = y25 := (show y25 = y7 by rw [z26, z8, show v21 = v3 from Int32.toInt_inj.mp (by omega)]).symm
  subst h27
  refine r_ki (q_V (As := [.int y7]) (rest := []) (K := 38) (ci := 10) S X (c_X12_logged l G t10 hJ.1 y7 (R_any _)  ) ckL_174 (Nat.le_of_ble_eq_true rfl) rfl (fun _ => ⟨_, rfl⟩) ⟨_, _, rfl⟩ ⟨Nat.le_of_ble_eq_true rfl, Nat.le_of_ble_eq_true rfl⟩ rfl hl.1 rfl (Nat.le_of_ble_eq_true rfl) dL_law_1171 ⟨by show _ ≤ 601024; omega, by show _ ≤ 7293034; omega⟩) X (fun r28 t29 H lc q30 X => ?_)
  obtain ⟨k33, k34, k35⟩ := k_X12_logged q30
  obtain ⟨hJ, e32, n31⟩ := j_X12_logged hJ q30
  have h36 := congrArg Int32.toInt e32
  have h37 := congrArg Int32.toInt n31
  refine r_pop S dL_law_1174 rfl ?_
  refine r_goto (tgt := 1291) S dL_law_1175 (by decide) ?_
  refine w_widen (k := cells + 1) (n := slots + 6) (by omega) (by omega) ?_
  exact kk H lc ls t29 hJ ⟨⟨by omega, by omega⟩, ZZ_kp hZZ (zk_X11_logged q11) (zk_X12_logged q30) (by omega)⟩ X (lv_sub hl [0, 1, 2, 3, 4] rfl)
set_option maxHeartbeats 8000000 in
set_option maxRecDepth 100000 in
theorem lc_sentence {p : Program} {l : Launch} {e : Env} {s : State} {m : MethodId} {below : List Frame} {meth : Method} {c : Code} {b L : Nat} {xs : Nat → Int32} {G : Gx} {Q : State → Prop} (hst : l.stackTraces = false) (S : Sx G p m c code 7 s #[Value.ref b] RL) (hZ : Zs G s) (hX : va_X b L xs s s.heap) (hbl : b < s.heap.size) (hbA : ¬ G.2.2.2.2 b) (hL : L ≤ 3072) {H : Heap} {lc : List Loc} {ls : Array Slot} {τ : Tau} {cells slots : Nat} {i : Int32} (hi : 0 ≤ i.toInt ∧ i.toInt + 6 ≤ L) (hR : cells + 1 ≤ 601024 ∧ slots + 6 ≤ 7293034) (hJ : JJ τ) (hlen : ((τ 1 1).toInt = (τ 131 2).toInt ∧ (τ 0 11).toInt = (τ 152 0).toInt + 2 * (τ 152 1).toInt) ∧ ZZ τ) (X : Xd G s H lc τ) (hl : lv_has ls 7 [(0, .ref b), (1, .ref (G.2.2.2.1 0)), (2, .ref (G.2.2.2.1 131)), (3, .ref (G.2.2.2.1 153)), (4, .int i)]) (kk : ∀ (H : Heap) (lc : List Loc) (ls : Array Slot) (τ : Tau), JJ τ → (((τ 1 1).toInt = (τ 131 2).toInt ∧ (τ 0 11).toInt = (τ 152 0).toInt + 2 * (τ 152 1).toInt) ∧ ZZ τ) → Xd G s H lc τ → lv_has ls 7 [(0, .ref b), (1, .ref (G.2.2.2.1 0)), (2, .ref (G.2.2.2.1 131)), (3, .ref (G.2.2.2.1 153)), (4, .int i)] → W p l e room_1 s m #[Value.ref b] below meth c H lc (cells + 1) (slots + 6) Q (F0 m 1291 ls [])) : W p l e room_1 s m #[Value.ref b] below meth c H lc cells slots Q (F0 m 1178 ls []) := by
  obtain ⟨hA1, hA2⟩ := hlen.1
  have hZZ := hlen.2
  have rl : R 0 940 (τ 1 1) := rd (K := 1) hJ.1 rfl rfl
  have ri : R 0 3072 i := ⟨by omega, by omega⟩
  refine r_aload_n S dL_law_1178 rfl (lv_at hl 1 rfl) ?_
  refine r_ki (q_V (As := []) (rest := []) (K := 0) (ci := 9) S X (c_X11_sentence l G τ hJ.1   hJ.2.2.2.2.2.2.1 hJ.2.2.2.2.2.1 ) ckL_175 (Nat.le_of_ble_eq_true rfl) rfl (fun _ => ⟨_, rfl⟩) ⟨_, _, rfl⟩ ⟨Nat.le_of_ble_eq_true rfl, Nat.le_of_ble_eq_true rfl⟩ rfl hl.1 rfl (Nat.le_of_ble_eq_true rfl) dL_law_1179 ⟨by show _ ≤ 601024; omega, by show _ ≤ 7293034; omega⟩) X (fun r1 t2 H lc q3 X => ?_)
  obtain ⟨k6, k7, k8⟩ := k_X11_sentence q3
  obtain ⟨hJ, e5, n4⟩ := j_X11_sentence hJ q3
  have h9 := congrArg Int32.toInt e5
  refine r_pop S dL_law_1182 rfl ?_
  refine r_aload_n S dL_law_1183 rfl (lv_at hl 2 rfl) ?_
  refine r_ki (q_V (As := []) (rest := []) (K := 38) (ci := 10) S X (c_X12_sentence_q l G t2 hJ.1    hJ.2.2.2.2.2.2.2.2.2.1) ckL_178 (Nat.le_of_ble_eq_true rfl) rfl (fun _ => ⟨_, rfl⟩) ⟨_, _, rfl⟩ ⟨Nat.le_of_ble_eq_true rfl, Nat.le_of_ble_eq_true rfl⟩ rfl hl.1 rfl (Nat.le_of_ble_eq_true rfl) dL_law_1184 ⟨by show _ ≤ 601024; omega, by show _ ≤ 7293034; omega⟩) X (fun r10 t11 H lc q12 X => ?_)
  obtain ⟨k15, k16, k17⟩ := k_X12_sentence_q q12
  obtain ⟨hJ, e14, n13⟩ := j_X12_sentence_q hJ q12
  have h18 := congrArg Int32.toInt e14
  have h19 : (t11 131 2).toInt = 0 := by have h1 := n13.1; have h2 := n13.2; omega
  refine r_pop S dL_law_1187 rfl ?_
  refine r_goto (tgt := 1291) S dL_law_1188 (by decide) ?_
  refine w_widen (k := cells + 1) (n := slots + 6) (by omega) (by omega) ?_
  exact kk H lc ls t11 hJ ⟨⟨by omega, by omega⟩, ZZ_kp hZZ (zk_X11_sentence q3) (zk_X12_sentence_q q12) (by omega)⟩ X (lv_sub hl [0, 1, 2, 3, 4] rfl)
set_option maxHeartbeats 8000000 in
set_option maxRecDepth 100000 in
theorem lc_said {p : Program} {l : Launch} {e : Env} {s : State} {m : MethodId} {below : List Frame} {meth : Method} {c : Code} {b L : Nat} {xs : Nat → Int32} {G : Gx} {Q : State → Prop} (hst : l.stackTraces = false) (S : Sx G p m c code 7 s #[Value.ref b] RL) (hZ : Zs G s) (hX : va_X b L xs s s.heap) (hbl : b < s.heap.size) (hbA : ¬ G.2.2.2.2 b) (hL : L ≤ 3072) {H : Heap} {lc : List Loc} {ls : Array Slot} {τ : Tau} {cells slots : Nat} {i : Int32} (hi : 0 ≤ i.toInt ∧ i.toInt + 6 ≤ L) (hR : cells + 1 ≤ 601024 ∧ slots + 6 ≤ 7293034) (hJ : JJ τ) (hlen : ((τ 1 1).toInt = (τ 131 2).toInt ∧ (τ 0 11).toInt = (τ 152 0).toInt + 2 * (τ 152 1).toInt) ∧ ZZ τ) (X : Xd G s H lc τ) (hl : lv_has ls 7 [(0, .ref b), (1, .ref (G.2.2.2.1 0)), (2, .ref (G.2.2.2.1 131)), (3, .ref (G.2.2.2.1 153)), (4, .int i)]) (kk : ∀ (H : Heap) (lc : List Loc) (ls : Array Slot) (τ : Tau), JJ τ → (((τ 1 1).toInt = (τ 131 2).toInt ∧ (τ 0 11).toInt = (τ 152 0).toInt + 2 * (τ 152 1).toInt) ∧ ZZ τ) → Xd G s H lc τ → lv_has ls 7 [(0, .ref b), (1, .ref (G.2.2.2.1 0)), (2, .ref (G.2.2.2.1 131)), (3, .ref (G.2.2.2.1 153)), (4, .int i)] → W p l e room_1 s m #[Value.ref b] below meth c H lc (cells + 1) (slots + 6) Q (F0 m 1291 ls [])) : W p l e room_1 s m #[Value.ref b] below meth c H lc cells slots Q (F0 m 1191 ls []) := by
  obtain ⟨hA1, hA2⟩ := hlen.1
  have hZZ := hlen.2
  have rl : R 0 940 (τ 1 1) := rd (K := 1) hJ.1 rfl rfl
  have ri : R 0 3072 i := ⟨by omega, by omega⟩
  refine r_aload_n S dL_law_1191 rfl (lv_at hl 1 rfl) ?_
  refine r_aload_n S dL_law_1192 rfl (lv_at hl 0 rfl) ?_
  refine r_iload S dL_law_1193 (lv_at hl 4 rfl) ?_
  refine r_iconst S dL_law_1195 (by decide) (fun v1 z2 => ?_)
  refine r_iadd S dL_law_1196 (fun v3 z4 => ?_)
  obtain ⟨e5, r6⟩ := i_add (lo := 1) (hi := 3073) z4 ri (R_eq z2) rfl
  refine va_sld S.1.1 S.1.2.1 hX hbl hbA X.2 (vp_in_iff.mpr ⟨by omega, by omega⟩) dL_law_1197 ?_
  refine lv_topi (fun y7 z8 => ?_)
  refine r_ki (q_V (As := [.int y7]) (rest := []) (K := 0) (ci := 9) S X (c_X11_said l G τ hJ.1 y7 (R_any _) hJ.2.2.2.2.2.1 ) ckL_179 (Nat.le_of_ble_eq_true rfl) rfl (fun _ => ⟨_, rfl⟩) ⟨_, _, rfl⟩ ⟨Nat.le_of_ble_eq_true rfl, Nat.le_of_ble_eq_true rfl⟩ rfl hl.1 rfl (Nat.le_of_ble_eq_true rfl) dL_law_1198 ⟨by show _ ≤ 601024; omega, by show _ ≤ 7293034; omega⟩) X (fun r9 t10 H lc q11 X => ?_)
  obtain ⟨k14, k15, k16⟩ := k_X11_said q11
  obtain ⟨hJ, e13, n12⟩ := j_X11_said hJ q11
  have h17 := congrArg Int32.toInt e13
  have h18 := congrArg Int32.toInt n12
  refine r_pop S dL_law_1201 rfl ?_
  refine r_aload_n S dL_law_1202 rfl (lv_at hl 2 rfl) ?_
  refine r_aload_n S dL_law_1203 rfl (lv_at hl 0 rfl) ?_
  refine r_iload S dL_law_1204 (lv_at hl 4 rfl) ?_
  refine r_iconst S dL_law_1206 (by decide) (fun v19 z20 => ?_)
  refine r_iadd S dL_law_1207 (fun v21 z22 => ?_)
  obtain ⟨e23, r24⟩ := i_add (lo := 1) (hi := 3073) z22 ri (R_eq z20) rfl
  refine va_sld S.1.1 S.1.2.1 hX hbl hbA X.2 (vp_in_iff.mpr ⟨by omega, by omega⟩) dL_law_1208 ?_
  refine lv_topi (fun y25 z26 => ?_)
  have h27 : y7 = y25 := (show y25 = y7 by rw [z26, z8, show v21 = v3 from Int32.toInt_inj.mp (by omega)]).symm
  subst h27
  refine r_ki (q_V (As := [.int y7]) (rest := []) (K := 38) (ci := 10) S X (c_X12_said l G t10 hJ.1 y7 (R_any _)  hJ.2.2.2.2.2.2.2.2.2.1) ckL_182 (Nat.le_of_ble_eq_true rfl) rfl (fun _ => ⟨_, rfl⟩) ⟨_, _, rfl⟩ ⟨Nat.le_of_ble_eq_true rfl, Nat.le_of_ble_eq_true rfl⟩ rfl hl.1 rfl (Nat.le_of_ble_eq_true rfl) dL_law_1209 ⟨by show _ ≤ 601024; omega, by show _ ≤ 7293034; omega⟩) X (fun r28 t29 H lc q30 X => ?_)
  obtain ⟨k33, k34, k35⟩ := k_X12_said q30
  obtain ⟨hJ, e32, n31⟩ := j_X12_said hJ q30
  have h36 := congrArg Int32.toInt e32
  have h37 := congrArg Int32.toInt n31
  refine r_pop S dL_law_1212 rfl ?_
  refine r_goto (tgt := 1291) S dL_law_1213 (by decide) ?_
  refine w_widen (k := cells + 1) (n := slots + 6) (by omega) (by omega) ?_
  exact kk H lc ls t29 hJ ⟨⟨by omega, by omega⟩, ZZ_kp hZZ (zk_X11_said q11) (zk_X12_said q30) (by omega)⟩ X (lv_sub hl [0, 1, 2, 3, 4] rfl)
set_option maxHeartbeats 8000000 in
set_option maxRecDepth 100000 in
theorem lc_image {p : Program} {l : Launch} {e : Env} {s : State} {m : MethodId} {below : List Frame} {meth : Method} {c : Code} {b L : Nat} {xs : Nat → Int32} {G : Gx} {Q : State → Prop} (hst : l.stackTraces = false) (S : Sx G p m c code 7 s #[Value.ref b] RL) (hZ : Zs G s) (hX : va_X b L xs s s.heap) (hbl : b < s.heap.size) (hbA : ¬ G.2.2.2.2 b) (hL : L ≤ 3072) {H : Heap} {lc : List Loc} {ls : Array Slot} {τ : Tau} {cells slots : Nat} {i : Int32} (hi : 0 ≤ i.toInt ∧ i.toInt + 6 ≤ L) (hR : cells + 1 ≤ 601024 ∧ slots + 6 ≤ 7293034) (hJ : JJ τ) (hlen : ((τ 1 1).toInt = (τ 131 2).toInt ∧ (τ 0 11).toInt = (τ 152 0).toInt + 2 * (τ 152 1).toInt) ∧ ZZ τ) (X : Xd G s H lc τ) (hl : lv_has ls 7 [(0, .ref b), (1, .ref (G.2.2.2.1 0)), (2, .ref (G.2.2.2.1 131)), (3, .ref (G.2.2.2.1 153)), (4, .int i)]) (kk : ∀ (H : Heap) (lc : List Loc) (ls : Array Slot) (τ : Tau), JJ τ → (((τ 1 1).toInt = (τ 131 2).toInt ∧ (τ 0 11).toInt = (τ 152 0).toInt + 2 * (τ 152 1).toInt) ∧ ZZ τ) → Xd G s H lc τ → lv_has ls 7 [(0, .ref b), (1, .ref (G.2.2.2.1 0)), (2, .ref (G.2.2.2.1 131)), (3, .ref (G.2.2.2.1 153)), (4, .int i)] → W p l e room_1 s m #[Value.ref b] below meth c H lc (cells + 1) (slots + 6) Q (F0 m 1291 ls [])) : W p l e room_1 s m #[Value.ref b] below meth c H lc cells slots Q (F0 m 1216 ls []) := by
  obtain ⟨hA1, hA2⟩ := hlen.1
  have hZZ := hlen.2
  have rl : R 0 940 (τ 1 1) := rd (K := 1) hJ.1 rfl rfl
  have ri : R 0 3072 i := ⟨by omega, by omega⟩
  have rk0 : R 0 1 (τ 152 0) := rd (K := 59) hJ.1 rfl rfl
  have rk1 : R 0 1 (τ 152 1) := rd (K := 59) hJ.1 rfl rfl
  refine r_aload_n S dL_law_1216 rfl (lv_at hl 1 rfl) ?_
  refine r_aload_n S dL_law_1217 rfl (lv_at hl 0 rfl) ?_
  refine r_iload S dL_law_1218 (lv_at hl 4 rfl) ?_
  refine r_iconst S dL_law_1220 (by decide) (fun v1 z2 => ?_)
  refine r_iadd S dL_law_1221 (fun v3 z4 => ?_)
  obtain ⟨e5, r6⟩ := i_add (lo := 1) (hi := 3073) z4 ri (R_eq z2) rfl
  refine va_sld S.1.1 S.1.2.1 hX hbl hbA X.2 (vp_in_iff.mpr ⟨by omega, by omega⟩) dL_law_1222 ?_
  refine lv_topi (fun y7 z8 => ?_)
  refine r_ki (q_V (As := [.int y7]) (rest := []) (K := 0) (ci := 9) S X (c_X11_image l G τ hJ.1 y7 (R_any _) hJ.2.1 hJ.2.2.2.1 hJ.2.2.2.2.2.1 hJ.2.2.2.2.2.2.2.1 hJ.2.2.2.2.2.2.2.2.1 ) ckL_183 (Nat.le_of_ble_eq_true rfl) rfl (fun _ => ⟨_, rfl⟩) ⟨_, _, rfl⟩ ⟨Nat.le_of_ble_eq_true rfl, Nat.le_of_ble_eq_true rfl⟩ rfl hl.1 rfl (Nat.le_of_ble_eq_true rfl) dL_law_1223 ⟨by show _ ≤ 601024; omega, by show _ ≤ 7293034; omega⟩) X (fun r9 t10 H lc q11 X => ?_)
  have k27 := q11
  unfold po_X11_image at k27
  obtain ⟨p14, p15, p16, p17, p18, p19, p20, p21, p22, p23, p24, p25, p26⟩ := k27
  obtain ⟨k28, k29⟩ := k_X11_image q11
  obtain ⟨hJ, e13, n12⟩ := j_X11_image hJ q11
  have h30 := congrArg Int32.toInt e13
  have h31 := congrArg Int32.toInt n12
  refine r_pop S dL_law_1226 rfl ?_
  refine r_aload_n S dL_law_1227 rfl (lv_at hl 2 rfl) ?_
  refine r_aload_n S dL_law_1228 rfl (lv_at hl 0 rfl) ?_
  refine r_iload S dL_law_1229 (lv_at hl 4 rfl) ?_
  refine r_iconst S dL_law_1231 (by decide) (fun v32 z33 => ?_)
  refine r_iadd S dL_law_1232 (fun v34 z35 => ?_)
  obtain ⟨e36, r37⟩ := i_add (lo := 1) (hi := 3073) z35 ri (R_eq z33) rfl
  refine va_sld S.1.1 S.1.2.1 hX hbl hbA X.2 (vp_in_iff.mpr ⟨by omega, by omega⟩) dL_law_1233 ?_
  refine lv_topi (fun y38 z39 => ?_)
  have h40 : y7 = y38 := (show y38 = y7 by rw [z39, z8, show v34 = v3 from Int32.toInt_inj.mp (by omega)]).symm
  subst h40
  refine r_ki (q_V (As := [.int y7]) (rest := []) (K := 38) (ci := 10) S X (c_X12_image_x l G t10 hJ.1 y7 (R_any _)  hJ.2.2.2.2.2.2.2.2.2.1 hJ.2.2.2.2.2.2.2.2.2.2) ckL_186 (Nat.le_of_ble_eq_true rfl) rfl (fun _ => ⟨_, rfl⟩) ⟨_, _, rfl⟩ ⟨Nat.le_of_ble_eq_true rfl, Nat.le_of_ble_eq_true rfl⟩ rfl hl.1 rfl (Nat.le_of_ble_eq_true rfl) dL_law_1234 ⟨by show _ ≤ 601024; omega, by show _ ≤ 7293034; omega⟩) X (fun r41 t42 H lc q43 X => ?_)
  have k55 := q43
  unfold po_X12_image_x at k55
  obtain ⟨p46, p47, p48, p49, p50, p51, p52, p53, p54⟩ := k55
  have k56 : y7.toInt = 0 → (t42 152 0).toInt = 1 := fun h => (p53.1 h).1
  have k57 : y7.toInt = 0 → (t42 152 1).toInt = (t10 152 1).toInt := fun h => congrArg Int32.toInt (p53.1 h).2
  have k58 : y7.toInt = 1 → (t42 152 1).toInt = 1 := fun h => (p53.2 h).1
  have k59 : y7.toInt = 1 → (t42 152 0).toInt = (t10 152 0).toInt := fun h => congrArg Int32.toInt (p53.2 h).2
  have k60 : y7.toInt < 0 ∨ 1 < y7.toInt → (t42 152 0).toInt = (t10 152 0).toInt := fun h => congrArg Int32.toInt (p54 h).1
  have k61 : y7.toInt < 0 ∨ 1 < y7.toInt → (t42 152 1).toInt = (t10 152 1).toInt := fun h => congrArg Int32.toInt (p54 h).2
  have k62 := k_X12_image_x q43
  obtain ⟨hJ, e45, n44⟩ := j_X12_image_x hJ q43
  have h63 := congrArg Int32.toInt e45
  have h64 := congrArg Int32.toInt n44
  refine r_pop S dL_law_1237 rfl ?_
  refine r_goto (tgt := 1291) S dL_law_1238 (by decide) ?_
  refine w_widen (k := cells + 1) (n := slots + 6) (by omega) (by omega) ?_
  exact kk H lc ls t42 hJ ⟨⟨by omega, by omega⟩, ZZ_image hZZ (zk_X11_image q11) (zk_X12_image_x q43) p25 p26 p52 p53 p54 p50 p51 (by omega)⟩ X (lv_sub hl [0, 1, 2, 3, 4] rfl)
set_option maxHeartbeats 8000000 in
set_option maxRecDepth 100000 in
theorem lc_restore {p : Program} {l : Launch} {e : Env} {s : State} {m : MethodId} {below : List Frame} {meth : Method} {c : Code} {b L : Nat} {xs : Nat → Int32} {G : Gx} {Q : State → Prop} (hst : l.stackTraces = false) (S : Sx G p m c code 7 s #[Value.ref b] RL) (hZ : Zs G s) (hX : va_X b L xs s s.heap) (hbl : b < s.heap.size) (hbA : ¬ G.2.2.2.2 b) (hL : L ≤ 3072) {H : Heap} {lc : List Loc} {ls : Array Slot} {τ : Tau} {cells slots : Nat} {i : Int32} (hi : 0 ≤ i.toInt ∧ i.toInt + 6 ≤ L) (hR : cells + 1 ≤ 601024 ∧ slots + 6 ≤ 7293034) (hJ : JJ τ) (hlen : ((τ 1 1).toInt = (τ 131 2).toInt ∧ (τ 0 11).toInt = (τ 152 0).toInt + 2 * (τ 152 1).toInt) ∧ ZZ τ) (X : Xd G s H lc τ) (hl : lv_has ls 7 [(0, .ref b), (1, .ref (G.2.2.2.1 0)), (2, .ref (G.2.2.2.1 131)), (3, .ref (G.2.2.2.1 153)), (4, .int i)]) (kk : ∀ (H : Heap) (lc : List Loc) (ls : Array Slot) (τ : Tau), JJ τ → (((τ 1 1).toInt = (τ 131 2).toInt ∧ (τ 0 11).toInt = (τ 152 0).toInt + 2 * (τ 152 1).toInt) ∧ ZZ τ) → Xd G s H lc τ → lv_has ls 7 [(0, .ref b), (1, .ref (G.2.2.2.1 0)), (2, .ref (G.2.2.2.1 131)), (3, .ref (G.2.2.2.1 153)), (4, .int i)] → W p l e room_1 s m #[Value.ref b] below meth c H lc (cells + 1) (slots + 6) Q (F0 m 1291 ls [])) : W p l e room_1 s m #[Value.ref b] below meth c H lc cells slots Q (F0 m 1241 ls []) := by
  obtain ⟨hA1, hA2⟩ := hlen.1
  have hZZ := hlen.2
  have rl : R 0 940 (τ 1 1) := rd (K := 1) hJ.1 rfl rfl
  have ri : R 0 3072 i := ⟨by omega, by omega⟩
  have rk0 : R 0 1 (τ 152 0) := rd (K := 59) hJ.1 rfl rfl
  have rk1 : R 0 1 (τ 152 1) := rd (K := 59) hJ.1 rfl rfl
  refine r_aload_n S dL_law_1241 rfl (lv_at hl 1 rfl) ?_
  refine r_aload_n S dL_law_1242 rfl (lv_at hl 0 rfl) ?_
  refine r_iload S dL_law_1243 (lv_at hl 4 rfl) ?_
  refine r_iconst S dL_law_1245 (by decide) (fun v1 z2 => ?_)
  refine r_iadd S dL_law_1246 (fun v3 z4 => ?_)
  obtain ⟨e5, r6⟩ := i_add (lo := 1) (hi := 3073) z4 ri (R_eq z2) rfl
  refine va_sld S.1.1 S.1.2.1 hX hbl hbA X.2 (vp_in_iff.mpr ⟨by omega, by omega⟩) dL_law_1247 ?_
  refine lv_topi (fun y7 z8 => ?_)
  refine r_ki (q_V (As := [.int y7]) (rest := []) (K := 0) (ci := 9) S X (c_X11_restore l G τ hJ.1 y7 (R_any _) hJ.2.1 hJ.2.2.1 hJ.2.2.2.1 hJ.2.2.2.2.2.1 hJ.2.2.2.2.2.2.2.1 hJ.2.2.2.2.2.2.2.2.1 ) ckL_187 (Nat.le_of_ble_eq_true rfl) rfl (fun _ => ⟨_, rfl⟩) ⟨_, _, rfl⟩ ⟨Nat.le_of_ble_eq_true rfl, Nat.le_of_ble_eq_true rfl⟩ rfl hl.1 rfl (Nat.le_of_ble_eq_true rfl) dL_law_1248 ⟨by show _ ≤ 601024; omega, by show _ ≤ 7293034; omega⟩) X (fun r9 t10 H lc q11 X => ?_)
  have k24 := q11
  unfold po_X11_restore at k24
  obtain ⟨p14, p15, p16, p17, p18, p19, p20, p21, p22, p23⟩ := k24
  obtain ⟨k25, k26, k27⟩ := k_X11_restore q11
  obtain ⟨hJ, e13, n12⟩ := j_X11_restore hJ q11
  have h28 := congrArg Int32.toInt e13
  have h29 := congrArg Int32.toInt n12
  refine r_pop S dL_law_1251 rfl ?_
  refine r_aload_n S dL_law_1252 rfl (lv_at hl 2 rfl) ?_
  refine r_aload_n S dL_law_1253 rfl (lv_at hl 0 rfl) ?_
  refine r_iload S dL_law_1254 (lv_at hl 4 rfl) ?_
  refine r_iconst S dL_law_1256 (by decide) (fun v30 z31 => ?_)
  refine r_iadd S dL_law_1257 (fun v32 z33 => ?_)
  obtain ⟨e34, r35⟩ := i_add (lo := 1) (hi := 3073) z33 ri (R_eq z31) rfl
  refine va_sld S.1.1 S.1.2.1 hX hbl hbA X.2 (vp_in_iff.mpr ⟨by omega, by omega⟩) dL_law_1258 ?_
  refine lv_topi (fun y36 z37 => ?_)
  have h38 : y7 = y36 := (show y36 = y7 by rw [z37, z8, show v32 = v3 from Int32.toInt_inj.mp (by omega)]).symm
  subst h38
  refine r_ki (q_V (As := [.int y7]) (rest := []) (K := 38) (ci := 10) S X (c_X12_restore_x l G t10 hJ.1 y7 (R_any _)  hJ.2.2.2.2.2.2.2.2.2.1 hJ.2.2.2.2.2.2.2.2.2.2) ckL_190 (Nat.le_of_ble_eq_true rfl) rfl (fun _ => ⟨_, rfl⟩) ⟨_, _, rfl⟩ ⟨Nat.le_of_ble_eq_true rfl, Nat.le_of_ble_eq_true rfl⟩ rfl hl.1 rfl (Nat.le_of_ble_eq_true rfl) dL_law_1259 ⟨by show _ ≤ 601024; omega, by show _ ≤ 7293034; omega⟩) X (fun r39 t40 H lc q41 X => ?_)
  have k52 := q41
  unfold po_X12_restore_x at k52
  obtain ⟨p44, p45, p46, p47, p48, p49, p50, p51⟩ := k52
  obtain ⟨k53, k54, k55⟩ := k_X12_restore_x q41
  obtain ⟨hJ, e43, n42⟩ := j_X12_restore_x hJ q41
  have h56 := congrArg Int32.toInt e43
  have h57 := congrArg Int32.toInt n42
  refine r_pop S dL_law_1262 rfl ?_
  refine r_goto (tgt := 1291) S dL_law_1263 (by decide) ?_
  refine w_widen (k := cells + 1) (n := slots + 6) (by omega) (by omega) ?_
  exact kk H lc ls t40 hJ ⟨⟨by omega, by omega⟩, ZZ_restore hZZ (zk_X11_restore q11) (zk_X12_restore_x q41) p23 p51 p48 p49 p50 (by omega) (by omega) (by omega)⟩ X (lv_sub hl [0, 1, 2, 3, 4] rfl)
set_option maxHeartbeats 8000000 in
set_option maxRecDepth 100000 in
theorem lc_count {p : Program} {l : Launch} {e : Env} {s : State} {m : MethodId} {below : List Frame} {meth : Method} {c : Code} {b L : Nat} {xs : Nat → Int32} {G : Gx} {Q : State → Prop} (hst : l.stackTraces = false) (S : Sx G p m c code 7 s #[Value.ref b] RL) (hZ : Zs G s) (hX : va_X b L xs s s.heap) (hbl : b < s.heap.size) (hbA : ¬ G.2.2.2.2 b) (hL : L ≤ 3072) {H : Heap} {lc : List Loc} {ls : Array Slot} {τ : Tau} {cells slots : Nat} {i : Int32} (hi : 0 ≤ i.toInt ∧ i.toInt + 6 ≤ L) (hR : cells + 1 ≤ 601024 ∧ slots + 6 ≤ 7293034) (hJ : JJ τ) (hlen : ((τ 1 1).toInt = (τ 131 2).toInt ∧ (τ 0 11).toInt = (τ 152 0).toInt + 2 * (τ 152 1).toInt) ∧ ZZ τ) (X : Xd G s H lc τ) (hl : lv_has ls 7 [(0, .ref b), (1, .ref (G.2.2.2.1 0)), (2, .ref (G.2.2.2.1 131)), (3, .ref (G.2.2.2.1 153)), (4, .int i)]) (kk : ∀ (H : Heap) (lc : List Loc) (ls : Array Slot) (τ : Tau), JJ τ → (((τ 1 1).toInt = (τ 131 2).toInt ∧ (τ 0 11).toInt = (τ 152 0).toInt + 2 * (τ 152 1).toInt) ∧ ZZ τ) → Xd G s H lc τ → lv_has ls 7 [(0, .ref b), (1, .ref (G.2.2.2.1 0)), (2, .ref (G.2.2.2.1 131)), (3, .ref (G.2.2.2.1 153)), (4, .int i)] → W p l e room_1 s m #[Value.ref b] below meth c H lc (cells + 1) (slots + 6) Q (F0 m 1291 ls [])) : W p l e room_1 s m #[Value.ref b] below meth c H lc cells slots Q (F0 m 1266 ls []) := by
  obtain ⟨hA1, hA2⟩ := hlen.1
  have hZZ := hlen.2
  have rl : R 0 940 (τ 1 1) := rd (K := 1) hJ.1 rfl rfl
  have ri : R 0 3072 i := ⟨by omega, by omega⟩
  refine r_aload_n S dL_law_1266 rfl (lv_at hl 1 rfl) ?_
  refine r_aload_n S dL_law_1267 rfl (lv_at hl 0 rfl) ?_
  refine r_iload S dL_law_1268 (lv_at hl 4 rfl) ?_
  refine r_iconst S dL_law_1270 (by decide) (fun v1 z2 => ?_)
  refine r_iadd S dL_law_1271 (fun v3 z4 => ?_)
  obtain ⟨e5, r6⟩ := i_add (lo := 1) (hi := 3073) z4 ri (R_eq z2) rfl
  refine va_sld S.1.1 S.1.2.1 hX hbl hbA X.2 (vp_in_iff.mpr ⟨by omega, by omega⟩) dL_law_1272 ?_
  refine lv_topi (fun y7 z8 => ?_)
  refine r_ki (q_V (As := [.int y7]) (rest := []) (K := 0) (ci := 9) S X (c_X11_count_q l G τ hJ.1 y7 (R_any _)  ) ckL_191 (Nat.le_of_ble_eq_true rfl) rfl (fun _ => ⟨_, rfl⟩) ⟨_, _, rfl⟩ ⟨Nat.le_of_ble_eq_true rfl, Nat.le_of_ble_eq_true rfl⟩ rfl hl.1 rfl (Nat.le_of_ble_eq_true rfl) dL_law_1273 ⟨by show _ ≤ 601024; omega, by show _ ≤ 7293034; omega⟩) X (fun r9 t10 H lc q11 X => ?_)
  have k22 := q11
  unfold po_X11_count_q at k22
  obtain ⟨p14, p15, p16, p17, p18, p19, p20, p21⟩ := k22
  obtain ⟨k23, k24, k25⟩ := k_X11_count_q q11
  obtain ⟨hJ, e13, n12⟩ := j_X11_count_q hJ q11
  have h26 := congrArg Int32.toInt e13
  have h27 := congrArg Int32.toInt n12
  refine r_aload_n S dL_law_1276 rfl (lv_at hl 2 rfl) ?_
  refine r_aload_n S dL_law_1277 rfl (lv_at hl 0 rfl) ?_
  refine r_iload S dL_law_1278 (lv_at hl 4 rfl) ?_
  refine r_iconst S dL_law_1280 (by decide) (fun v28 z29 => ?_)
  refine r_iadd S dL_law_1281 (fun v30 z31 => ?_)
  obtain ⟨e32, r33⟩ := i_add (lo := 1) (hi := 3073) z31 ri (R_eq z29) rfl
  refine va_sld S.1.1 S.1.2.1 hX hbl hbA X.2 (vp_in_iff.mpr ⟨by omega, by omega⟩) dL_law_1282 ?_
  refine lv_topi (fun y34 z35 => ?_)
  have h36 : y7 = y34 := (show y34 = y7 by rw [z35, z8, show v30 = v3 from Int32.toInt_inj.mp (by omega)]).symm
  subst h36
  refine r_ki (q_V (As := [.int y7]) (rest := [.int r9]) (K := 38) (ci := 10) S X (c_X12_count_q l G t10 hJ.1 y7 (R_any _)  ) ckL_194 (Nat.le_of_ble_eq_true rfl) rfl (fun _ => ⟨_, rfl⟩) ⟨_, _, rfl⟩ ⟨Nat.le_of_ble_eq_true rfl, Nat.le_of_ble_eq_true rfl⟩ rfl hl.1 rfl (Nat.le_of_ble_eq_true rfl) dL_law_1283 ⟨by show _ ≤ 601024; omega, by show _ ≤ 7293034; omega⟩) X (fun r37 t38 H lc q39 X => ?_)
  have k47 := q39
  unfold po_X12_count_q at k47
  obtain ⟨p42, p43, p44, p45, p46⟩ := k47
  obtain ⟨k48, k49, k50⟩ := k_X12_count_q q39
  obtain ⟨hJ, e41, n40⟩ := j_X12_count_q hJ q39
  have h51 := congrArg Int32.toInt e41
  have h52 := congrArg Int32.toInt n40
  have h53 := ct_eq (a := y7) (a' := y7) hZZ.2.2.1 hA1 rfl p14 p15 p16 p17 p18 p19 p20 p21 p44 p45 p46
  refine r_icmp_eq (tgt := 1291) S dL_law_1286 (by decide) (fun hq => ?_) (fun hq => by exfalso; omega)
  refine w_widen (k := cells + 1) (n := slots + 6) (by omega) (by omega) ?_
  exact kk H lc ls t38 hJ ⟨⟨by omega, by omega⟩, ZZ_kp hZZ (zk_X11_count_q q11) (zk_X12_count_q q39) (by omega)⟩ X (lv_sub hl [0, 1, 2, 3, 4] rfl)
