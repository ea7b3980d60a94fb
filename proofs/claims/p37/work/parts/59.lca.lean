set_option maxHeartbeats 8000000 in
set_option maxRecDepth 100000 in
theorem lc_feed {p : Program} {l : Launch} {e : Env} {s : State} {m : MethodId} {below : List Frame} {meth : Method} {c : Code} {b L : Nat} {xs : Nat → Int32} {G : Gx} {Q : State → Prop} (hst : l.stackTraces = false) (S : Sx G p m c code 7 s #[Value.ref b] RL) (hZ : Zs G s) (hX : va_X b L xs s s.heap) (hbl : b < s.heap.size) (hbA : ¬ G.2.2.2.2 b) (hL : L ≤ 3072) {H : Heap} {lc : List Loc} {ls : Array Slot} {τ : Tau} {cells slots : Nat} {i : Int32} (hi : 0 ≤ i.toInt ∧ i.toInt + 6 ≤ L) (hR : cells + 1 ≤ 601024 ∧ slots + 6 ≤ 7293034) (hJ : JJ τ) (hlen : ((τ 1 1).toInt = (τ 131 2).toInt ∧ (τ 0 11).toInt = (τ 152 0).toInt + 2 * (τ 152 1).toInt) ∧ ZZ τ) (X : Xd G s H lc τ) (hl : lv_has ls 7 [(0, .ref b), (1, .ref (G.2.2.2.1 0)), (2, .ref (G.2.2.2.1 131)), (3, .ref (G.2.2.2.1 153)), (4, .int i)]) (kk : ∀ (H : Heap) (lc : List Loc) (ls : Array Slot) (τ : Tau), JJ τ → (((τ 1 1).toInt = (τ 131 2).toInt ∧ (τ 0 11).toInt = (τ 152 0).toInt + 2 * (τ 152 1).toInt) ∧ ZZ τ) → Xd G s H lc τ → lv_has ls 7 [(0, .ref b), (1, .ref (G.2.2.2.1 0)), (2, .ref (G.2.2.2.1 131)), (3, .ref (G.2.2.2.1 153)), (4, .int i)] → W p l e room_1 s m #[Value.ref b] below meth c H lc (cells + 1) (slots + 6) Q (F0 m 1291 ls [])) : W p l e room_1 s m #[Value.ref b] below meth c H lc cells slots Q (F0 m 216 ls []) := by
  obtain ⟨hA1, hA2⟩ := hlen.1
  have hZZ := hlen.2
  have rl : R 0 940 (τ 1 1) := rd (K := 1) hJ.1 rfl rfl
  have ri : R 0 3072 i := ⟨by omega, by omega⟩
  refine r_aload_n S dL_law_216 rfl (lv_at hl 1 rfl) ?_
  refine r_aload_n S dL_law_217 rfl (lv_at hl 0 rfl) ?_
  refine r_iload S dL_law_218 (lv_at hl 4 rfl) ?_
  refine r_iconst S dL_law_220 (by decide) (fun v1 z2 => ?_)
  refine r_iadd S dL_law_221 (fun v3 z4 => ?_)
  obtain ⟨e5, r6⟩ := i_add (lo := 1) (hi := 3073) z4 ri (R_eq z2) rfl
  refine va_sld S.1.1 S.1.2.1 hX hbl hbA X.2 (vp_in_iff.mpr ⟨by omega, by omega⟩) dL_law_222 ?_
  refine lv_topi (fun y7 z8 => ?_)
  refine r_aload_n S dL_law_223 rfl (lv_at hl 0 rfl) ?_
  refine r_iload S dL_law_224 (lv_at hl 4 rfl) ?_
  refine r_iconst S dL_law_226 (by decide) (fun v9 z10 => ?_)
  refine r_iadd S dL_law_227 (fun v11 z12 => ?_)
  obtain ⟨e13, r14⟩ := i_add (lo := 2) (hi := 3074) z12 ri (R_eq z10) rfl
  refine va_sld S.1.1 S.1.2.1 hX hbl hbA X.2 (vp_in_iff.mpr ⟨by omega, by omega⟩) dL_law_228 ?_
  refine lv_topi (fun y15 z16 => ?_)
  refine r_aload_n S dL_law_229 rfl (lv_at hl 0 rfl) ?_
  refine r_iload S dL_law_230 (lv_at hl 4 rfl) ?_
  refine r_iconst S dL_law_232 (by decide) (fun v17 z18 => ?_)
  refine r_iadd S dL_law_233 (fun v19 z20 => ?_)
  obtain ⟨e21, r22⟩ := i_add (lo := 3) (hi := 3075) z20 ri (R_eq z18) rfl
  refine va_sld S.1.1 S.1.2.1 hX hbl hbA X.2 (vp_in_iff.mpr ⟨by omega, by omega⟩) dL_law_234 ?_
  refine lv_topi (fun y23 z24 => ?_)
  refine r_aload_n S dL_law_235 rfl (lv_at hl 0 rfl) ?_
  refine r_iload S dL_law_236 (lv_at hl 4 rfl) ?_
  refine r_iconst S dL_law_238 (by decide) (fun v25 z26 => ?_)
  refine r_iadd S dL_law_239 (fun v27 z28 => ?_)
  obtain ⟨e29, r30⟩ := i_add (lo := 4) (hi := 3076) z28 ri (R_eq z26) rfl
  refine va_sld S.1.1 S.1.2.1 hX hbl hbA X.2 (vp_in_iff.mpr ⟨by omega, by omega⟩) dL_law_240 ?_
  refine lv_topi (fun y31 z32 => ?_)
  refine r_aload_n S dL_law_241 rfl (lv_at hl 0 rfl) ?_
  refine r_iload S dL_law_242 (lv_at hl 4 rfl) ?_
  refine r_iconst S dL_law_244 (by decide) (fun v33 z34 => ?_)
  refine r_iadd S dL_law_245 (fun v35 z36 => ?_)
  obtain ⟨e37, r38⟩ := i_add (lo := 5) (hi := 3077) z36 ri (R_eq z34) rfl
  refine va_sld S.1.1 S.1.2.1 hX hbl hbA X.2 (vp_in_iff.mpr ⟨by omega, by omega⟩) dL_law_246 ?_
  refine lv_topi (fun y39 z40 => ?_)
  refine r_ki (q_V (As := [.int y7, .int y15, .int y23, .int y31, .int y39]) (rest := []) (K := 0) (ci := 9) S X (c_X11_feed_q l G τ hJ.1 y7 y15 y23 y31 y39 (R_any _) (R_any _) (R_any _) (R_any _) (R_any _)  ) ckL_32 (Nat.le_of_ble_eq_true rfl) rfl (fun _ => ⟨_, rfl⟩) ⟨_, _, rfl⟩ ⟨Nat.le_of_ble_eq_true rfl, Nat.le_of_ble_eq_true rfl⟩ rfl hl.1 rfl (Nat.le_of_ble_eq_true rfl) dL_law_247 ⟨by show _ ≤ 601024; omega, by show _ ≤ 7293034; omega⟩) X (fun r41 t42 H lc q43 X => ?_)
  have hJX := hJ
  obtain ⟨hJ, e46, -⟩ := j_X11_feed_q hJ q43
  have h47 := congrArg Int32.toInt e46
  refine r_pop S dL_law_250 rfl ?_
  refine r_aload_n S dL_law_251 rfl (lv_at hl 2 rfl) ?_
  refine r_aload_n S dL_law_252 rfl (lv_at hl 0 rfl) ?_
  refine r_iload S dL_law_253 (lv_at hl 4 rfl) ?_
  refine r_iconst S dL_law_255 (by decide) (fun v48 z49 => ?_)
  refine r_iadd S dL_law_256 (fun v50 z51 => ?_)
  obtain ⟨e52, r53⟩ := i_add (lo := 1) (hi := 3073) z51 ri (R_eq z49) rfl
  refine va_sld S.1.1 S.1.2.1 hX hbl hbA X.2 (vp_in_iff.mpr ⟨by omega, by omega⟩) dL_law_257 ?_
  refine lv_topi (fun y54 z55 => ?_)
  have h56 : y7 = y54 := (show y54 = y7 by rw [z55, z8, show v50 = v3 from Int32.toInt_inj.mp (by omega)]).symm
  subst h56
  refine r_aload_n S dL_law_258 rfl (lv_at hl 0 rfl) ?_
  refine r_iload S dL_law_259 (lv_at hl 4 rfl) ?_
  refine r_iconst S dL_law_261 (by decide) (fun v57 z58 => ?_)
  refine r_iadd S dL_law_262 (fun v59 z60 => ?_)
  obtain ⟨e61, r62⟩ := i_add (lo := 2) (hi := 3074) z60 ri (R_eq z58) rfl
  refine va_sld S.1.1 S.1.2.1 hX hbl hbA X.2 (vp_in_iff.mpr ⟨by omega, by omega⟩) dL_law_263 ?_
  refine lv_topi (fun y63 z64 => ?_)
  have h65 : y15 = y63 := (show y63 = y15 by rw [z64, z16, show v59 = v11 from Int32.toInt_inj.mp (by omega)]).symm
  subst h65
  refine r_aload_n S dL_law_264 rfl (lv_at hl 0 rfl) ?_
  refine r_iload S dL_law_265 (lv_at hl 4 rfl) ?_
  refine r_iconst S dL_law_267 (by decide) (fun v66 z67 => ?_)
  refine r_iadd S dL_law_268 (fun v68 z69 => ?_)
  obtain ⟨e70, r71⟩ := i_add (lo := 3) (hi := 3075) z69 ri (R_eq z67) rfl
  refine va_sld S.1.1 S.1.2.1 hX hbl hbA X.2 (vp_in_iff.mpr ⟨by omega, by omega⟩) dL_law_269 ?_
  refine lv_topi (fun y72 z73 => ?_)
  have h74 : y23 = y72 := (show y72 = y23 by rw [z73, z24, show v68 = v19 from Int32.toInt_inj.mp (by omega)]).symm
  subst h74
  refine r_aload_n S dL_law_270 rfl (lv_at hl 0 rfl) ?_
  refine r_iload S dL_law_271 (lv_at hl 4 rfl) ?_
  refine r_iconst S dL_law_273 (by decide) (fun v75 z76 => ?_)
  refine r_iadd S dL_law_274 (fun v77 z78 => ?_)
  obtain ⟨e79, r80⟩ := i_add (lo := 4) (hi := 3076) z78 ri (R_eq z76) rfl
  refine va_sld S.1.1 S.1.2.1 hX hbl hbA X.2 (vp_in_iff.mpr ⟨by omega, by omega⟩) dL_law_275 ?_
  refine lv_topi (fun y81 z82 => ?_)
  have h83 : y31 = y81 := (show y81 = y31 by rw [z82, z32, show v77 = v27 from Int32.toInt_inj.mp (by omega)]).symm
  subst h83
  refine r_aload_n S dL_law_276 rfl (lv_at hl 0 rfl) ?_
  refine r_iload S dL_law_277 (lv_at hl 4 rfl) ?_
  refine r_iconst S dL_law_279 (by decide) (fun v84 z85 => ?_)
  refine r_iadd S dL_law_280 (fun v86 z87 => ?_)
  obtain ⟨e88, r89⟩ := i_add (lo := 5) (hi := 3077) z87 ri (R_eq z85) rfl
  refine va_sld S.1.1 S.1.2.1 hX hbl hbA X.2 (vp_in_iff.mpr ⟨by omega, by omega⟩) dL_law_281 ?_
  refine lv_topi (fun y90 z91 => ?_)
  have h92 : y39 = y90 := (show y90 = y39 by rw [z91, z40, show v86 = v35 from Int32.toInt_inj.mp (by omega)]).symm
  subst h92
  refine r_ki (q_V (As := [.int y7, .int y15, .int y23, .int y31, .int y39]) (rest := []) (K := 38) (ci := 10) S X (c_X12_feed_q l G t42 hJ.1 y7 y15 y23 y31 y39 (R_any _) (R_any _) (R_any _) (R_any _) (R_any _)  ) ckL_36 (Nat.le_of_ble_eq_true rfl) rfl (fun _ => ⟨_, rfl⟩) ⟨_, _, rfl⟩ ⟨Nat.le_of_ble_eq_true rfl, Nat.le_of_ble_eq_true rfl⟩ rfl hl.1 rfl (Nat.le_of_ble_eq_true rfl) dL_law_282 ⟨by show _ ≤ 601024; omega, by show _ ≤ 7293034; omega⟩) X (fun r93 t94 H lc q95 X => ?_)
  have hJM := hJ
  obtain ⟨hJ, e98, -⟩ := j_X12_feed_q hJ q95
  have h99 := congrArg Int32.toInt e98
  have hEE := ee_feed hJX hlen q43 q95
  refine r_pop S dL_law_285 rfl ?_
  refine r_goto (tgt := 1291) S dL_law_286 (by decide) ?_
  refine w_widen (k := cells + 1) (n := slots + 6) (by omega) (by omega) ?_
  exact kk H lc ls t94 hJ hEE X (lv_sub hl [0, 1, 2, 3, 4] rfl)
set_option maxHeartbeats 8000000 in
set_option maxRecDepth 100000 in
theorem lc_end {p : Program} {l : Launch} {e : Env} {s : State} {m : MethodId} {below : List Frame} {meth : Method} {c : Code} {b L : Nat} {xs : Nat → Int32} {G : Gx} {Q : State → Prop} (hst : l.stackTraces = false) (S : Sx G p m c code 7 s #[Value.ref b] RL) (hZ : Zs G s) (hX : va_X b L xs s s.heap) (hbl : b < s.heap.size) (hbA : ¬ G.2.2.2.2 b) (hL : L ≤ 3072) {H : Heap} {lc : List Loc} {ls : Array Slot} {τ : Tau} {cells slots : Nat} {i : Int32} (hi : 0 ≤ i.toInt ∧ i.toInt + 6 ≤ L) (hR : cells + 1 ≤ 601024 ∧ slots + 6 ≤ 7293034) (hJ : JJ τ) (hlen : ((τ 1 1).toInt = (τ 131 2).toInt ∧ (τ 0 11).toInt = (τ 152 0).toInt + 2 * (τ 152 1).toInt) ∧ ZZ τ) (X : Xd G s H lc τ) (hl : lv_has ls 7 [(0, .ref b), (1, .ref (G.2.2.2.1 0)), (2, .ref (G.2.2.2.1 131)), (3, .ref (G.2.2.2.1 153)), (4, .int i)]) (kk : ∀ (H : Heap) (lc : List Loc) (ls : Array Slot) (τ : Tau), JJ τ → (((τ 1 1).toInt = (τ 131 2).toInt ∧ (τ 0 11).toInt = (τ 152 0).toInt + 2 * (τ 152 1).toInt) ∧ ZZ τ) → Xd G s H lc τ → lv_has ls 7 [(0, .ref b), (1, .ref (G.2.2.2.1 0)), (2, .ref (G.2.2.2.1 131)), (3, .ref (G.2.2.2.1 153)), (4, .int i)] → W p l e room_1 s m #[Value.ref b] below meth c H lc (cells + 1) (slots + 6) Q (F0 m 1291 ls [])) : W p l e room_1 s m #[Value.ref b] below meth c H lc cells slots Q (F0 m 289 ls []) := by
  obtain ⟨hA1, hA2⟩ := hlen.1
  have hZZ := hlen.2
  have rl : R 0 940 (τ 1 1) := rd (K := 1) hJ.1 rfl rfl
  have ri : R 0 3072 i := ⟨by omega, by omega⟩
  refine r_aload_n S dL_law_289 rfl (lv_at hl 1 rfl) ?_
  refine r_aload_n S dL_law_290 rfl (lv_at hl 0 rfl) ?_
  refine r_iload S dL_law_291 (lv_at hl 4 rfl) ?_
  refine r_iconst S dL_law_293 (by decide) (fun v1 z2 => ?_)
  refine r_iadd S dL_law_294 (fun v3 z4 => ?_)
  obtain ⟨e5, r6⟩ := i_add (lo := 1) (hi := 3073) z4 ri (R_eq z2) rfl
  refine va_sld S.1.1 S.1.2.1 hX hbl hbA X.2 (vp_in_iff.mpr ⟨by omega, by omega⟩) dL_law_295 ?_
  refine lv_topi (fun y7 z8 => ?_)
  refine r_ki (q_V (As := [.int y7]) (rest := []) (K := 0) (ci := 9) S X (c_X11_end l G τ hJ.1 y7 (R_any _)  ) ckL_37 (Nat.le_of_ble_eq_true rfl) rfl (fun _ => ⟨_, rfl⟩) ⟨_, _, rfl⟩ ⟨Nat.le_of_ble_eq_true rfl, Nat.le_of_ble_eq_true rfl⟩ rfl hl.1 rfl (Nat.le_of_ble_eq_true rfl) dL_law_296 ⟨by show _ ≤ 601024; omega, by show _ ≤ 7293034; omega⟩) X (fun r9 t10 H lc q11 X => ?_)
  have hb0 : R 0 1 r9 := by unfold po_X11_end at q11; exact q11.2.2.1
  obtain ⟨k15, k16, k17⟩ := k_X11_end q11
  obtain ⟨hJ, e14, n12, n13⟩ := j_X11_end hJ q11
  have h18 := congrArg Int32.toInt e14
  refine r_pop S dL_law_299 rfl ?_
  refine r_aload_n S dL_law_300 rfl (lv_at hl 2 rfl) ?_
  refine r_aload_n S dL_law_301 rfl (lv_at hl 0 rfl) ?_
  refine r_iload S dL_law_302 (lv_at hl 4 rfl) ?_
  refine r_iconst S dL_law_304 (by decide) (fun v19 z20 => ?_)
  refine r_iadd S dL_law_305 (fun v21 z22 => ?_)
  obtain ⟨e23, r24⟩ := i_add (lo := 1) (hi := 3073) z22 ri (R_eq z20) rfl
  refine va_sld S.1.1 S.1.2.1 hX hbl hbA X.2 (vp_in_iff.mpr ⟨by omega, by omega⟩) dL_law_306 ?_
  refine lv_topi (fun y25 z26 => ?_)
  have h27 : y7 = y25 := (show y25 = y7 by rw [z26, z8, show v21 = v3 from Int32.toInt_inj.mp (by omega)]).symm
  subst h27
  refine r_ki (q_V (As := [.int y7]) (rest := []) (K := 38) (ci := 10) S X (c_X12_end l G t10 hJ.1 y7 (R_any _)  ) ckL_41 (Nat.le_of_ble_eq_true rfl) rfl (fun _ => ⟨_, rfl⟩) ⟨_, _, rfl⟩ ⟨Nat.le_of_ble_eq_true rfl, Nat.le_of_ble_eq_true rfl⟩ rfl hl.1 rfl (Nat.le_of_ble_eq_true rfl) dL_law_307 ⟨by show _ ≤ 601024; omega, by show _ ≤ 7293034; omega⟩) X (fun r28 t29 H lc q30 X => ?_)
  have hb1 : R 0 1 r28 := by unfold po_X12_end at q30; exact q30.2.2.1
  obtain ⟨k34, k35, k36⟩ := k_X12_end q30
  obtain ⟨hJ, e33, n31, n32⟩ := j_X12_end hJ q30
  have h37 := congrArg Int32.toInt e33
  refine r_pop S dL_law_310 rfl ?_
  refine r_goto (tgt := 1291) S dL_law_311 (by decide) ?_
  refine w_widen (k := cells + 1) (n := slots + 6) (by omega) (by omega) ?_
  exact kk H lc ls t29 hJ ⟨⟨by omega, by omega⟩, ZZ_kp hZZ (zk_X11_end q11) (zk_X12_end q30) (by decide) (by omega)⟩ X (lv_sub hl [0, 1, 2, 3, 4] rfl)
set_option maxHeartbeats 8000000 in
set_option maxRecDepth 100000 in
theorem lc_ferry {p : Program} {l : Launch} {e : Env} {s : State} {m : MethodId} {below : List Frame} {meth : Method} {c : Code} {b L : Nat} {xs : Nat → Int32} {G : Gx} {Q : State → Prop} (hst : l.stackTraces = false) (S : Sx G p m c code 7 s #[Value.ref b] RL) (hZ : Zs G s) (hX : va_X b L xs s s.heap) (hbl : b < s.heap.size) (hbA : ¬ G.2.2.2.2 b) (hL : L ≤ 3072) {H : Heap} {lc : List Loc} {ls : Array Slot} {τ : Tau} {cells slots : Nat} {i : Int32} (hi : 0 ≤ i.toInt ∧ i.toInt + 6 ≤ L) (hR : cells + 1 ≤ 601024 ∧ slots + 6 ≤ 7293034) (hJ : JJ τ) (hlen : ((τ 1 1).toInt = (τ 131 2).toInt ∧ (τ 0 11).toInt = (τ 152 0).toInt + 2 * (τ 152 1).toInt) ∧ ZZ τ) (X : Xd G s H lc τ) (hl : lv_has ls 7 [(0, .ref b), (1, .ref (G.2.2.2.1 0)), (2, .ref (G.2.2.2.1 131)), (3, .ref (G.2.2.2.1 153)), (4, .int i)]) (kk : ∀ (H : Heap) (lc : List Loc) (ls : Array Slot) (τ : Tau), JJ τ → (((τ 1 1).toInt = (τ 131 2).toInt ∧ (τ 0 11).toInt = (τ 152 0).toInt + 2 * (τ 152 1).toInt) ∧ ZZ τ) → Xd G s H lc τ → lv_has ls 7 [(0, .ref b), (1, .ref (G.2.2.2.1 0)), (2, .ref (G.2.2.2.1 131)), (3, .ref (G.2.2.2.1 153)), (4, .int i)] → W p l e room_1 s m #[Value.ref b] below meth c H lc (cells + 1) (slots + 6) Q (F0 m 1291 ls [])) : W p l e room_1 s m #[Value.ref b] below meth c H lc cells slots Q (F0 m 314 ls []) := by
  obtain ⟨hA1, hA2⟩ := hlen.1
  have hZZ := hlen.2
  have rl : R 0 940 (τ 1 1) := rd (K := 1) hJ.1 rfl rfl
  have ri : R 0 3072 i := ⟨by omega, by omega⟩
  refine r_aload_n S dL_law_314 rfl (lv_at hl 1 rfl) ?_
  refine r_ki (q_V (As := []) (rest := []) (K := 0) (ci := 9) S X (c_X11_ferry_q l G τ hJ.1   hJ.2.1 hJ.2.2.1  (bbT τ) (τ 1 1).toInt.toNat (bbT_c rl.1 rl.2)) ckL_42 (Nat.le_of_ble_eq_true rfl) rfl (fun _ => ⟨_, rfl⟩) ⟨_, _, rfl⟩ ⟨Nat.le_of_ble_eq_true rfl, Nat.le_of_ble_eq_true rfl⟩ rfl hl.1 rfl (Nat.le_of_ble_eq_true rfl) dL_law_315 ⟨by show _ ≤ 601024; omega, by show _ ≤ 7293034; omega⟩) X (fun r1 t2 H lc q3 X => ?_)
  have hJX := hJ
  obtain ⟨hJ, e5, -⟩ := j_X11_ferry_q hJ q3
  have h6 := congrArg Int32.toInt e5
  refine r_pop S dL_law_318 rfl ?_
  refine r_aload_n S dL_law_319 rfl (lv_at hl 2 rfl) ?_
  refine r_ki (q_V (As := []) (rest := []) (K := 38) (ci := 10) S X (c_X12_ferry_q l G t2 hJ.1    hJ.2.2.2.2.2.2.2.2.2.1 (bbT τ) (τ 1 1).toInt.toNat (bbT_m rl.1 rl.2 hA1 (by omega) ((zk_X11_ferry_q q3).2.1 rfl) hZZ.1) (RS_fr hZZ.2.1 ((zk_X11_ferry_q q3).2.2.1 rfl)) (bbT_n ((zk_X11_ferry_q q3).2.2.2.2.1 rfl).2.2)) ckL_46 (Nat.le_of_ble_eq_true rfl) rfl (fun _ => ⟨_, rfl⟩) ⟨_, _, rfl⟩ ⟨Nat.le_of_ble_eq_true rfl, Nat.le_of_ble_eq_true rfl⟩ rfl hl.1 rfl (Nat.le_of_ble_eq_true rfl) dL_law_320 ⟨by show _ ≤ 601024; omega, by show _ ≤ 7293034; omega⟩) X (fun r7 t8 H lc q9 X => ?_)
  have hJM := hJ
  obtain ⟨hJ, e11, -⟩ := j_X12_ferry_q hJ q9
  have h12 := congrArg Int32.toInt e11
  have hEE := ee_ferry hJX hlen q3 q9
  obtain ⟨hEE, hrr⟩ := hEE
  refine r_pop S dL_law_323 rfl ?_
  refine r_goto (tgt := 1291) S dL_law_324 (by decide) ?_
  refine w_widen (k := cells + 1) (n := slots + 6) (by omega) (by omega) ?_
  exact kk H lc ls t8 hJ hEE X (lv_sub hl [0, 1, 2, 3, 4] rfl)
set_option maxHeartbeats 8000000 in
set_option maxRecDepth 100000 in
theorem lc_fault {p : Program} {l : Launch} {e : Env} {s : State} {m : MethodId} {below : List Frame} {meth : Method} {c : Code} {b L : Nat} {xs : Nat → Int32} {G : Gx} {Q : State → Prop} (hst : l.stackTraces = false) (S : Sx G p m c code 7 s #[Value.ref b] RL) (hZ : Zs G s) (hX : va_X b L xs s s.heap) (hbl : b < s.heap.size) (hbA : ¬ G.2.2.2.2 b) (hL : L ≤ 3072) {H : Heap} {lc : List Loc} {ls : Array Slot} {τ : Tau} {cells slots : Nat} {i : Int32} (hi : 0 ≤ i.toInt ∧ i.toInt + 6 ≤ L) (hR : cells + 1 ≤ 601024 ∧ slots + 6 ≤ 7293034) (hJ : JJ τ) (hlen : ((τ 1 1).toInt = (τ 131 2).toInt ∧ (τ 0 11).toInt = (τ 152 0).toInt + 2 * (τ 152 1).toInt) ∧ ZZ τ) (X : Xd G s H lc τ) (hl : lv_has ls 7 [(0, .ref b), (1, .ref (G.2.2.2.1 0)), (2, .ref (G.2.2.2.1 131)), (3, .ref (G.2.2.2.1 153)), (4, .int i)]) (kk : ∀ (H : Heap) (lc : List Loc) (ls : Array Slot) (τ : Tau), JJ τ → (((τ 1 1).toInt = (τ 131 2).toInt ∧ (τ 0 11).toInt = (τ 152 0).toInt + 2 * (τ 152 1).toInt) ∧ ZZ τ) → Xd G s H lc τ → lv_has ls 7 [(0, .ref b), (1, .ref (G.2.2.2.1 0)), (2, .ref (G.2.2.2.1 131)), (3, .ref (G.2.2.2.1 153)), (4, .int i)] → W p l e room_1 s m #[Value.ref b] below meth c H lc (cells + 1) (slots + 6) Q (F0 m 1291 ls [])) : W p l e room_1 s m #[Value.ref b] below meth c H lc cells slots Q (F0 m 327 ls []) := by
  obtain ⟨hA1, hA2⟩ := hlen.1
  have hZZ := hlen.2
  have rl : R 0 940 (τ 1 1) := rd (K := 1) hJ.1 rfl rfl
  have ri : R 0 3072 i := ⟨by omega, by omega⟩
  refine r_aload_n S dL_law_327 rfl (lv_at hl 1 rfl) ?_
  refine r_ki (q_V (As := []) (rest := []) (K := 0) (ci := 9) S X (c_X11_fault l G τ hJ.1    ) ckL_47 (Nat.le_of_ble_eq_true rfl) rfl (fun _ => ⟨_, rfl⟩) ⟨_, _, rfl⟩ ⟨Nat.le_of_ble_eq_true rfl, Nat.le_of_ble_eq_true rfl⟩ rfl hl.1 rfl (Nat.le_of_ble_eq_true rfl) dL_law_328 ⟨by show _ ≤ 601024; omega, by show _ ≤ 7293034; omega⟩) X (fun r1 t2 H lc q3 X => ?_)
  obtain ⟨k6, k7, k8⟩ := k_X11_fault q3
  obtain ⟨hJ, e5, n4⟩ := j_X11_fault hJ q3
  have h9 := congrArg Int32.toInt e5
  have h10 := congrArg Int32.toInt n4
  refine r_pop S dL_law_331 rfl ?_
  refine r_aload_n S dL_law_332 rfl (lv_at hl 2 rfl) ?_
  refine r_ki (q_V (As := []) (rest := []) (K := 38) (ci := 10) S X (c_X12_fault l G t2 hJ.1    ) ckL_50 (Nat.le_of_ble_eq_true rfl) rfl (fun _ => ⟨_, rfl⟩) ⟨_, _, rfl⟩ ⟨Nat.le_of_ble_eq_true rfl, Nat.le_of_ble_eq_true rfl⟩ rfl hl.1 rfl (Nat.le_of_ble_eq_true rfl) dL_law_333 ⟨by show _ ≤ 601024; omega, by show _ ≤ 7293034; omega⟩) X (fun r11 t12 H lc q13 X => ?_)
  obtain ⟨k16, k17, k18⟩ := k_X12_fault q13
  obtain ⟨hJ, e15, n14⟩ := j_X12_fault hJ q13
  have h19 := congrArg Int32.toInt e15
  have h20 := congrArg Int32.toInt n14
  refine r_pop S dL_law_336 rfl ?_
  refine r_goto (tgt := 1291) S dL_law_337 (by decide) ?_
  refine w_widen (k := cells + 1) (n := slots + 6) (by omega) (by omega) ?_
  exact kk H lc ls t12 hJ ⟨⟨by omega, by omega⟩, ZZ_kp hZZ (zk_X11_fault q3) (zk_X12_fault q13) (by decide) (by omega)⟩ X (lv_sub hl [0, 1, 2, 3, 4] rfl)
set_option maxHeartbeats 8000000 in
set_option maxRecDepth 100000 in
theorem lc_man {p : Program} {l : Launch} {e : Env} {s : State} {m : MethodId} {below : List Frame} {meth : Method} {c : Code} {b L : Nat} {xs : Nat → Int32} {G : Gx} {Q : State → Prop} (hst : l.stackTraces = false) (S : Sx G p m c code 7 s #[Value.ref b] RL) (hZ : Zs G s) (hX : va_X b L xs s s.heap) (hbl : b < s.heap.size) (hbA : ¬ G.2.2.2.2 b) (hL : L ≤ 3072) {H : Heap} {lc : List Loc} {ls : Array Slot} {τ : Tau} {cells slots : Nat} {i : Int32} (hi : 0 ≤ i.toInt ∧ i.toInt + 6 ≤ L) (hR : cells + 1 ≤ 601024 ∧ slots + 6 ≤ 7293034) (hJ : JJ τ) (hlen : ((τ 1 1).toInt = (τ 131 2).toInt ∧ (τ 0 11).toInt = (τ 152 0).toInt + 2 * (τ 152 1).toInt) ∧ ZZ τ) (X : Xd G s H lc τ) (hl : lv_has ls 7 [(0, .ref b), (1, .ref (G.2.2.2.1 0)), (2, .ref (G.2.2.2.1 131)), (3, .ref (G.2.2.2.1 153)), (4, .int i)]) (kk : ∀ (H : Heap) (lc : List Loc) (ls : Array Slot) (τ : Tau), JJ τ → (((τ 1 1).toInt = (τ 131 2).toInt ∧ (τ 0 11).toInt = (τ 152 0).toInt + 2 * (τ 152 1).toInt) ∧ ZZ τ) → Xd G s H lc τ → lv_has ls 7 [(0, .ref b), (1, .ref (G.2.2.2.1 0)), (2, .ref (G.2.2.2.1 131)), (3, .ref (G.2.2.2.1 153)), (4, .int i)] → W p l e room_1 s m #[Value.ref b] below meth c H lc (cells + 1) (slots + 6) Q (F0 m 1291 ls [])) : W p l e room_1 s m #[Value.ref b] below meth c H lc cells slots Q (F0 m 340 ls []) := by
  obtain ⟨hA1, hA2⟩ := hlen.1
  have hZZ := hlen.2
  have rl : R 0 940 (τ 1 1) := rd (K := 1) hJ.1 rfl rfl
  have ri : R 0 3072 i := ⟨by omega, by omega⟩
  refine r_aload_n S dL_law_340 rfl (lv_at hl 1 rfl) ?_
  refine r_aload_n S dL_law_341 rfl (lv_at hl 0 rfl) ?_
  refine r_iload S dL_law_342 (lv_at hl 4 rfl) ?_
  refine r_iconst S dL_law_344 (by decide) (fun v1 z2 => ?_)
  refine r_iadd S dL_law_345 (fun v3 z4 => ?_)
  obtain ⟨e5, r6⟩ := i_add (lo := 1) (hi := 3073) z4 ri (R_eq z2) rfl
  refine va_sld S.1.1 S.1.2.1 hX hbl hbA X.2 (vp_in_iff.mpr ⟨by omega, by omega⟩) dL_law_346 ?_
  refine lv_topi (fun y7 z8 => ?_)
  refine r_aload_n S dL_law_347 rfl (lv_at hl 0 rfl) ?_
  refine r_iload S dL_law_348 (lv_at hl 4 rfl) ?_
  refine r_iconst S dL_law_350 (by decide) (fun v9 z10 => ?_)
  refine r_iadd S dL_law_351 (fun v11 z12 => ?_)
  obtain ⟨e13, r14⟩ := i_add (lo := 2) (hi := 3074) z12 ri (R_eq z10) rfl
  refine va_sld S.1.1 S.1.2.1 hX hbl hbA X.2 (vp_in_iff.mpr ⟨by omega, by omega⟩) dL_law_352 ?_
  refine lv_topi (fun y15 z16 => ?_)
  refine r_aload_n S dL_law_353 rfl (lv_at hl 3 rfl) ?_
  refine r_kl (q_SW (As := [.ref (G.2.2.2.1 0), .int y7, .int y15, .ref (G.2.2.2.1 153)]) (rest := []) S hZ X (c_L_man l hst G τ hJ.1 y7 y15) ckW_51 ⟨Nat.le_of_ble_eq_true rfl, Nat.le_of_ble_eq_true rfl⟩ rfl hl.1 rfl (Nat.le_of_ble_eq_true rfl) dL_law_354 ⟨by show _ ≤ 601024; omega, by show _ ≤ 7293034; omega⟩) X (fun r17 t18 H lc q19 X => ?_)
  obtain ⟨k20, k21, k22⟩ := k_thr q19
  obtain ⟨hJ, e23, e24⟩ := j_thr hJ q19
  have h25 := congrArg Int32.toInt e23
  have h26 := congrArg Int32.toInt e24
  refine r_istore (lv' := [(5, .int r17), (0, .ref b), (1, .ref (G.2.2.2.1 0)), (2, .ref (G.2.2.2.1 131)), (3, .ref (G.2.2.2.1 153)), (4, .int i)]) S dL_law_357 hl (by decide) rfl (fun ls hl => ?_)
  refine r_aload_n S dL_law_359 rfl (lv_at hl 3 rfl) ?_
  refine r_aload_n S dL_law_360 rfl (lv_at hl 1 rfl) ?_
  refine r_iload S dL_law_361 (lv_at hl 5 rfl) ?_
  refine r_iconst S dL_law_363 (by decide) (fun v27 z28 => ?_)
  refine r_iadd S dL_law_364 (fun v29 z30 => ?_)
  obtain ⟨e31, r32⟩ := i_add (lo := 1) (hi := 3073) z30 ri (R_eq z28) rfl
  refine va_sld S.1.1 S.1.2.1 hX hbl hbA X.2 (vp_in_iff.mpr ⟨by omega, by omega⟩) dL_law_365 ?_
  refine lv_topi (fun y33 z34 => ?_)
  have h35 : y7 = y33 := (show y33 = y7 by rw [z34, z8, show v29 = v3 from Int32.toInt_inj.mp (by omega)]).symm
  subst h35
  refine r_aload_n S dL_law_366 rfl (lv_at hl 1 rfl) ?_
  refine r_iload S dL_law_367 (lv_at hl 5 rfl) ?_
  refine r_iconst S dL_law_369 (by decide) (fun v36 z37 => ?_)
  refine r_iadd S dL_law_370 (fun v38 z39 => ?_)
  obtain ⟨e40, r41⟩ := i_add (lo := 2) (hi := 3074) z39 ri (R_eq z37) rfl
  refine va_sld S.1.1 S.1.2.1 hX hbl hbA X.2 (vp_in_iff.mpr ⟨by omega, by omega⟩) dL_law_371 ?_
  refine lv_topi (fun y42 z43 => ?_)
  have h44 : y15 = y42 := (show y42 = y15 by rw [z43, z16, show v38 = v11 from Int32.toInt_inj.mp (by omega)]).symm
  subst h44
  refine r_ki (q_V (As := [.int y7, .int y15]) (rest := []) (K := 38) (ci := 10) S X (c_X12_man l G t18 hJ.1 y7 y15 (R_any _) (R_any _)  ) ckL_56 (Nat.le_of_ble_eq_true rfl) rfl (fun _ => ⟨_, rfl⟩) ⟨_, _, rfl⟩ ⟨Nat.le_of_ble_eq_true rfl, Nat.le_of_ble_eq_true rfl⟩ rfl hl.1 rfl (Nat.le_of_ble_eq_true rfl) dL_law_372 ⟨by show _ ≤ 601024; omega, by show _ ≤ 7293034; omega⟩) X (fun r45 t46 H lc q47 X => ?_)
  obtain ⟨k50, k51, k52⟩ := k_X12_man q47
  obtain ⟨hJ, e49, n48⟩ := j_X12_man hJ q47
  have h53 := congrArg Int32.toInt e49
  have h54 := congrArg Int32.toInt n48
  refine r_istore (lv' := [(6, .int r45), (5, .int r17), (0, .ref b), (1, .ref (G.2.2.2.1 0)), (2, .ref (G.2.2.2.1 131)), (3, .ref (G.2.2.2.1 153)), (4, .int i)]) S dL_law_375 hl (by decide) rfl (fun ls hl => ?_)
  refine r_goto (tgt := 1291) S dL_law_377 (by decide) ?_
  exact kk H lc ls t46 hJ ⟨⟨by omega, by omega⟩, ZZ_kp hZZ (zk_thr q19) (zk_X12_man q47) (by decide) (by omega)⟩ X (lv_sub hl [2, 3, 4, 5, 6] rfl)
set_option maxHeartbeats 8000000 in
set_option maxRecDepth 100000 in
theorem lc_thinks {p : Program} {l : Launch} {e : Env} {s : State} {m : MethodId} {below : List Frame} {meth : Method} {c : Code} {b L : Nat} {xs : Nat → Int32} {G : Gx} {Q : State → Prop} (hst : l.stackTraces = false) (S : Sx G p m c code 7 s #[Value.ref b] RL) (hZ : Zs G s) (hX : va_X b L xs s s.heap) (hbl : b < s.heap.size) (hbA : ¬ G.2.2.2.2 b) (hL : L ≤ 3072) {H : Heap} {lc : List Loc} {ls : Array Slot} {τ : Tau} {cells slots : Nat} {i : Int32} (hi : 0 ≤ i.toInt ∧ i.toInt + 6 ≤ L) (hR : cells + 1 ≤ 601024 ∧ slots + 6 ≤ 7293034) (hJ : JJ τ) (hlen : ((τ 1 1).toInt = (τ 131 2).toInt ∧ (τ 0 11).toInt = (τ 152 0).toInt + 2 * (τ 152 1).toInt) ∧ ZZ τ) (X : Xd G s H lc τ) (hl : lv_has ls 7 [(0, .ref b), (1, .ref (G.2.2.2.1 0)), (2, .ref (G.2.2.2.1 131)), (3, .ref (G.2.2.2.1 153)), (4, .int i)]) (kk : ∀ (H : Heap) (lc : List Loc) (ls : Array Slot) (τ : Tau), JJ τ → (((τ 1 1).toInt = (τ 131 2).toInt ∧ (τ 0 11).toInt = (τ 152 0).toInt + 2 * (τ 152 1).toInt) ∧ ZZ τ) → Xd G s H lc τ → lv_has ls 7 [(0, .ref b), (1, .ref (G.2.2.2.1 0)), (2, .ref (G.2.2.2.1 131)), (3, .ref (G.2.2.2.1 153)), (4, .int i)] → W p l e room_1 s m #[Value.ref b] below meth c H lc (cells + 1) (slots + 6) Q (F0 m 1291 ls [])) : W p l e room_1 s m #[Value.ref b] below meth c H lc cells slots Q (F0 m 380 ls []) := by
  obtain ⟨hA1, hA2⟩ := hlen.1
  have hZZ := hlen.2
  have rl : R 0 940 (τ 1 1) := rd (K := 1) hJ.1 rfl rfl
  have ri : R 0 3072 i := ⟨by omega, by omega⟩
  refine r_aload_n S dL_law_380 rfl (lv_at hl 1 rfl) ?_
  refine r_aload_n S dL_law_381 rfl (lv_at hl 0 rfl) ?_
  refine r_iload S dL_law_382 (lv_at hl 4 rfl) ?_
  refine r_iconst S dL_law_384 (by decide) (fun v1 z2 => ?_)
  refine r_iadd S dL_law_385 (fun v3 z4 => ?_)
  obtain ⟨e5, r6⟩ := i_add (lo := 1) (hi := 3073) z4 ri (R_eq z2) rfl
  refine va_sld S.1.1 S.1.2.1 hX hbl hbA X.2 (vp_in_iff.mpr ⟨by omega, by omega⟩) dL_law_386 ?_
  refine lv_topi (fun y7 z8 => ?_)
  refine r_aload_n S dL_law_387 rfl (lv_at hl 0 rfl) ?_
  refine r_iload S dL_law_388 (lv_at hl 4 rfl) ?_
  refine r_iconst S dL_law_390 (by decide) (fun v9 z10 => ?_)
  refine r_iadd S dL_law_391 (fun v11 z12 => ?_)
  obtain ⟨e13, r14⟩ := i_add (lo := 2) (hi := 3074) z12 ri (R_eq z10) rfl
  refine va_sld S.1.1 S.1.2.1 hX hbl hbA X.2 (vp_in_iff.mpr ⟨by omega, by omega⟩) dL_law_392 ?_
  refine lv_topi (fun y15 z16 => ?_)
  refine r_aload_n S dL_law_393 rfl (lv_at hl 3 rfl) ?_
  refine r_kl (q_SW (As := [.ref (G.2.2.2.1 0), .int y7, .int y15, .ref (G.2.2.2.1 153)]) (rest := []) S hZ X (c_L_thinks l hst G τ hJ.1 y7 y15) ckW_57 ⟨Nat.le_of_ble_eq_true rfl, Nat.le_of_ble_eq_true rfl⟩ rfl hl.1 rfl (Nat.le_of_ble_eq_true rfl) dL_law_394 ⟨by show _ ≤ 601024; omega, by show _ ≤ 7293034; omega⟩) X (fun r17 t18 H lc q19 X => ?_)
  obtain ⟨k20, k21, k22⟩ := k_thr q19
  obtain ⟨hJ, e23, e24⟩ := j_thr hJ q19
  have h25 := congrArg Int32.toInt e23
  have h26 := congrArg Int32.toInt e24
  refine r_istore (lv' := [(5, .int r17), (0, .ref b), (1, .ref (G.2.2.2.1 0)), (2, .ref (G.2.2.2.1 131)), (3, .ref (G.2.2.2.1 153)), (4, .int i)]) S dL_law_397 hl (by decide) rfl (fun ls hl => ?_)
  refine r_aload_n S dL_law_399 rfl (lv_at hl 3 rfl) ?_
  refine r_aload_n S dL_law_400 rfl (lv_at hl 1 rfl) ?_
  refine r_iload S dL_law_401 (lv_at hl 5 rfl) ?_
  refine r_iconst S dL_law_403 (by decide) (fun v27 z28 => ?_)
  refine r_iadd S dL_law_404 (fun v29 z30 => ?_)
  obtain ⟨e31, r32⟩ := i_add (lo := 1) (hi := 3073) z30 ri (R_eq z28) rfl
  refine va_sld S.1.1 S.1.2.1 hX hbl hbA X.2 (vp_in_iff.mpr ⟨by omega, by omega⟩) dL_law_405 ?_
  refine lv_topi (fun y33 z34 => ?_)
  have h35 : y7 = y33 := (show y33 = y7 by rw [z34, z8, show v29 = v3 from Int32.toInt_inj.mp (by omega)]).symm
  subst h35
  refine r_aload_n S dL_law_406 rfl (lv_at hl 1 rfl) ?_
  refine r_iload S dL_law_407 (lv_at hl 5 rfl) ?_
  refine r_iconst S dL_law_409 (by decide) (fun v36 z37 => ?_)
  refine r_iadd S dL_law_410 (fun v38 z39 => ?_)
  obtain ⟨e40, r41⟩ := i_add (lo := 2) (hi := 3074) z39 ri (R_eq z37) rfl
  refine va_sld S.1.1 S.1.2.1 hX hbl hbA X.2 (vp_in_iff.mpr ⟨by omega, by omega⟩) dL_law_411 ?_
  refine lv_topi (fun y42 z43 => ?_)
  have h44 : y15 = y42 := (show y42 = y15 by rw [z43, z16, show v38 = v11 from Int32.toInt_inj.mp (by omega)]).symm
  subst h44
  refine r_ki (q_V (As := [.int y7, .int y15]) (rest := []) (K := 38) (ci := 10) S X (c_X12_thinks l G t18 hJ.1 y7 y15 (R_any _) (R_any _)  ) ckL_59 (Nat.le_of_ble_eq_true rfl) rfl (fun _ => ⟨_, rfl⟩) ⟨_, _, rfl⟩ ⟨Nat.le_of_ble_eq_true rfl, Nat.le_of_ble_eq_true rfl⟩ rfl hl.1 rfl (Nat.le_of_ble_eq_true rfl) dL_law_412 ⟨by show _ ≤ 601024; omega, by show _ ≤ 7293034; omega⟩) X (fun r45 t46 H lc q47 X => ?_)
  obtain ⟨k50, k51, k52⟩ := k_X12_thinks q47
  obtain ⟨hJ, e49, n48⟩ := j_X12_thinks hJ q47
  have h53 := congrArg Int32.toInt e49
  have h54 := congrArg Int32.toInt n48
  refine r_istore (lv' := [(6, .int r45), (5, .int r17), (0, .ref b), (1, .ref (G.2.2.2.1 0)), (2, .ref (G.2.2.2.1 131)), (3, .ref (G.2.2.2.1 153)), (4, .int i)]) S dL_law_415 hl (by decide) rfl (fun ls hl => ?_)
  refine r_goto (tgt := 1291) S dL_law_417 (by decide) ?_
  exact kk H lc ls t46 hJ ⟨⟨by omega, by omega⟩, ZZ_kp hZZ (zk_thr q19) (zk_X12_thinks q47) (by decide) (by omega)⟩ X (lv_sub hl [2, 3, 4, 5, 6] rfl)
set_option maxHeartbeats 8000000 in
set_option maxRecDepth 100000 in
theorem lc_says {p : Program} {l : Launch} {e : Env} {s : State} {m : MethodId} {below : List Frame} {meth : Method} {c : Code} {b L : Nat} {xs : Nat → Int32} {G : Gx} {Q : State → Prop} (hst : l.stackTraces = false) (S : Sx G p m c code 7 s #[Value.ref b] RL) (hZ : Zs G s) (hX : va_X b L xs s s.heap) (hbl : b < s.heap.size) (hbA : ¬ G.2.2.2.2 b) (hL : L ≤ 3072) {H : Heap} {lc : List Loc} {ls : Array Slot} {τ : Tau} {cells slots : Nat} {i : Int32} (hi : 0 ≤ i.toInt ∧ i.toInt + 6 ≤ L) (hR : cells + 1 ≤ 601024 ∧ slots + 6 ≤ 7293034) (hJ : JJ τ) (hlen : ((τ 1 1).toInt = (τ 131 2).toInt ∧ (τ 0 11).toInt = (τ 152 0).toInt + 2 * (τ 152 1).toInt) ∧ ZZ τ) (X : Xd G s H lc τ) (hl : lv_has ls 7 [(0, .ref b), (1, .ref (G.2.2.2.1 0)), (2, .ref (G.2.2.2.1 131)), (3, .ref (G.2.2.2.1 153)), (4, .int i)]) (kk : ∀ (H : Heap) (lc : List Loc) (ls : Array Slot) (τ : Tau), JJ τ → (((τ 1 1).toInt = (τ 131 2).toInt ∧ (τ 0 11).toInt = (τ 152 0).toInt + 2 * (τ 152 1).toInt) ∧ ZZ τ) → Xd G s H lc τ → lv_has ls 7 [(0, .ref b), (1, .ref (G.2.2.2.1 0)), (2, .ref (G.2.2.2.1 131)), (3, .ref (G.2.2.2.1 153)), (4, .int i)] → W p l e room_1 s m #[Value.ref b] below meth c H lc (cells + 1) (slots + 6) Q (F0 m 1291 ls [])) : W p l e room_1 s m #[Value.ref b] below meth c H lc cells slots Q (F0 m 420 ls []) := by
  obtain ⟨hA1, hA2⟩ := hlen.1
  have hZZ := hlen.2
  have rl : R 0 940 (τ 1 1) := rd (K := 1) hJ.1 rfl rfl
  have ri : R 0 3072 i := ⟨by omega, by omega⟩
  refine r_aload_n S dL_law_420 rfl (lv_at hl 1 rfl) ?_
  refine r_aload_n S dL_law_421 rfl (lv_at hl 0 rfl) ?_
  refine r_iload S dL_law_422 (lv_at hl 4 rfl) ?_
  refine r_iconst S dL_law_424 (by decide) (fun v1 z2 => ?_)
  refine r_iadd S dL_law_425 (fun v3 z4 => ?_)
  obtain ⟨e5, r6⟩ := i_add (lo := 1) (hi := 3073) z4 ri (R_eq z2) rfl
  refine va_sld S.1.1 S.1.2.1 hX hbl hbA X.2 (vp_in_iff.mpr ⟨by omega, by omega⟩) dL_law_426 ?_
  refine lv_topi (fun y7 z8 => ?_)
  refine r_aload_n S dL_law_427 rfl (lv_at hl 0 rfl) ?_
  refine r_iload S dL_law_428 (lv_at hl 4 rfl) ?_
  refine r_iconst S dL_law_430 (by decide) (fun v9 z10 => ?_)
  refine r_iadd S dL_law_431 (fun v11 z12 => ?_)
  obtain ⟨e13, r14⟩ := i_add (lo := 2) (hi := 3074) z12 ri (R_eq z10) rfl
  refine va_sld S.1.1 S.1.2.1 hX hbl hbA X.2 (vp_in_iff.mpr ⟨by omega, by omega⟩) dL_law_432 ?_
  refine lv_topi (fun y15 z16 => ?_)
  refine r_aload_n S dL_law_433 rfl (lv_at hl 3 rfl) ?_
  refine r_kl (q_SW (As := [.ref (G.2.2.2.1 0), .int y7, .int y15, .ref (G.2.2.2.1 153)]) (rest := []) S hZ X (c_L_says l hst G τ hJ.1 y7 y15) ckW_60 ⟨Nat.le_of_ble_eq_true rfl, Nat.le_of_ble_eq_true rfl⟩ rfl hl.1 rfl (Nat.le_of_ble_eq_true rfl) dL_law_434 ⟨by show _ ≤ 601024; omega, by show _ ≤ 7293034; omega⟩) X (fun r17 t18 H lc q19 X => ?_)
  obtain ⟨k20, k21, k22⟩ := k_thr q19
  obtain ⟨hJ, e23, e24⟩ := j_thr hJ q19
  have h25 := congrArg Int32.toInt e23
  have h26 := congrArg Int32.toInt e24
  refine r_istore (lv' := [(5, .int r17), (0, .ref b), (1, .ref (G.2.2.2.1 0)), (2, .ref (G.2.2.2.1 131)), (3, .ref (G.2.2.2.1 153)), (4, .int i)]) S dL_law_437 hl (by decide) rfl (fun ls hl => ?_)
  refine r_aload_n S dL_law_439 rfl (lv_at hl 3 rfl) ?_
  refine r_aload_n S dL_law_440 rfl (lv_at hl 1 rfl) ?_
  refine r_iload S dL_law_441 (lv_at hl 5 rfl) ?_
  refine r_iconst S dL_law_443 (by decide) (fun v27 z28 => ?_)
  refine r_iadd S dL_law_444 (fun v29 z30 => ?_)
  obtain ⟨e31, r32⟩ := i_add (lo := 1) (hi := 3073) z30 ri (R_eq z28) rfl
  refine va_sld S.1.1 S.1.2.1 hX hbl hbA X.2 (vp_in_iff.mpr ⟨by omega, by omega⟩) dL_law_445 ?_
  refine lv_topi (fun y33 z34 => ?_)
  have h35 : y7 = y33 := (show y33 = y7 by rw [z34, z8, show v29 = v3 from Int32.toInt_inj.mp (by omega)]).symm
  subst h35
  refine r_aload_n S dL_law_446 rfl (lv_at hl 1 rfl) ?_
  refine r_iload S dL_law_447 (lv_at hl 5 rfl) ?_
  refine r_iconst S dL_law_449 (by decide) (fun v36 z37 => ?_)
  refine r_iadd S dL_law_450 (fun v38 z39 => ?_)
  obtain ⟨e40, r41⟩ := i_add (lo := 2) (hi := 3074) z39 ri (R_eq z37) rfl
  refine va_sld S.1.1 S.1.2.1 hX hbl hbA X.2 (vp_in_iff.mpr ⟨by omega, by omega⟩) dL_law_451 ?_
  refine lv_topi (fun y42 z43 => ?_)
  have h44 : y15 = y42 := (show y42 = y15 by rw [z43, z16, show v38 = v11 from Int32.toInt_inj.mp (by omega)]).symm
  subst h44
  refine r_ki (q_V (As := [.int y7, .int y15]) (rest := []) (K := 38) (ci := 10) S X (c_X12_says l G t18 hJ.1 y7 y15 (R_any _) (R_any _)  ) ckL_62 (Nat.le_of_ble_eq_true rfl) rfl (fun _ => ⟨_, rfl⟩) ⟨_, _, rfl⟩ ⟨Nat.le_of_ble_eq_true rfl, Nat.le_of_ble_eq_true rfl⟩ rfl hl.1 rfl (Nat.le_of_ble_eq_true rfl) dL_law_452 ⟨by show _ ≤ 601024; omega, by show _ ≤ 7293034; omega⟩) X (fun r45 t46 H lc q47 X => ?_)
  obtain ⟨k50, k51, k52⟩ := k_X12_says q47
  obtain ⟨hJ, e49, n48⟩ := j_X12_says hJ q47
  have h53 := congrArg Int32.toInt e49
  have h54 := congrArg Int32.toInt n48
  refine r_istore (lv' := [(6, .int r45), (5, .int r17), (0, .ref b), (1, .ref (G.2.2.2.1 0)), (2, .ref (G.2.2.2.1 131)), (3, .ref (G.2.2.2.1 153)), (4, .int i)]) S dL_law_455 hl (by decide) rfl (fun ls hl => ?_)
  refine r_goto (tgt := 1291) S dL_law_457 (by decide) ?_
  exact kk H lc ls t46 hJ ⟨⟨by omega, by omega⟩, ZZ_kp hZZ (zk_thr q19) (zk_X12_says q47) (by decide) (by omega)⟩ X (lv_sub hl [2, 3, 4, 5, 6] rfl)
set_option maxHeartbeats 8000000 in
set_option maxRecDepth 100000 in
theorem lc_now {p : Program} {l : Launch} {e : Env} {s : State} {m : MethodId} {below : List Frame} {meth : Method} {c : Code} {b L : Nat} {xs : Nat → Int32} {G : Gx} {Q : State → Prop} (hst : l.stackTraces = false) (S : Sx G p m c code 7 s #[Value.ref b] RL) (hZ : Zs G s) (hX : va_X b L xs s s.heap) (hbl : b < s.heap.size) (hbA : ¬ G.2.2.2.2 b) (hL : L ≤ 3072) {H : Heap} {lc : List Loc} {ls : Array Slot} {τ : Tau} {cells slots : Nat} {i : Int32} (hi : 0 ≤ i.toInt ∧ i.toInt + 6 ≤ L) (hR : cells + 1 ≤ 601024 ∧ slots + 6 ≤ 7293034) (hJ : JJ τ) (hlen : ((τ 1 1).toInt = (τ 131 2).toInt ∧ (τ 0 11).toInt = (τ 152 0).toInt + 2 * (τ 152 1).toInt) ∧ ZZ τ) (X : Xd G s H lc τ) (hl : lv_has ls 7 [(0, .ref b), (1, .ref (G.2.2.2.1 0)), (2, .ref (G.2.2.2.1 131)), (3, .ref (G.2.2.2.1 153)), (4, .int i)]) (kk : ∀ (H : Heap) (lc : List Loc) (ls : Array Slot) (τ : Tau), JJ τ → (((τ 1 1).toInt = (τ 131 2).toInt ∧ (τ 0 11).toInt = (τ 152 0).toInt + 2 * (τ 152 1).toInt) ∧ ZZ τ) → Xd G s H lc τ → lv_has ls 7 [(0, .ref b), (1, .ref (G.2.2.2.1 0)), (2, .ref (G.2.2.2.1 131)), (3, .ref (G.2.2.2.1 153)), (4, .int i)] → W p l e room_1 s m #[Value.ref b] below meth c H lc (cells + 1) (slots + 6) Q (F0 m 1291 ls [])) : W p l e room_1 s m #[Value.ref b] below meth c H lc cells slots Q (F0 m 460 ls []) := by
  obtain ⟨hA1, hA2⟩ := hlen.1
  have hZZ := hlen.2
  have rl : R 0 940 (τ 1 1) := rd (K := 1) hJ.1 rfl rfl
  have ri : R 0 3072 i := ⟨by omega, by omega⟩
  refine r_aload_n S dL_law_460 rfl (lv_at hl 1 rfl) ?_
  refine r_aload_n S dL_law_461 rfl (lv_at hl 0 rfl) ?_
  refine r_iload S dL_law_462 (lv_at hl 4 rfl) ?_
  refine r_iconst S dL_law_464 (by decide) (fun v1 z2 => ?_)
  refine r_iadd S dL_law_465 (fun v3 z4 => ?_)
  obtain ⟨e5, r6⟩ := i_add (lo := 1) (hi := 3073) z4 ri (R_eq z2) rfl
  refine va_sld S.1.1 S.1.2.1 hX hbl hbA X.2 (vp_in_iff.mpr ⟨by omega, by omega⟩) dL_law_466 ?_
  refine lv_topi (fun y7 z8 => ?_)
  refine r_ki (q_V (As := [.int y7]) (rest := []) (K := 0) (ci := 9) S X (c_X11_now l G τ hJ.1 y7 (R_any _)  ) ckL_63 (Nat.le_of_ble_eq_true rfl) rfl (fun _ => ⟨_, rfl⟩) ⟨_, _, rfl⟩ ⟨Nat.le_of_ble_eq_true rfl, Nat.le_of_ble_eq_true rfl⟩ rfl hl.1 rfl (Nat.le_of_ble_eq_true rfl) dL_law_467 ⟨by show _ ≤ 601024; omega, by show _ ≤ 7293034; omega⟩) X (fun r9 t10 H lc q11 X => ?_)
  obtain ⟨k14, k15, k16⟩ := k_X11_now q11
  obtain ⟨hJ, e13, n12⟩ := j_X11_now hJ q11
  have h17 := congrArg Int32.toInt e13
  have h18 := congrArg Int32.toInt n12
  refine r_pop S dL_law_470 rfl ?_
  refine r_aload_n S dL_law_471 rfl (lv_at hl 2 rfl) ?_
  refine r_aload_n S dL_law_472 rfl (lv_at hl 0 rfl) ?_
  refine r_iload S dL_law_473 (lv_at hl 4 rfl) ?_
  refine r_iconst S dL_law_475 (by decide) (fun v19 z20 => ?_)
  refine r_iadd S dL_law_476 (fun v21 z22 => ?_)
  obtain ⟨e23, r24⟩ := i_add (lo := 1) (hi := 3073) z22 ri (R_eq z20) rfl
  refine va_sld S.1.1 S.1.2.1 hX hbl hbA X.2 (vp_in_iff.mpr ⟨by omega, by omega⟩) dL_law_477 ?_
  refine lv_topi (fun y25 z26 => ?_)
  have h27 : y7 = y25 := (show y25 = y7 by rw [z26, z8, show v21 = v3 from Int32.toInt_inj.mp (by omega)]).symm
  subst h27
  refine r_ki (q_V (As := [.int y7]) (rest := []) (K := 38) (ci := 10) S X (c_X12_now l G t10 hJ.1 y7 (R_any _)  ) ckL_66 (Nat.le_of_ble_eq_true rfl) rfl (fun _ => ⟨_, rfl⟩) ⟨_, _, rfl⟩ ⟨Nat.le_of_ble_eq_true rfl, Nat.le_of_ble_eq_true rfl⟩ rfl hl.1 rfl (Nat.le_of_ble_eq_true rfl) dL_law_478 ⟨by show _ ≤ 601024; omega, by show _ ≤ 7293034; omega⟩) X (fun r28 t29 H lc q30 X => ?_)
  obtain ⟨k33, k34, k35⟩ := k_X12_now q30
  obtain ⟨hJ, e32, n31⟩ := j_X12_now hJ q30
  have h36 := congrArg Int32.toInt e32
  have h37 := congrArg Int32.toInt n31
  refine r_pop S dL_law_481 rfl ?_
  refine r_goto (tgt := 1291) S dL_law_482 (by decide) ?_
  refine w_widen (k := cells + 1) (n := slots + 6) (by omega) (by omega) ?_
  exact kk H lc ls t29 hJ ⟨⟨by omega, by omega⟩, ZZ_kp hZZ (zk_X11_now q11) (zk_X12_now q30) (by decide) (by omega)⟩ X (lv_sub hl [0, 1, 2, 3, 4] rfl)
set_option maxHeartbeats 8000000 in
set_option maxRecDepth 100000 in
theorem lc_why {p : Program} {l : Launch} {e : Env} {s : State} {m : MethodId} {below : List Frame} {meth : Method} {c : Code} {b L : Nat} {xs : Nat → Int32} {G : Gx} {Q : State → Prop} (hst : l.stackTraces = false) (S : Sx G p m c code 7 s #[Value.ref b] RL) (hZ : Zs G s) (hX : va_X b L xs s s.heap) (hbl : b < s.heap.size) (hbA : ¬ G.2.2.2.2 b) (hL : L ≤ 3072) {H : Heap} {lc : List Loc} {ls : Array Slot} {τ : Tau} {cells slots : Nat} {i : Int32} (hi : 0 ≤ i.toInt ∧ i.toInt + 6 ≤ L) (hR : cells + 1 ≤ 601024 ∧ slots + 6 ≤ 7293034) (hJ : JJ τ) (hlen : ((τ 1 1).toInt = (τ 131 2).toInt ∧ (τ 0 11).toInt = (τ 152 0).toInt + 2 * (τ 152 1).toInt) ∧ ZZ τ) (X : Xd G s H lc τ) (hl : lv_has ls 7 [(0, .ref b), (1, .ref (G.2.2.2.1 0)), (2, .ref (G.2.2.2.1 131)), (3, .ref (G.2.2.2.1 153)), (4, .int i)]) (kk : ∀ (H : Heap) (lc : List Loc) (ls : Array Slot) (τ : Tau), JJ τ → (((τ 1 1).toInt = (τ 131 2).toInt ∧ (τ 0 11).toInt = (τ 152 0).toInt + 2 * (τ 152 1).toInt) ∧ ZZ τ) → Xd G s H lc τ → lv_has ls 7 [(0, .ref b), (1, .ref (G.2.2.2.1 0)), (2, .ref (G.2.2.2.1 131)), (3, .ref (G.2.2.2.1 153)), (4, .int i)] → W p l e room_1 s m #[Value.ref b] below meth c H lc (cells + 1) (slots + 6) Q (F0 m 1291 ls [])) : W p l e room_1 s m #[Value.ref b] below meth c H lc cells slots Q (F0 m 485 ls []) := by
  obtain ⟨hA1, hA2⟩ := hlen.1
  have hZZ := hlen.2
  have rl : R 0 940 (τ 1 1) := rd (K := 1) hJ.1 rfl rfl
  have ri : R 0 3072 i := ⟨by omega, by omega⟩
  refine r_aload_n S dL_law_485 rfl (lv_at hl 1 rfl) ?_
  refine r_aload_n S dL_law_486 rfl (lv_at hl 0 rfl) ?_
  refine r_iload S dL_law_487 (lv_at hl 4 rfl) ?_
  refine r_iconst S dL_law_489 (by decide) (fun v1 z2 => ?_)
  refine r_iadd S dL_law_490 (fun v3 z4 => ?_)
  obtain ⟨e5, r6⟩ := i_add (lo := 1) (hi := 3073) z4 ri (R_eq z2) rfl
  refine va_sld S.1.1 S.1.2.1 hX hbl hbA X.2 (vp_in_iff.mpr ⟨by omega, by omega⟩) dL_law_491 ?_
  refine lv_topi (fun y7 z8 => ?_)
  refine r_ki (q_V (As := [.int y7]) (rest := []) (K := 0) (ci := 9) S X (c_X11_why l G τ hJ.1 y7 (R_any _) hJ.2.1 ) ckL_67 (Nat.le_of_ble_eq_true rfl) rfl (fun _ => ⟨_, rfl⟩) ⟨_, _, rfl⟩ ⟨Nat.le_of_ble_eq_true rfl, Nat.le_of_ble_eq_true rfl⟩ rfl hl.1 rfl (Nat.le_of_ble_eq_true rfl) dL_law_492 ⟨by show _ ≤ 601024; omega, by show _ ≤ 7293034; omega⟩) X (fun r9 t10 H lc q11 X => ?_)
  obtain ⟨k14, k15, k16⟩ := k_X11_why q11
  obtain ⟨hJ, e13, n12⟩ := j_X11_why hJ q11
  have h17 := congrArg Int32.toInt e13
  have h18 := congrArg Int32.toInt n12
  refine r_pop S dL_law_495 rfl ?_
  refine r_aload_n S dL_law_496 rfl (lv_at hl 2 rfl) ?_
  refine r_aload_n S dL_law_497 rfl (lv_at hl 0 rfl) ?_
  refine r_iload S dL_law_498 (lv_at hl 4 rfl) ?_
  refine r_iconst S dL_law_500 (by decide) (fun v19 z20 => ?_)
  refine r_iadd S dL_law_501 (fun v21 z22 => ?_)
  obtain ⟨e23, r24⟩ := i_add (lo := 1) (hi := 3073) z22 ri (R_eq z20) rfl
  refine va_sld S.1.1 S.1.2.1 hX hbl hbA X.2 (vp_in_iff.mpr ⟨by omega, by omega⟩) dL_law_502 ?_
  refine lv_topi (fun y25 z26 => ?_)
  have h27 : y7 = y25 := (show y25 = y7 by rw [z26, z8, show v21 = v3 from Int32.toInt_inj.mp (by omega)]).symm
  subst h27
  refine r_ki (q_V (As := [.int y7]) (rest := []) (K := 38) (ci := 10) S X (c_X12_why l G t10 hJ.1 y7 (R_any _)  ) ckL_70 (Nat.le_of_ble_eq_true rfl) rfl (fun _ => ⟨_, rfl⟩) ⟨_, _, rfl⟩ ⟨Nat.le_of_ble_eq_true rfl, Nat.le_of_ble_eq_true rfl⟩ rfl hl.1 rfl (Nat.le_of_ble_eq_true rfl) dL_law_503 ⟨by show _ ≤ 601024; omega, by show _ ≤ 7293034; omega⟩) X (fun r28 t29 H lc q30 X => ?_)
  obtain ⟨k33, k34, k35⟩ := k_X12_why q30
  obtain ⟨hJ, e32, n31⟩ := j_X12_why hJ q30
  have h36 := congrArg Int32.toInt e32
  have h37 := congrArg Int32.toInt n31
  refine r_pop S dL_law_506 rfl ?_
  refine r_goto (tgt := 1291) S dL_law_507 (by decide) ?_
  refine w_widen (k := cells + 1) (n := slots + 6) (by omega) (by omega) ?_
  exact kk H lc ls t29 hJ ⟨⟨by omega, by omega⟩, ZZ_kp hZZ (zk_X11_why q11) (zk_X12_why q30) (by decide) (by omega)⟩ X (lv_sub hl [0, 1, 2, 3, 4] rfl)
set_option maxHeartbeats 8000000 in
set_option maxRecDepth 100000 in
theorem lc_cross {p : Program} {l : Launch} {e : Env} {s : State} {m : MethodId} {below : List Frame} {meth : Method} {c : Code} {b L : Nat} {xs : Nat → Int32} {G : Gx} {Q : State → Prop} (hst : l.stackTraces = false) (S : Sx G p m c code 7 s #[Value.ref b] RL) (hZ : Zs G s) (hX : va_X b L xs s s.heap) (hbl : b < s.heap.size) (hbA : ¬ G.2.2.2.2 b) (hL : L ≤ 3072) {H : Heap} {lc : List Loc} {ls : Array Slot} {τ : Tau} {cells slots : Nat} {i : Int32} (hi : 0 ≤ i.toInt ∧ i.toInt + 6 ≤ L) (hR : cells + 1 ≤ 601024 ∧ slots + 6 ≤ 7293034) (hJ : JJ τ) (hlen : ((τ 1 1).toInt = (τ 131 2).toInt ∧ (τ 0 11).toInt = (τ 152 0).toInt + 2 * (τ 152 1).toInt) ∧ ZZ τ) (X : Xd G s H lc τ) (hl : lv_has ls 7 [(0, .ref b), (1, .ref (G.2.2.2.1 0)), (2, .ref (G.2.2.2.1 131)), (3, .ref (G.2.2.2.1 153)), (4, .int i)]) (kk : ∀ (H : Heap) (lc : List Loc) (ls : Array Slot) (τ : Tau), JJ τ → (((τ 1 1).toInt = (τ 131 2).toInt ∧ (τ 0 11).toInt = (τ 152 0).toInt + 2 * (τ 152 1).toInt) ∧ ZZ τ) → Xd G s H lc τ → lv_has ls 7 [(0, .ref b), (1, .ref (G.2.2.2.1 0)), (2, .ref (G.2.2.2.1 131)), (3, .ref (G.2.2.2.1 153)), (4, .int i)] → W p l e room_1 s m #[Value.ref b] below meth c H lc (cells + 1) (slots + 6) Q (F0 m 1291 ls [])) : W p l e room_1 s m #[Value.ref b] below meth c H lc cells slots Q (F0 m 510 ls []) := by
  obtain ⟨hA1, hA2⟩ := hlen.1
  have hZZ := hlen.2
  have rl : R 0 940 (τ 1 1) := rd (K := 1) hJ.1 rfl rfl
  have ri : R 0 3072 i := ⟨by omega, by omega⟩
  refine r_aload_n S dL_law_510 rfl (lv_at hl 1 rfl) ?_
  refine r_aload_n S dL_law_511 rfl (lv_at hl 0 rfl) ?_
  refine r_iload S dL_law_512 (lv_at hl 4 rfl) ?_
  refine r_iconst S dL_law_514 (by decide) (fun v1 z2 => ?_)
  refine r_iadd S dL_law_515 (fun v3 z4 => ?_)
  obtain ⟨e5, r6⟩ := i_add (lo := 1) (hi := 3073) z4 ri (R_eq z2) rfl
  refine va_sld S.1.1 S.1.2.1 hX hbl hbA X.2 (vp_in_iff.mpr ⟨by omega, by omega⟩) dL_law_516 ?_
  refine lv_topi (fun y7 z8 => ?_)
  refine r_ki (q_V (As := [.int y7]) (rest := []) (K := 0) (ci := 9) S X (c_X11_cross l G τ hJ.1 y7 (R_any _) hJ.2.1 hJ.2.2.1 ) ckL_71 (Nat.le_of_ble_eq_true rfl) rfl (fun _ => ⟨_, rfl⟩) ⟨_, _, rfl⟩ ⟨Nat.le_of_ble_eq_true rfl, Nat.le_of_ble_eq_true rfl⟩ rfl hl.1 rfl (Nat.le_of_ble_eq_true rfl) dL_law_517 ⟨by show _ ≤ 601024; omega, by show _ ≤ 7293034; omega⟩) X (fun r9 t10 H lc q11 X => ?_)
  obtain ⟨k14, k15, k16⟩ := k_X11_cross q11
  obtain ⟨hJ, e13, n12⟩ := j_X11_cross hJ q11
  have h17 := congrArg Int32.toInt e13
  have h18 := congrArg Int32.toInt n12
  refine r_pop S dL_law_520 rfl ?_
  refine r_aload_n S dL_law_521 rfl (lv_at hl 2 rfl) ?_
  refine r_aload_n S dL_law_522 rfl (lv_at hl 0 rfl) ?_
  refine r_iload S dL_law_523 (lv_at hl 4 rfl) ?_
  refine r_iconst S dL_law_525 (by decide) (fun v19 z20 => ?_)
  refine r_iadd S dL_law_526 (fun v21 z22 => ?_)
  obtain ⟨e23, r24⟩ := i_add (lo := 1) (hi := 3073) z22 ri (R_eq z20) rfl
  refine va_sld S.1.1 S.1.2.1 hX hbl hbA X.2 (vp_in_iff.mpr ⟨by omega, by omega⟩) dL_law_527 ?_
  refine lv_topi (fun y25 z26 => ?_)
  have h27 : y7 = y25 := (show y25 = y7 by rw [z26, z8, show v21 = v3 from Int32.toInt_inj.mp (by omega)]).symm
  subst h27
  refine r_ki (q_V (As := [.int y7]) (rest := []) (K := 38) (ci := 10) S X (c_X12_cross_x l G t10 hJ.1 y7 (R_any _)  ) ckL_74 (Nat.le_of_ble_eq_true rfl) rfl (fun _ => ⟨_, rfl⟩) ⟨_, _, rfl⟩ ⟨Nat.le_of_ble_eq_true rfl, Nat.le_of_ble_eq_true rfl⟩ rfl hl.1 rfl (Nat.le_of_ble_eq_true rfl) dL_law_528 ⟨by show _ ≤ 601024; omega, by show _ ≤ 7293034; omega⟩) X (fun r28 t29 H lc q30 X => ?_)
  obtain ⟨k33, k34, k35⟩ := k_X12_cross_x q30
  obtain ⟨hJ, e32, n31⟩ := j_X12_cross_x hJ q30
  have h36 := congrArg Int32.toInt e32
  have h37 := congrArg Int32.toInt n31
  refine r_pop S dL_law_531 rfl ?_
  refine r_goto (tgt := 1291) S dL_law_532 (by decide) ?_
  refine w_widen (k := cells + 1) (n := slots + 6) (by omega) (by omega) ?_
  exact kk H lc ls t29 hJ ⟨⟨by omega, by omega⟩, ZZ_kp hZZ (zk_X11_cross q11) (zk_X12_cross_x q30) (by decide) (by omega)⟩ X (lv_sub hl [0, 1, 2, 3, 4] rfl)
