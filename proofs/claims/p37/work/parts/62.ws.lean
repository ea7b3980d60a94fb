set_option maxHeartbeats 4000000 in
set_option maxRecDepth 100000 in
theorem whole_start {p : Program} {e : Env} {s : State} {m : MethodId} {below : List Frame} {meth : Method} {c : Code} (l : Launch) (hst : l.stackTraces = false) {b L : Nat} {xs : Nat → Int32} (hL : L ≤ 3072) (C0 : lw_At p s m meth c b L xs) : W p l e room_1 s m #[Value.ref b] below meth c s.heap [] 0 0 (lw_Z below #[Value.ref b] s) (entryFrame m ([Value.ref b] : List Value).toArray 7) := by
  obtain ⟨hx, hb, hr, hml, hown, hts, hX, hbl, hlk, hgv⟩ := C0
  have hF : ∀ c ∈ flG, c.before #[Value.ref b] s = true := flat_of_before _ hgv
  obtain ⟨D, ca, ad, hall⟩ := st_all hF hts
  rw [lg_entry_eq]
  obtain ⟨ls, hls⟩ : ∃ z, z = ((lg_sl [Value.ref b] ++ List.replicate (7 - (lg_sl [Value.ref b]).length) Slot.unset).toArray) := ⟨_, rfl⟩
  have hl : lv_has ls 7 [(0, .ref b)] := by rw [hls]; exact lv_entry [Value.ref b] (Nat.le_of_ble_eq_true rfl)
  rw [← hls]
  have hC : CallFix p m c code 7 s #[Value.ref b] tbg RL := ⟨hx, hb, hml, hown, fun w h => hts w (List.mem_filter.mp h).1⟩
  obtain ⟨hK, hE, hN, hO, hZ⟩ := hall (fun _ => 0)
  have S0 : Sc (D, ca, ad, (fun _ => 0), fun q => s.heap.size ≤ q) p m c code 7 s #[Value.ref b] RL := ⟨hC, hK, fun q hq => hq, hO, hN⟩
  have X : Xc (D, ca, ad, (fun _ => 0), fun q => s.heap.size ≤ q) s s.heap [] ([] ++ []) := ⟨fun k q h => (by cases h), ⟨fun i j p q h => (by cases h), fun k q h => (by cases h)⟩, va_S.rf⟩
  obtain ⟨H, hH⟩ : ∃ z, z = s.heap := ⟨_, rfl⟩
  obtain ⟨lc, hlc⟩ : ∃ z : List Loc, z = [] := ⟨_, rfl⟩
  rw [show W p l e room_1 s m #[Value.ref b] below meth c s.heap [] 0 0 (lw_Z below #[Value.ref b] s) (F0 m 0 ls []) = W p l e room_1 s m #[Value.ref b] below meth c H lc 0 0 (lw_Z below #[Value.ref b] s) (F0 m 0 ls []) by rw [hH, hlc]]
  have X : Xc (D, ca, ad, (fun _ => 0), fun q => s.heap.size ≤ q) s H lc ([] ++ []) := by rw [hH, hlc]; exact X
  refine c_new S0 X nwL_8 ⟨Nat.le_of_ble_eq_true rfl, Nat.le_of_ble_eq_true rfl⟩ dL_law_0 (fun w0 H X => ?_)
  have X : Xc (D, ca, ad, (fun _ => 0), fun q => s.heap.size ≤ q) s H lc ([] ++ [(w0, .inr (9, [.null, .null, .null, .null, .null, .null, .null, .null, .int 0, .int 0, .null, .int 0, .int 0, .int 0, .int 0, .null, .null]))]) := X
  refine lv_dup hx hb dL_law_3 rfl ?_
  refine c_kv (c_runI (As := []) (rest := [.ref w0]) S0 X (ci_X11 l (D, ca, ad, (fun _ => 0), fun q => s.heap.size ≤ q) [] w0) ckiL_28 rfl ⟨Nat.le_of_ble_eq_true rfl, Nat.le_of_ble_eq_true rfl⟩ rfl hl.1 rfl (Nat.le_of_ble_eq_true rfl) dL_law_4 ⟨Nat.le_of_ble_eq_true rfl, Nat.le_of_ble_eq_true rfl⟩) X (fun u1 H lc h1 X => ?_)
  refine lv_astore_n (lv' := [(1, .ref w0), (0, .ref b)]) hx hb dL_law_7 rfl hl (by decide) rfl (fun ls hl => ?_)
  have X : Xc (D, ca, ad, (fun _ => 0), fun q => s.heap.size ≤ q) s H lc (u1 ++ []) := by rw [List.append_nil]; exact X
  refine c_new S0 X nwL_29 ⟨Nat.le_of_ble_eq_true rfl, Nat.le_of_ble_eq_true rfl⟩ dL_law_8 (fun w131 H X => ?_)
  have X : Xc (D, ca, ad, (fun _ => 0), fun q => s.heap.size ≤ q) s H lc (u1 ++ [(w131, .inr (10, [.int 0, .null, .int 0, .int 0, .int 0, .int 0, .null, .null, .null, .null, .null, .int 0, .int 0, .int 0, .int 0, .int 0, .int 0, .long 0, .int 0, .int 0, .int 0, .int 0, .null, .null, .int 0, .null, .null, .null, .int 0, .int 0, .int 0, .null, .null, .int 0, .null, .null, .int 0, .int 0, .null, .int 0, .null, .int 0, .int 0, .int 0, .int 0, .int 0, .null, .null, .null, .null]))]) := X
  refine lv_dup hx hb dL_law_11 rfl ?_
  refine c_kv (c_runI (As := []) (rest := [.ref w131]) S0 X (ci_X12 l (D, ca, ad, (fun _ => 0), fun q => s.heap.size ≤ q) u1 w131) ckiL_31 rfl ⟨Nat.le_of_ble_eq_true rfl, Nat.le_of_ble_eq_true rfl⟩ rfl hl.1 rfl (Nat.le_of_ble_eq_true rfl) dL_law_12 ⟨Nat.le_of_ble_eq_true rfl, Nat.le_of_ble_eq_true rfl⟩) X (fun u2 H lc h2 X => ?_)
  refine lv_astore_n (lv' := [(2, .ref w131), (1, .ref w0), (0, .ref b)]) hx hb dL_law_15 rfl hl (by decide) rfl (fun ls hl => ?_)
  refine lv_iconst hx hb dL_law_16 rfl (c_i (n := 1) (by decide) (fun v1 z1 => ?_))
  have X : Xc (D, ca, ad, (fun _ => 0), fun q => s.heap.size ≤ q) s H lc (([] : va_W) ++ u2) := X
  refine c_newa (atype := .long) (ty := .long) (t0 := 1) (N := 1) (a0 := (1, .inr (.inl fun _ => 0))) S0 X kc5 rfl rfl (fun _ => rfl) (by omega) (by decide) ⟨Nat.le_of_ble_eq_true rfl, Nat.le_of_ble_eq_true rfl⟩ dL_law_17 (fun w153 H X => ?_)
  refine lv_astore_n (lv' := [(3, .ref w153), (2, .ref w131), (1, .ref w0), (0, .ref b)]) hx hb dL_law_19 rfl hl (by decide) rfl (fun ls hl => ?_)
  refine lv_iconst hx hb dL_law_20 rfl (c_i (n := 0) (by decide) (fun v2 z2 => ?_))
  refine lv_istore (lv' := [(4, .int v2), (3, .ref w153), (2, .ref w131), (1, .ref w0), (0, .ref b)]) hx hb dL_law_21 hl (by decide) rfl (fun ls hl => ?_)
  obtain ⟨f, g, hg, f0, f1, f2, hP, hD, hS⟩ := ws_joinE (D, ca, ad, (fun _ => 0), fun q => s.heap.size ≤ q) w0 w131 w153 u1 u2 h1 h2 X
  clear h1 h2 X
  obtain ⟨hK, hE, hN, hO, hZ⟩ := hall f
  have S : Sx (D, ca, ad, f, fun q => s.heap.size ≤ q) p m c code 7 s #[Value.ref b] RL := ⟨hC, hK, wl0_D hD, hE, hN⟩
  have hl : lv_has ls 7 [(0, .ref b), (1, .ref (f 0)), (2, .ref (f 131)), (3, .ref (f 153)), (4, .int v2)] := by rw [f0, f1, f2]; exact lv_sub hl [4, 3, 2, 1, 0] rfl
  have X : Xd (D, ca, ad, f, fun q => s.heap.size ≤ q) s H lc (tauV g) := ⟨⟨_, tauV_q g, by unfold tauV; rw [wl_tl]; exact hP⟩, hS⟩
  refine w_widen (k := 154) (n := 23618) (by omega) (by omega) ?_
  exact law_loop (G := (D, ca, ad, f, fun q => s.heap.size ≤ q)) hst S hZ hX hbl (Nat.not_le.mpr hbl) hL hr hlk (fun _ h => h) _ H lc ls (tauV g) v2 154 23618 (tauV_jj g) ⟨⟨by rw [tauV_e g (by decide), tauV_e g (by decide)]; rfl, by rw [tauV_e g (by decide), tauV_e g (by decide), tauV_e g (by decide)]; decide⟩, tauV_zz g hg⟩ X hl (by omega) (by omega) (by omega) (by omega) (Nat.lt_succ_self _)
