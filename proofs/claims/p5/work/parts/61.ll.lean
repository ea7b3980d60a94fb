theorem wl0_D {G : Gx} {A : Nat → Prop} {τ : Tau} {q : Nat → Nat → Int64} (h : va_D A (wl G τ q)) : va_D A (wl0 G) := by
  have key : ∀ (i : Nat) (p : Nat × va_E), (wl0 G)[i]? = some p → (wl G τ q)[i]? = some (p.1, sh G i (τ i) (q i)) := by
    intro i p hp
    unfold wl0 at hp
    unfold wl
    rw [List.getElem?_map] at hp ⊢
    by_cases hi : i < NC
    · rw [List.getElem?_range hi] at hp ⊢; cases hp; rfl
    · rw [List.getElem?_eq_none (by rw [List.length_range]; omega)] at hp; cases hp
  exact ⟨fun i j p q hi hj e => h.1 i j _ _ (key i p hi) (key j q hj) e, fun k p hp => h.2 k (p.1, sh G k (τ k) (q k)) (key k p hp)⟩
set_option maxHeartbeats 40000000 in
set_option maxRecDepth 100000 in
theorem law_loop {p : Program} {l : Launch} {e : Env} {s : State} {m : MethodId} {below : List Frame} {meth : Method} {c : Code} {b L : Nat} {xs : Nat → Int32} {G : Gx} (hst : l.stackTraces = false) (S : Sx G p m c code 7 s #[Value.ref b] RL) (hZ : Zs G s) (hX : va_X b L xs s s.heap) (hbl : b < s.heap.size) (hbA : ¬ G.2.2.2.2 b) (hL : L ≤ 3072) (hr : meth.sig.returnType = ret) (hlk : meth.locks = false) (hA : ∀ q, G.2.2.2.2 q → s.heap.size ≤ q) : ∀ (q : Nat) (H : Heap) (lc : List Loc) (ls : Array Slot) (τ : Tau) (i : Int32) (cells slots : Nat), JJ τ → (((τ 1 1).toInt = (τ 131 2).toInt ∧ (τ 0 11).toInt = (τ 152 0).toInt + 2 * (τ 152 1).toInt) ∧ ZZ τ) → Xd G s H lc τ → lv_has ls 7 [(0, .ref b), (1, .ref (G.2.2.2.1 0)), (2, .ref (G.2.2.2.1 131)), (3, .ref (G.2.2.2.1 153)), (4, .int i)] → 0 ≤ i.toInt → i.toInt ≤ 3078 → (cells : Int) ≤ 154 + i.toInt → (slots : Int) ≤ 23618 + i.toInt → (4000 - i.toInt).toNat < q → W p l e room_1 s m #[Value.ref b] below meth c H lc cells slots (lw_Z below #[Value.ref b] s) (F0 m 23 ls []) := by
  intro q
  induction q with
  | zero => intros; omega
  | succ q ih =>
    intro H lc ls τ i cells slots hJ hlen X hl h0 h1 hc hs hq
    refine r_iload S dL_law_23 (lv_at hl 4 rfl) ?_
    refine r_aload_n S dL_law_25 rfl (lv_at hl 0 rfl) ?_
    refine va_slen S.1.1 S.1.2.1 hX hbl hbA X.2 dL_law_26 ?_
    refine lv_topi (fun n1 z1 => ?_)
    have e1 : n1.toInt = L := by rw [z1]; exact nI_toInt (by omega)
    refine r_bipush S dL_law_27 (by decide) (fun v2 z2 => ?_)
    refine r_isub S dL_law_29 (fun v3 z3 => ?_)
    obtain ⟨e3, -⟩ := i_sub (lo := -6) (hi := 3066) z3 (show R 0 3072 n1 from ⟨by omega, by omega⟩) (R_eq z2) rfl
    refine r_icmp_gt (tgt := 1297) S dL_law_30 (by decide) (fun h => ?_) (fun h => ?_)
    ·
      refine w_widen (k := 601024) (n := 7293034) (by omega) (by omega) ?_
      refine va_forget (fun q hq => hA _ (X.2.2.2 q hq)) ?_
      refine r_iconst S dL_law_1297 (by decide) (fun v4 z4 => ?_)
      rw [show v4 = 1 from Int32.toInt_inj.mp (by rw [z4]; rfl)]
      exact lw_ret S.1.1 S.1.2.1 hr hlk dL_law_1298
    ·
      refine r_aload_n S dL_law_33 rfl (lv_at hl 0 rfl) ?_
      refine r_iload S dL_law_34 (lv_at hl 4 rfl) ?_
      refine va_sld S.1.1 S.1.2.1 hX hbl hbA X.2 (vp_in_iff.mpr ⟨by omega, by omega⟩) dL_law_36 ?_
      refine lv_topi (fun y5 z5 => ?_)
      refine r_bipush S dL_law_37 (by decide) (fun v6 z6 => ?_)
      refine r_iand S dL_law_39 (fun v7 z7 => ?_)
      have r7 : R 0 63 v7 := i_and2 z7 (R_any y5) (R_eq z6) rfl
      have r8 := r7.1
      have r9 := r7.2
      have hi : 0 ≤ i.toInt ∧ i.toInt + 6 ≤ L := ⟨h0, by omega⟩
      have hR : cells + 1 ≤ 601024 ∧ slots + 6 ≤ 7293034 := ⟨by omega, by omega⟩
      have kk : ∀ (H : Heap) (lc : List Loc) (ls : Array Slot) (τ : Tau), JJ τ → (((τ 1 1).toInt = (τ 131 2).toInt ∧ (τ 0 11).toInt = (τ 152 0).toInt + 2 * (τ 152 1).toInt) ∧ ZZ τ) → Xd G s H lc τ → lv_has ls 7 [(0, .ref b), (1, .ref (G.2.2.2.1 0)), (2, .ref (G.2.2.2.1 131)), (3, .ref (G.2.2.2.1 153)), (4, .int i)] → W p l e room_1 s m #[Value.ref b] below meth c H lc (cells + 1) (slots + 6) (lw_Z below #[Value.ref b] s) (F0 m 1291 ls []) := fun H lc ls τ hJ hlen X hl => by
        refine r_iinc (k := 4) S dL_law_1291 hl rfl (by decide) (by decide) (fun v d ls hv hd hl => ?_)
        obtain ⟨e8, -⟩ := i_add (lo := 6) (hi := 3078) hv (show R 0 3072 i from ⟨by omega, by omega⟩) (R_eq hd) rfl
        have hl : lv_has ls 7 [(4, .int v), (0, .ref b), (1, .ref (G.2.2.2.1 0)), (2, .ref (G.2.2.2.1 131)), (3, .ref (G.2.2.2.1 153))] := hl
        refine r_goto (tgt := 23) S dL_law_1294 (by decide) ?_
        exact ih H lc ls τ v (cells + 1) (slots + 6) hJ hlen X (lv_sub hl [1, 2, 3, 4, 0] rfl) (by omega) (by omega) (by omega) (by omega) (by omega)
      rcases (show (v7.toInt < 0 ∨ 39 < v7.toInt) ∨ v7.toInt = 0 ∨ v7.toInt = 1 ∨ v7.toInt = 2 ∨ v7.toInt = 3 ∨ v7.toInt = 4 ∨ v7.toInt = 5 ∨ v7.toInt = 6 ∨ v7.toInt = 7 ∨ v7.toInt = 8 ∨ v7.toInt = 9 ∨ v7.toInt = 10 ∨ v7.toInt = 11 ∨ v7.toInt = 12 ∨ v7.toInt = 13 ∨ v7.toInt = 14 ∨ v7.toInt = 15 ∨ v7.toInt = 16 ∨ v7.toInt = 17 ∨ v7.toInt = 18 ∨ v7.toInt = 19 ∨ v7.toInt = 20 ∨ v7.toInt = 21 ∨ v7.toInt = 22 ∨ v7.toInt = 23 ∨ v7.toInt = 24 ∨ v7.toInt = 25 ∨ v7.toInt = 26 ∨ v7.toInt = 27 ∨ v7.toInt = 28 ∨ v7.toInt = 29 ∨ v7.toInt = 30 ∨ v7.toInt = 31 ∨ v7.toInt = 32 ∨ v7.toInt = 33 ∨ v7.toInt = 34 ∨ v7.toInt = 35 ∨ v7.toInt = 36 ∨ v7.toInt = 37 ∨ v7.toInt = 38 ∨ v7.toInt = 39 by omega) with h9 | h9 | h9 | h9 | h9 | h9 | h9 | h9 | h9 | h9 | h9 | h9 | h9 | h9 | h9 | h9 | h9 | h9 | h9 | h9 | h9 | h9 | h9 | h9 | h9 | h9 | h9 | h9 | h9 | h9 | h9 | h9 | h9 | h9 | h9 | h9 | h9 | h9 | h9 | h9 | h9
      ·
        refine lv_tableOut (tgt := 1291) S.1.1 S.1.2.1 dL_law_40 h9 (by decide) ?_
        refine w_widen (k := cells + 1) (n := slots + 6) (by omega) (by omega) ?_
        exact kk H lc ls τ hJ hlen X hl
      ·
        refine lv_tableIn (tgt := 216) S.1.1 S.1.2.1 dL_law_40 (by omega) (by omega) (by rw [h9]; rfl) (by decide) ?_
        exact lc_feed hst S hZ hX hbl hbA hL hi hR hJ hlen X hl kk
      ·
        refine lv_tableIn (tgt := 289) S.1.1 S.1.2.1 dL_law_40 (by omega) (by omega) (by rw [h9]; rfl) (by decide) ?_
        exact lc_end hst S hZ hX hbl hbA hL hi hR hJ hlen X hl kk
      ·
        refine lv_tableIn (tgt := 314) S.1.1 S.1.2.1 dL_law_40 (by omega) (by omega) (by rw [h9]; rfl) (by decide) ?_
        exact lc_ferry hst S hZ hX hbl hbA hL hi hR hJ hlen X hl kk
      ·
        refine lv_tableIn (tgt := 327) S.1.1 S.1.2.1 dL_law_40 (by omega) (by omega) (by rw [h9]; rfl) (by decide) ?_
        exact lc_fault hst S hZ hX hbl hbA hL hi hR hJ hlen X hl kk
      ·
        refine lv_tableIn (tgt := 340) S.1.1 S.1.2.1 dL_law_40 (by omega) (by omega) (by rw [h9]; rfl) (by decide) ?_
        exact lc_man hst S hZ hX hbl hbA hL hi hR hJ hlen X hl kk
      ·
        refine lv_tableIn (tgt := 380) S.1.1 S.1.2.1 dL_law_40 (by omega) (by omega) (by rw [h9]; rfl) (by decide) ?_
        exact lc_thinks hst S hZ hX hbl hbA hL hi hR hJ hlen X hl kk
      ·
        refine lv_tableIn (tgt := 420) S.1.1 S.1.2.1 dL_law_40 (by omega) (by omega) (by rw [h9]; rfl) (by decide) ?_
        exact lc_says hst S hZ hX hbl hbA hL hi hR hJ hlen X hl kk
      ·
        refine lv_tableIn (tgt := 460) S.1.1 S.1.2.1 dL_law_40 (by omega) (by omega) (by rw [h9]; rfl) (by decide) ?_
        exact lc_now hst S hZ hX hbl hbA hL hi hR hJ hlen X hl kk
      ·
        refine lv_tableIn (tgt := 485) S.1.1 S.1.2.1 dL_law_40 (by omega) (by omega) (by rw [h9]; rfl) (by decide) ?_
        exact lc_why hst S hZ hX hbl hbA hL hi hR hJ hlen X hl kk
      ·
        refine lv_tableIn (tgt := 510) S.1.1 S.1.2.1 dL_law_40 (by omega) (by omega) (by rw [h9]; rfl) (by decide) ?_
        exact lc_cross hst S hZ hX hbl hbA hL hi hR hJ hlen X hl kk
      ·
        refine lv_tableIn (tgt := 535) S.1.1 S.1.2.1 dL_law_40 (by omega) (by omega) (by rw [h9]; rfl) (by decide) ?_
        exact lc_raise hst S hZ hX hbl hbA hL hi hR hJ hlen X hl kk
      ·
        refine lv_tableIn (tgt := 560) S.1.1 S.1.2.1 dL_law_40 (by omega) (by omega) (by rw [h9]; rfl) (by decide) ?_
        exact lc_hire hst S hZ hX hbl hbA hL hi hR hJ hlen X hl kk
      ·
        refine lv_tableIn (tgt := 585) S.1.1 S.1.2.1 dL_law_40 (by omega) (by omega) (by rw [h9]; rfl) (by decide) ?_
        exact lc_lie hst S hZ hX hbl hbA hL hi hR hJ hlen X hl kk
      ·
        refine lv_tableIn (tgt := 634) S.1.1 S.1.2.1 dL_law_40 (by omega) (by omega) (by rw [h9]; rfl) (by decide) ?_
        exact lc_turn hst S hZ hX hbl hbA hL hi hR hJ hlen X hl kk
      ·
        refine lv_tableIn (tgt := 683) S.1.1 S.1.2.1 dL_law_40 (by omega) (by omega) (by rw [h9]; rfl) (by decide) ?_
        exact lc_undo hst S hZ hX hbl hbA hL hi hR hJ hlen X hl kk
      ·
        refine lv_tableIn (tgt := 696) S.1.1 S.1.2.1 dL_law_40 (by omega) (by omega) (by rw [h9]; rfl) (by decide) ?_
        exact lc_sum hst S hZ hX hbl hbA hL hi hR hJ hlen X hl kk
      ·
        refine lv_tableIn (tgt := 724) S.1.1 S.1.2.1 dL_law_40 (by omega) (by omega) (by rw [h9]; rfl) (by decide) ?_
        exact lc_crews hst S hZ hX hbl hbA hL hi hR hJ hlen X hl kk
      ·
        refine lv_tableIn (tgt := 749) S.1.1 S.1.2.1 dL_law_40 (by omega) (by omega) (by rw [h9]; rfl) (by decide) ?_
        exact lc_largest hst S hZ hX hbl hbA hL hi hR hJ hlen X hl kk
      ·
        refine lv_tableIn (tgt := 762) S.1.1 S.1.2.1 dL_law_40 (by omega) (by omega) (by rw [h9]; rfl) (by decide) ?_
        exact lc_stuck hst S hZ hX hbl hbA hL hi hR hJ hlen X hl kk
      ·
        refine lv_tableIn (tgt := 775) S.1.1 S.1.2.1 dL_law_40 (by omega) (by omega) (by rw [h9]; rfl) (by decide) ?_
        exact lc_trips hst S hZ hX hbl hbA hL hi hR hJ hlen X hl kk
      ·
        refine lv_tableIn (tgt := 800) S.1.1 S.1.2.1 dL_law_40 (by omega) (by omega) (by rw [h9]; rfl) (by decide) ?_
        exact lc_next hst S hZ hX hbl hbA hL hi hR hJ hlen X hl kk
      ·
        refine lv_tableIn (tgt := 813) S.1.1 S.1.2.1 dL_law_40 (by omega) (by omega) (by rw [h9]; rfl) (by decide) ?_
        exact lc_best hst S hZ hX hbl hbA hL hi hR hJ hlen X hl kk
      ·
        refine lv_tableIn (tgt := 826) S.1.1 S.1.2.1 dL_law_40 (by omega) (by omega) (by rw [h9]; rfl) (by decide) ?_
        exact lc_easy hst S hZ hX hbl hbA hL hi hR hJ hlen X hl kk
      ·
        refine lv_tableIn (tgt := 839) S.1.1 S.1.2.1 dL_law_40 (by omega) (by omega) (by rw [h9]; rfl) (by decide) ?_
        exact lc_changed hst S hZ hX hbl hbA hL hi hR hJ hlen X hl kk
      ·
        refine lv_tableIn (tgt := 864) S.1.1 S.1.2.1 dL_law_40 (by omega) (by omega) (by rw [h9]; rfl) (by decide) ?_
        exact lc_fits hst S hZ hX hbl hbA hL hi hR hJ hlen X hl kk
      ·
        refine lv_tableIn (tgt := 889) S.1.1 S.1.2.1 dL_law_40 (by omega) (by omega) (by rw [h9]; rfl) (by decide) ?_
        exact lc_fit hst S hZ hX hbl hbA hL hi hR hJ hlen X hl kk
      ·
        refine lv_tableIn (tgt := 914) S.1.1 S.1.2.1 dL_law_40 (by omega) (by omega) (by rw [h9]; rfl) (by decide) ?_
        exact lc_couples hst S hZ hX hbl hbA hL hi hR hJ hlen X hl kk
      ·
        refine lv_tableIn (tgt := 927) S.1.1 S.1.2.1 dL_law_40 (by omega) (by omega) (by rw [h9]; rfl) (by decide) ?_
        exact lc_couple hst S hZ hX hbl hbA hL hi hR hJ hlen X hl kk
      ·
        refine lv_tableIn (tgt := 952) S.1.1 S.1.2.1 dL_law_40 (by omega) (by omega) (by rw [h9]; rfl) (by decide) ?_
        exact lc_doubters hst S hZ hX hbl hbA hL hi hR hJ hlen X hl kk
      ·
        refine lv_tableIn (tgt := 977) S.1.1 S.1.2.1 dL_law_40 (by omega) (by omega) (by rw [h9]; rfl) (by decide) ?_
        exact lc_jokes hst S hZ hX hbl hbA hL hi hR hJ hlen X hl kk
      ·
        refine lv_tableIn (tgt := 1017) S.1.1 S.1.2.1 dL_law_40 (by omega) (by omega) (by rw [h9]; rfl) (by decide) ?_
        exact lc_foes hst S hZ hX hbl hbA hL hi hR hJ hlen X hl kk
      ·
        refine lv_tableIn (tgt := 1042) S.1.1 S.1.2.1 dL_law_40 (by omega) (by omega) (by rw [h9]; rfl) (by decide) ?_
        exact lc_drawn hst S hZ hX hbl hbA hL hi hR hJ hlen X hl kk
      ·
        refine lv_tableIn (tgt := 1079) S.1.1 S.1.2.1 dL_law_40 (by omega) (by omega) (by rw [h9]; rfl) (by decide) ?_
        exact lc_odds hst S hZ hX hbl hbA hL hi hR hJ hlen X hl kk
      ·
        refine lv_tableIn (tgt := 1128) S.1.1 S.1.2.1 dL_law_40 (by omega) (by omega) (by rw [h9]; rfl) (by decide) ?_
        exact lc_log hst S hZ hX hbl hbA hL hi hR hJ hlen X hl kk
      ·
        refine lv_tableIn (tgt := 1153) S.1.1 S.1.2.1 dL_law_40 (by omega) (by omega) (by rw [h9]; rfl) (by decide) ?_
        exact lc_logged hst S hZ hX hbl hbA hL hi hR hJ hlen X hl kk
      ·
        refine lv_tableIn (tgt := 1178) S.1.1 S.1.2.1 dL_law_40 (by omega) (by omega) (by rw [h9]; rfl) (by decide) ?_
        exact lc_sentence hst S hZ hX hbl hbA hL hi hR hJ hlen X hl kk
      ·
        refine lv_tableIn (tgt := 1191) S.1.1 S.1.2.1 dL_law_40 (by omega) (by omega) (by rw [h9]; rfl) (by decide) ?_
        exact lc_said hst S hZ hX hbl hbA hL hi hR hJ hlen X hl kk
      ·
        refine lv_tableIn (tgt := 1216) S.1.1 S.1.2.1 dL_law_40 (by omega) (by omega) (by rw [h9]; rfl) (by decide) ?_
        exact lc_image hst S hZ hX hbl hbA hL hi hR hJ hlen X hl kk
      ·
        refine lv_tableIn (tgt := 1241) S.1.1 S.1.2.1 dL_law_40 (by omega) (by omega) (by rw [h9]; rfl) (by decide) ?_
        exact lc_restore hst S hZ hX hbl hbA hL hi hR hJ hlen X hl kk
      ·
        refine lv_tableIn (tgt := 1266) S.1.1 S.1.2.1 dL_law_40 (by omega) (by omega) (by rw [h9]; rfl) (by decide) ?_
        exact lc_count hst S hZ hX hbl hbA hL hi hR hJ hlen X hl kk
