def po_X12_bad_q (τ : Tau)  (a0 : Int32)   (r : Int32) (u : Tau) : Prop := Inv u ∧ Fr [(131, 15), (131, 16)] [] τ u ∧ R (0) (0) r ∧ (u 131 15 = a0 ∧ u 131 16 = τ 131 12)
set_option maxHeartbeats 4000000 in
set_option maxRecDepth 100000 in
theorem c_X12_bad_q (l : Launch) (G : Gx) (τ : Tau) (hI : Inv τ) (a0 : Int32) (h_a0 : R (-2147483648) (2147483647) a0) : Ci l G yX12_bad cX12_bad 2 (some .boolean) 0 0 [.ref (G.2.2.2.1 131), .int a0] τ (po_X12_bad_q τ  a0  ) := by
  unfold Ci
  refine C_of (own := RX12) (by decide) rfl (Nat.le_of_ble_eq_true rfl) ?_
  intro p e s m below meth c ls S hr hlk X hl
  have hl : lv_has ls 2 [(0, .ref (G.2.2.2.1 131)), (1, .int a0)] := hl
  obtain ⟨v1, z2⟩ : ∃ x, τ 131 12 = x := ⟨_, rfl⟩
  have r3 : R (0) (940) v1 := rd hI rfl z2
  refine r_aload_n S dX12_bad_0 rfl (lv_at hl 0 rfl) ?_
  refine r_iload_n S dX12_bad_1 rfl (lv_at hl 1 rfl) ?_
  refine r_put (K := 38) (ty := .int) S X (Nat.le_of_ble_eq_true rfl) rfl lk12_174_10 (fun _ => ⟨_, rfl, Nat.le_of_ble_eq_true rfl, rfl⟩) (fun _ _ _ h => by cases h; exact ⟨rfl, rfl⟩) rfl rfl dX12_bad_2 (fun t4 H lc M5 X6 => ?_)
  have I7 := Inv_mu hI M5 (R_any a0)
  have F8 : Fr [(131, 15), (131, 16)] [] τ t4 := Fr_mu Fr_rfl M5 (by decide)
  refine r_aload_n S dX12_bad_5 rfl (lv_at hl 0 rfl) ?_
  refine r_aload_n S dX12_bad_6 rfl (lv_at hl 0 rfl) ?_
  refine r_geti (K := 38) S X6 (Nat.le_of_ble_eq_true rfl) rfl lk12_151_10 (fun _ => ⟨_, rfl, rfl⟩) ((M5.2 131 12 (Or.inr (by decide))).trans z2) dX12_bad_7 ?_
  refine r_put (K := 38) (ty := .int) S X6 (Nat.le_of_ble_eq_true rfl) rfl lk12_177_10 (fun _ => ⟨_, rfl, Nat.le_of_ble_eq_true rfl, rfl⟩) (fun _ _ _ h => by cases h; exact ⟨rfl, rfl⟩) rfl rfl dX12_bad_10 (fun t9 H lc M10 X11 => ?_)
  have I12 := Inv_mu I7 M10 (R_any v1)
  have F13 : Fr [(131, 15), (131, 16)] [] τ t9 := Fr_mu F8 M10 (by decide)
  refine r_iconst S dX12_bad_13 (by decide) (fun v14 z15 => ?_)
  have r16 := R_eq z15
  exact r_ret S hr hlk X11 ⟨I12, F13, r16, ⟨((M10.2 131 15 (Or.inr (by decide))).trans M5.1), (M10.1.trans (rfl.symm.trans z2).symm)⟩⟩ (nr_bool (R_of (lo := 0) (hi := 1) r16 rfl)) dX12_bad_14
def po_X12_isWord_q (τ : Tau)    (bb : Nat → Int) (nb lm : Nat) (t : Tk) (wd0 : List Int) (r : Int32) (u : Tau) : Prop := u = τ ∧ R (0) (1) r ∧ (r.toInt = 1 ↔ t.1 = 1 ∧ wrd bb t = wd0)
set_option maxHeartbeats 4000000 in
set_option maxRecDepth 100000 in
theorem c_X12_isWord_q (l : Launch) (G : Gx) (τ : Tau) (hI : Inv τ) (a0 : Int64) (bb : Nat → Int) (nb lm : Nat) (t : Tk) (wd0 : List Int) (hT : MT bb nb lm τ t) (hy : a0.toInt = e256 wd0) (hw : lowL wd0) : Ci l G yX12_isWord cX12_isWord 3 (some .boolean) 0 0 [.ref (G.2.2.2.1 131), .long a0] τ (po_X12_isWord_q τ    bb nb lm t wd0) := by
  unfold Ci
  refine C_of (own := RX12) (by decide) rfl (Nat.le_of_ble_eq_true rfl) ?_
  intro p e s m below meth c ls S hr hlk X hl
  have hl : lv_has ls 3 [(0, .ref (G.2.2.2.1 131)), (1, .long a0)] := hl
  refine r_aload_n S dX12_isWord_0 rfl (lv_at hl 0 rfl) ?_
  refine r_getn (K := 38) S X (Nat.le_of_ble_eq_true rfl) rfl lk12_157_10 (fun _ => ⟨_, rfl, rfl⟩) dX12_isWord_1 (fun v1 z2 => ?_)
  have r3 : R (0) (4) v1 := rd hI rfl z2
  refine r_iconst S dX12_isWord_4 (by decide) (fun v4 z5 => ?_)
  have r6 := R_eq z5
  refine r_icmp_ne (tgt := 21) S dX12_isWord_5 (by decide) (fun c7 => ?_) (fun c7 => ?_)
  ·
    refine r_iconst S dX12_isWord_21 (by decide) (fun v8 z9 => ?_)
    have r10 := R_eq z9
    exact r_ret S hr hlk X ⟨rfl, (R_of r10 rfl), ⟨fun h => by exfalso; omega, fun h => absurd h.1 (by have q := MT_k hT; rw [z2] at q; omega)⟩⟩ (nr_bool (R_of (lo := 0) (hi := 1) r10 rfl)) dX12_isWord_22
  ·
    have r11 : R (1) (1) v1 := ⟨by omega, by omega⟩
    refine r_aload_n S dX12_isWord_8 rfl (lv_at hl 0 rfl) ?_
    refine r_getJ (K := 38) S X (Nat.le_of_ble_eq_true rfl) rfl lk12_170_10 (fun _ => ⟨_, rfl, rfl⟩) dX12_isWord_9 (fun j12 z13 => ?_)
    refine lv_lload_n S.1.1 S.1.2.1 dX12_isWord_12 rfl (lv_at hl 1 rfl) ?_
    refine r_lcmp S dX12_isWord_13 (fun v14 r15 e16 => ?_)
    refine r_if_ne (tgt := 21) S dX12_isWord_14 (by decide) (fun c17 => ?_) (fun c17 => ?_)
    ·
      refine r_iconst S dX12_isWord_21 (by decide) (fun v18 z19 => ?_)
      have r20 := R_eq z19
      exact r_ret S hr hlk X ⟨rfl, (R_of r20 rfl), ⟨fun h => by exfalso; omega, fun h => absurd (e16.mpr ((w256 (by rw [← z13]; exact (MT_low hT (show t.1 = 1 by have q := MT_k hT; rw [z2] at q; omega)).2) (MT_low hT (show t.1 = 1 by have q := MT_k hT; rw [z2] at q; omega)).1 hy hw).mpr h.2)) (by omega)⟩⟩ (nr_bool (R_of (lo := 0) (hi := 1) r20 rfl)) dX12_isWord_22
    ·
      have r21 : R (0) (0) v14 := ⟨by omega, by omega⟩
      refine r_iconst S dX12_isWord_17 (by decide) (fun v22 z23 => ?_)
      have r24 := R_eq z23
      refine r_goto (tgt := 22) S dX12_isWord_18 (by decide) ?_
      exact r_ret S hr hlk X ⟨rfl, (R_of r24 rfl), ⟨fun _ => ⟨(show t.1 = 1 by have q := MT_k hT; rw [z2] at q; omega), (w256 (by rw [← z13]; exact (MT_low hT (show t.1 = 1 by have q := MT_k hT; rw [z2] at q; omega)).2) (MT_low hT (show t.1 = 1 by have q := MT_k hT; rw [z2] at q; omega)).1 hy hw).mp (e16.mp (by omega))⟩, fun _ => by omega⟩⟩ (nr_bool (R_of (lo := 0) (hi := 1) r24 rfl)) dX12_isWord_22
def po_X12_isSign_q (τ : Tau)  (a0 : Int32)  (bb : Nat → Int) (nb lm : Nat) (t : Tk) (r : Int32) (u : Tau) : Prop := u = τ ∧ R (0) (1) r ∧ (r.toInt = 1 ↔ t.1 = 3 ∧ bb t.2.1 = a0.toInt)
set_option maxHeartbeats 4000000 in
set_option maxRecDepth 100000 in
theorem c_X12_isSign_q (l : Launch) (G : Gx) (τ : Tau) (hI : Inv τ) (a0 : Int32) (h_a0 : R (-2147483648) (2147483647) a0) (bb : Nat → Int) (nb lm : Nat) (t : Tk) (hT : MT bb nb lm τ t) : Ci l G yX12_isSign cX12_isSign 2 (some .boolean) 0 0 [.ref (G.2.2.2.1 131), .int a0] τ (po_X12_isSign_q τ  a0  bb nb lm t) := by
  unfold Ci
  refine C_of (own := RX12) (by decide) rfl (Nat.le_of_ble_eq_true rfl) ?_
  intro p e s m below meth c ls S hr hlk X hl
  have hl : lv_has ls 2 [(0, .ref (G.2.2.2.1 131)), (1, .int a0)] := hl
  refine r_aload_n S dX12_isSign_0 rfl (lv_at hl 0 rfl) ?_
  refine r_getn (K := 38) S X (Nat.le_of_ble_eq_true rfl) rfl lk12_157_10 (fun _ => ⟨_, rfl, rfl⟩) dX12_isSign_1 (fun v1 z2 => ?_)
  have r3 : R (0) (4) v1 := rd hI rfl z2
  refine r_iconst S dX12_isSign_4 (by decide) (fun v4 z5 => ?_)
  have r6 := R_eq z5
  refine r_icmp_ne (tgt := 20) S dX12_isSign_5 (by decide) (fun c7 => ?_) (fun c7 => ?_)
  ·
    refine r_iconst S dX12_isSign_20 (by decide) (fun v8 z9 => ?_)
    have r10 := R_eq z9
    exact r_ret S hr hlk X ⟨rfl, (R_of r10 rfl), ⟨fun h => by exfalso; omega, fun h => absurd h.1 (by have q := MT_k hT; rw [z2] at q; omega)⟩⟩ (nr_bool (R_of (lo := 0) (hi := 1) r10 rfl)) dX12_isSign_21
  ·
    have r11 : R (3) (3) v1 := ⟨by omega, by omega⟩
    refine r_aload_n S dX12_isSign_8 rfl (lv_at hl 0 rfl) ?_
    refine r_getn (K := 38) S X (Nat.le_of_ble_eq_true rfl) rfl lk12_167_10 (fun _ => ⟨_, rfl, rfl⟩) dX12_isSign_9 (fun v12 z13 => ?_)
    have r15 := R_any v12
    refine r_iload_n S dX12_isSign_12 rfl (lv_at hl 1 rfl) ?_
    refine r_icmp_ne (tgt := 20) S dX12_isSign_13 (by decide) (fun c16 => ?_) (fun c16 => ?_)
    ·
      refine r_iconst S dX12_isSign_20 (by decide) (fun v17 z18 => ?_)
      have r19 := R_eq z18
      exact r_ret S hr hlk X ⟨rfl, (R_of r19 rfl), ⟨fun h => by exfalso; omega, fun h => absurd h.2 (by rw [← (MT_sgn hT (show t.1 = 3 by have q := MT_k hT; rw [z2] at q; omega)), z13]; omega)⟩⟩ (nr_bool (R_of (lo := 0) (hi := 1) r19 rfl)) dX12_isSign_21
    ·
      refine r_iconst S dX12_isSign_16 (by decide) (fun v20 z21 => ?_)
      have r22 := R_eq z21
      refine r_goto (tgt := 21) S dX12_isSign_17 (by decide) ?_
      exact r_ret S hr hlk X ⟨rfl, (R_of r22 rfl), ⟨fun _ => ⟨(show t.1 = 3 by have q := MT_k hT; rw [z2] at q; omega), by rw [← (MT_sgn hT (show t.1 = 3 by have q := MT_k hT; rw [z2] at q; omega)), z13]; omega⟩, fun _ => by omega⟩⟩ (nr_bool (R_of (lo := 0) (hi := 1) r22 rfl)) dX12_isSign_21
def po_X12_isName_q (τ : Tau)    (bb : Nat → Int) (nb lm : Nat) (t : Tk) (r : Int32) (u : Tau) : Prop := u = τ ∧ R (0) (1) r ∧ (r.toInt = 1 ↔ isN bb t)
set_option maxHeartbeats 4000000 in
set_option maxRecDepth 100000 in
theorem c_X12_isName_q (l : Launch) (G : Gx) (τ : Tau) (hI : Inv τ) (bb : Nat → Int) (nb lm : Nat) (t : Tk) (hT : MT bb nb lm τ t) (hS : RS τ) : Ci l G yX12_isName cX12_isName 3 (some .boolean) 0 0 [.ref (G.2.2.2.1 131)] τ (po_X12_isName_q τ    bb nb lm t) := by
  unfold Ci
  refine C_of (own := RX12) (by decide) rfl (Nat.le_of_ble_eq_true rfl) ?_
  intro p e s m below meth c ls S hr hlk X hl
  have hl : lv_has ls 3 [(0, .ref (G.2.2.2.1 131))] := hl
  refine r_aload_n S dX12_isName_0 rfl (lv_at hl 0 rfl) ?_
  refine r_getn (K := 38) S X (Nat.le_of_ble_eq_true rfl) rfl lk12_157_10 (fun _ => ⟨_, rfl, rfl⟩) dX12_isName_1 (fun v1 z2 => ?_)
  have r3 : R (0) (4) v1 := rd hI rfl z2
  refine r_iconst S dX12_isName_4 (by decide) (fun v4 z5 => ?_)
  have r6 := R_eq z5
  refine r_icmp_ne (tgt := 12) S dX12_isName_5 (by decide) (fun c7 => ?_) (fun c7 => ?_)
  ·
    refine r_iconst S dX12_isName_12 (by decide) (fun v8 z9 => ?_)
    have r10 := R_eq z9
    refine r_istore_n (lv' := [(1, .int v8), (0, .ref (G.2.2.2.1 131))]) S dX12_isName_13 rfl hl (by decide) rfl (fun ls hl => ?_)
    refine r_iconst S dX12_isName_14 (by decide) (fun v11 z12 => ?_)
    have r13 := R_eq z12
    refine r_istore_n (lv' := [(2, .int v11), (1, .int v8), (0, .ref (G.2.2.2.1 131))]) S dX12_isName_15 rfl hl (by decide) rfl (fun ls hl => ?_)
    have L211 : ∀ (n : Nat) (H : Heap) (lc : List Loc) (ls : Array Slot) (i206 : Int32) (i208 : Int32), Xd G s H lc τ → R (0) (0) i206 → R (0) (24) i208 → ((i206).toInt = 1 → t.1 = 1 ∧ ∀ j, j < (i208).toInt.toNat → kwm.getD j [] ≠ wrd bb t) → ((i206).toInt = 0 → ¬ isN bb t) → lv_has ls 3 [(0, .ref (G.2.2.2.1 131)), (1, .int i206), (2, .int i208)] → (24 - i208.toInt).toNat < n → W p l e (Rm 0 0) s m ([.ref (G.2.2.2.1 131)] : List Value).toArray below meth c H lc 0 0 (MQ below (va_Qi (po_X12_isName_q τ    bb nb lm t) (Bs G) G.2.2.2.2) ([.ref (G.2.2.2.1 131)] : List Value).toArray s 0 0 G.2.2.2.2) (F0 m 16 ls []) := by
      intro n
      induction n with
      | zero => intros; omega
      | succ n ih214 =>
        intro H lc ls i206 i208 X210 r207 r209 x212 x213 hl hm
        refine r_iload_n S dX12_isName_16 rfl (lv_at hl 2 rfl) ?_
        refine r_bipush S dX12_isName_17 (by decide) (fun v215 z216 => ?_)
        have r217 := R_eq z216
        refine r_icmp_ge (tgt := 52) S dX12_isName_19 (by decide) (fun c218 => ?_) (fun c218 => ?_)
        ·
          have r219 : R (24) (24) i208 := ⟨by omega, by omega⟩
          refine r_iload_n S dX12_isName_52 rfl (lv_at hl 1 rfl) ?_
          exact r_ret S hr hlk X210 ⟨rfl, (R_of r207 rfl), ⟨fun h => ⟨(x212 h).1, kwm_not (fun j hj => (x212 h).2 j (by omega))⟩, fun h => (show i206.toInt = 0 ∨ i206.toInt = 1 by omega).elim (fun q => absurd h (x213 q)) (fun q => q)⟩⟩ (nr_bool (R_of (lo := 0) (hi := 1) r207 rfl)) dX12_isName_53
        ·
          have r220 : R (0) (23) i208 := ⟨by omega, by omega⟩
          refine r_iload_n S dX12_isName_22 rfl (lv_at hl 1 rfl) ?_
          refine r_if_eq (tgt := 44) S dX12_isName_23 (by decide) (fun c221 => ?_) (fun c221 => ?_)
          ·
            refine r_iconst S dX12_isName_44 (by decide) (fun v222 z223 => ?_)
            have r224 := R_eq z223
            refine r_istore_n (lv' := [(1, .int v222), (0, .ref (G.2.2.2.1 131)), (2, .int i208)]) S dX12_isName_45 rfl hl (by decide) rfl (fun ls hl => ?_)
            refine r_iinc (k := 2) S dX12_isName_46 hl rfl (by decide) (by decide) (fun v225 d226 ls z227 z228 hl => ?_)
            obtain ⟨e229, r230⟩ := i_add (lo := 1) (hi := 24) z227 r220 (R_eq z228) rfl
            have hl : lv_has ls 3 [(2, .int v225), (1, .int v222), (0, .ref (G.2.2.2.1 131))] := hl
            refine r_goto (tgt := 16) S dX12_isName_49 (by decide) ?_
            exact ih214 _ _ _ v222 v225 X210 r224 (R_of r230 rfl) (fun h => by exfalso; omega) (fun _ => x213 (by omega)) (lv_sub hl [2, 1, 0] rfl) (by omega)
          ·
            exfalso; omega
    exact L211 _ _ _ _ v8 v11 X r10 (R_of r13 rfl) (fun h => by exfalso; omega) (fun _ h => by have q := MT_k hT; rw [z2] at q; have q2 := h.1; omega) (lv_sub hl [2, 1, 0] rfl) (Nat.lt_succ_self _)
  ·
    have r231 : R (1) (1) v1 := ⟨by omega, by omega⟩
    refine r_iconst S dX12_isName_8 (by decide) (fun v232 z233 => ?_)
    have r234 := R_eq z233
    refine r_goto (tgt := 13) S dX12_isName_9 (by decide) ?_
    refine r_istore_n (lv' := [(1, .int v232), (0, .ref (G.2.2.2.1 131))]) S dX12_isName_13 rfl hl (by decide) rfl (fun ls hl => ?_)
    refine r_iconst S dX12_isName_14 (by decide) (fun v235 z236 => ?_)
    have r237 := R_eq z236
    refine r_istore_n (lv' := [(2, .int v235), (1, .int v232), (0, .ref (G.2.2.2.1 131))]) S dX12_isName_15 rfl hl (by decide) rfl (fun ls hl => ?_)
    have L714 : ∀ (n : Nat) (H : Heap) (lc : List Loc) (ls : Array Slot) (i709 : Int32) (i711 : Int32), Xd G s H lc τ → R (0) (1) i709 → R (0) (24) i711 → ((i709).toInt = 1 → t.1 = 1 ∧ ∀ j, j < (i711).toInt.toNat → kwm.getD j [] ≠ wrd bb t) → ((i709).toInt = 0 → ¬ isN bb t) → lv_has ls 3 [(0, .ref (G.2.2.2.1 131)), (1, .int i709), (2, .int i711)] → (24 - i711.toInt).toNat < n → W p l e (Rm 0 0) s m ([.ref (G.2.2.2.1 131)] : List Value).toArray below meth c H lc 0 0 (MQ below (va_Qi (po_X12_isName_q τ    bb nb lm t) (Bs G) G.2.2.2.2) ([.ref (G.2.2.2.1 131)] : List Value).toArray s 0 0 G.2.2.2.2) (F0 m 16 ls []) := by
      intro n
      induction n with
      | zero => intros; omega
      | succ n ih717 =>
        intro H lc ls i709 i711 X713 r710 r712 x715 x716 hl hm
        refine r_iload_n S dX12_isName_16 rfl (lv_at hl 2 rfl) ?_
        refine r_bipush S dX12_isName_17 (by decide) (fun v718 z719 => ?_)
        have r720 := R_eq z719
        refine r_icmp_ge (tgt := 52) S dX12_isName_19 (by decide) (fun c721 => ?_) (fun c721 => ?_)
        ·
          have r722 : R (24) (24) i711 := ⟨by omega, by omega⟩
          refine r_iload_n S dX12_isName_52 rfl (lv_at hl 1 rfl) ?_
          exact r_ret S hr hlk X713 ⟨rfl, r710, ⟨fun h => ⟨(x715 h).1, kwm_not (fun j hj => (x715 h).2 j (by omega))⟩, fun h => (show i709.toInt = 0 ∨ i709.toInt = 1 by omega).elim (fun q => absurd h (x716 q)) (fun q => q)⟩⟩ (nr_bool (R_of (lo := 0) (hi := 1) r710 rfl)) dX12_isName_53
        ·
          have r723 : R (0) (23) i711 := ⟨by omega, by omega⟩
          refine r_iload_n S dX12_isName_22 rfl (lv_at hl 1 rfl) ?_
          refine r_if_eq (tgt := 44) S dX12_isName_23 (by decide) (fun c724 => ?_) (fun c724 => ?_)
          ·
            have r725 : R (0) (0) i709 := ⟨by omega, by omega⟩
            refine r_iconst S dX12_isName_44 (by decide) (fun v726 z727 => ?_)
            have r728 := R_eq z727
            refine r_istore_n (lv' := [(1, .int v726), (0, .ref (G.2.2.2.1 131)), (2, .int i711)]) S dX12_isName_45 rfl hl (by decide) rfl (fun ls hl => ?_)
            refine r_iinc (k := 2) S dX12_isName_46 hl rfl (by decide) (by decide) (fun v729 d730 ls z731 z732 hl => ?_)
            obtain ⟨e733, r734⟩ := i_add (lo := 1) (hi := 24) z731 r723 (R_eq z732) rfl
            have hl : lv_has ls 3 [(2, .int v729), (1, .int v726), (0, .ref (G.2.2.2.1 131))] := hl
            refine r_goto (tgt := 16) S dX12_isName_49 (by decide) ?_
            exact ih717 _ _ _ v726 v729 X713 (R_of r728 rfl) (R_of r734 rfl) (fun h => by exfalso; omega) (fun _ => x716 (by omega)) (lv_sub hl [2, 1, 0] rfl) (by omega)
          ·
            have r735 : R (1) (1) i709 := ⟨by omega, by omega⟩
            refine r_aload_n S dX12_isName_26 rfl (lv_at hl 0 rfl) ?_
            refine r_getJ (K := 38) S X713 (Nat.le_of_ble_eq_true rfl) rfl lk12_170_10 (fun _ => ⟨_, rfl, rfl⟩) dX12_isName_27 (fun j736 z737 => ?_)
            refine r_aload_n S dX12_isName_30 rfl (lv_at hl 0 rfl) ?_
            refine r_get (K := 38) (v := .ref (G.2.2.2.1 137)) S X713 (Nat.le_of_ble_eq_true rfl) rfl lk12_47_10 (fun _ => ⟨_, rfl, rfl⟩) dX12_isName_31 ?_
            refine r_iload_n S dX12_isName_34 rfl (lv_at hl 2 rfl) ?_
            refine r_lald (n := 24) (K := 44) S X713 (Nat.le_of_ble_eq_true rfl) rfl (fun _ => rfl) (ix_of r723 rfl) dX12_isName_35 (fun j738 z739 => ?_)
            refine r_lcmp S dX12_isName_36 (fun v740 r741 e742 => ?_)
            refine r_if_eq (tgt := 44) S dX12_isName_37 (by decide) (fun c743 => ?_) (fun c743 => ?_)
            ·
              have r744 : R (0) (0) v740 := ⟨by omega, by omega⟩
              refine r_iconst S dX12_isName_44 (by decide) (fun v745 z746 => ?_)
              have r747 := R_eq z746
              refine r_istore_n (lv' := [(1, .int v745), (0, .ref (G.2.2.2.1 131)), (2, .int i711)]) S dX12_isName_45 rfl hl (by decide) rfl (fun ls hl => ?_)
              refine r_iinc (k := 2) S dX12_isName_46 hl rfl (by decide) (by decide) (fun v748 d749 ls z750 z751 hl => ?_)
              obtain ⟨e752, r753⟩ := i_add (lo := 1) (hi := 24) z750 r723 (R_eq z751) rfl
              have hl : lv_has ls 3 [(2, .int v748), (1, .int v745), (0, .ref (G.2.2.2.1 131))] := hl
              refine r_goto (tgt := 16) S dX12_isName_49 (by decide) ?_
              exact ih717 _ _ _ v745 v748 X713 (R_of r747 rfl) (R_of r753 rfl) (fun h => by exfalso; omega) (fun _ h => h.2 (kwm_in (i := i711.toInt.toNat) (by omega) ((w256 (by rw [← z737]; exact (MT_low hT (x715 (by omega)).1).2) (MT_low hT (x715 (by omega)).1).1 (by rw [← z739]; exact hS _ (by have c : i711.toNatClampNeg = i711.toInt.toNat := rfl; omega)) (kwm_at (i := i711.toInt.toNat) (by omega))).mp (e742.mp (by omega))).symm)) (lv_sub hl [2, 1, 0] rfl) (by omega)
            ·
              refine r_iconst S dX12_isName_40 (by decide) (fun v754 z755 => ?_)
              have r756 := R_eq z755
              refine r_goto (tgt := 45) S dX12_isName_41 (by decide) ?_
              refine r_istore_n (lv' := [(1, .int v754), (0, .ref (G.2.2.2.1 131)), (2, .int i711)]) S dX12_isName_45 rfl hl (by decide) rfl (fun ls hl => ?_)
              refine r_iinc (k := 2) S dX12_isName_46 hl rfl (by decide) (by decide) (fun v757 d758 ls z759 z760 hl => ?_)
              obtain ⟨e761, r762⟩ := i_add (lo := 1) (hi := 24) z759 r723 (R_eq z760) rfl
              have hl : lv_has ls 3 [(2, .int v757), (1, .int v754), (0, .ref (G.2.2.2.1 131))] := hl
              refine r_goto (tgt := 16) S dX12_isName_49 (by decide) ?_
              exact ih717 _ _ _ v754 v757 X713 (R_of r756 rfl) (R_of r762 rfl) (fun _ => isn_up (i := i711) (x715 (by omega)) (fun h => absurd (e742.mpr ((w256 (by rw [← z737]; exact (MT_low hT (x715 (by omega)).1).2) (MT_low hT (x715 (by omega)).1).1 (by rw [← z739]; exact hS _ (by have c : i711.toNatClampNeg = i711.toInt.toNat := rfl; omega)) (kwm_at (i := i711.toInt.toNat) (by omega))).mpr h.symm)) (by omega)) (by omega) (by omega)) (fun h => by exfalso; omega) (lv_sub hl [2, 1, 0] rfl) (by omega)
    exact L714 _ _ _ _ v232 v235 X (R_of r234 rfl) (R_of r237 rfl) (fun _ => ⟨by have q := MT_k hT; rw [z2] at q; omega, fun j hj => by exfalso; omega⟩) (fun h => by exfalso; omega) (lv_sub hl [2, 1, 0] rfl) (Nat.lt_succ_self _)
def po_X12_find_qa (τ : Tau)  (a0 a1 : Int32)  (ns : List (List Int)) (wd0 : List Int) (r : Int32) (u : Tau) : Prop := u = τ ∧ R (-1) (8) r ∧ r.toInt = fnd ns wd0
set_option maxHeartbeats 4000000 in
set_option maxRecDepth 100000 in
theorem c_X12_find_qa (l : Launch) (G : Gx) (τ : Tau) (hI : Inv τ) (a0 : Int32) (a1 : Int32) (h_a0 : R (19) (19) a0) (h_a1 : R (0) (9) a1) (ns : List (List Int)) (wd0 : List Int) (hn : a1.toInt = ns.length) (hq : ∀ i, i < ns.length → (qof τ 136 (19 + i)).toInt = e256 (ns.getD i [])) (hls : ∀ l ∈ ns, lowL l) (hy : (qof τ 131 17).toInt = e256 wd0) (hw : lowL wd0) : Ci l G yX12_find cX12_find 4 (some .int) 0 0 [.ref (G.2.2.2.1 131), .int a0, .int a1] τ (po_X12_find_qa τ  a0 a1  ns wd0) := by
  unfold Ci
  refine C_of (own := RX12) (by decide) rfl (Nat.le_of_ble_eq_true rfl) ?_
  intro p e s m below meth c ls S hr hlk X hl
  have hl : lv_has ls 4 [(0, .ref (G.2.2.2.1 131)), (1, .int a0), (2, .int a1)] := hl
  refine r_iconst S dX12_find_0 (by decide) (fun v1 z2 => ?_)
  have r3 := R_eq z2
  refine r_istore_n (lv' := [(3, .int v1), (0, .ref (G.2.2.2.1 131)), (1, .int a0), (2, .int a1)]) S dX12_find_1 rfl hl (by decide) rfl (fun ls hl => ?_)
  have L157 : ∀ (n : Nat) (H : Heap) (lc : List Loc) (ls : Array Slot) (i154 : Int32), Xd G s H lc τ → R (0) (9) i154 → (∀ k, k < (i154).toInt.toNat → ns.getD k [] ≠ wd0) → lv_has ls 4 [(0, .ref (G.2.2.2.1 131)), (1, .int a0), (2, .int a1), (3, .int i154)] → (9 - i154.toInt).toNat < n → W p l e (Rm 0 0) s m ([.ref (G.2.2.2.1 131), .int a0, .int a1] : List Value).toArray below meth c H lc 0 0 (MQ below (va_Qi (po_X12_find_qa τ  a0 a1  ns wd0) (Bs G) G.2.2.2.2) ([.ref (G.2.2.2.1 131), .int a0, .int a1] : List Value).toArray s 0 0 G.2.2.2.2) (F0 m 2 ls []) := by
    intro n
    induction n with
    | zero => intros; omega
    | succ n ih159 =>
      intro H lc ls i154 X156 r155 x158 hl hm
      refine r_iload_n S dX12_find_2 rfl (lv_at hl 3 rfl) ?_
      refine r_iload_n S dX12_find_3 rfl (lv_at hl 2 rfl) ?_
      refine r_icmp_ge (tgt := 31) S dX12_find_4 (by decide) (fun c160 => ?_) (fun c160 => ?_)
      ·
        refine r_iconst S dX12_find_31 (by decide) (fun v161 z162 => ?_)
        have r163 := R_eq z162
        exact r_ret S hr hlk X156 ⟨rfl, (R_of r163 rfl), (by rw [fnd_no (fun j hj => x158 j (by omega))]; omega)⟩ rfl dX12_find_32
      ·
        have r164 : R (0) (8) i154 := ⟨by omega, by omega⟩
        have r165 : R (1) (9) a1 := ⟨by omega, by omega⟩
        refine r_aload_n S dX12_find_7 rfl (lv_at hl 0 rfl) ?_
        refine r_get (K := 38) (v := .ref (G.2.2.2.1 136)) S X156 (Nat.le_of_ble_eq_true rfl) rfl lk12_43_10 (fun _ => ⟨_, rfl, rfl⟩) dX12_find_8 ?_
        refine r_iload_n S dX12_find_11 rfl (lv_at hl 1 rfl) ?_
        refine r_iload_n S dX12_find_12 rfl (lv_at hl 3 rfl) ?_
        refine r_iadd S dX12_find_13 (fun v166 z167 => ?_)
        obtain ⟨e168, r169⟩ := i_add (lo := 19) (hi := 27) z167 h_a0 r164 rfl
        refine r_lald (n := 38) (K := 43) S X156 (Nat.le_of_ble_eq_true rfl) rfl (fun _ => rfl) (ix_of r169 rfl) dX12_find_14 (fun j170 z171 => ?_)
        refine r_aload_n S dX12_find_15 rfl (lv_at hl 0 rfl) ?_
        refine r_getJ (K := 38) S X156 (Nat.le_of_ble_eq_true rfl) rfl lk12_170_10 (fun _ => ⟨_, rfl, rfl⟩) dX12_find_16 (fun j172 z173 => ?_)
        refine r_lcmp S dX12_find_19 (fun v174 r175 e176 => ?_)
        refine r_if_ne (tgt := 25) S dX12_find_20 (by decide) (fun c177 => ?_) (fun c177 => ?_)
        ·
          refine r_iinc (k := 3) S dX12_find_25 hl rfl (by decide) (by decide) (fun v178 d179 ls z180 z181 hl => ?_)
          obtain ⟨e182, r183⟩ := i_add (lo := 1) (hi := 9) z180 r164 (R_eq z181) rfl
          have hl : lv_has ls 4 [(3, .int v178), (0, .ref (G.2.2.2.1 131)), (1, .int a0), (2, .int a1)] := hl
          refine r_goto (tgt := 2) S dX12_find_28 (by decide) ?_
          exact ih159 _ _ _ v178 X156 (R_of r183 rfl) (up_ne (i := i154) x158 (fun h => absurd (e176.mpr ((w256 (by rw [← z171, show v166.toNatClampNeg = 19 + i154.toInt.toNat by (have c : v166.toNatClampNeg = v166.toInt.toNat := rfl; omega)]; exact hq _ (by omega)) (ns_low hls (i := i154.toInt.toNat) (by omega)) (by rw [← z173]; exact hy) hw).mpr h)) (by omega)) (by omega) (by omega)) (lv_sub hl [1, 2, 3, 0] rfl) (by omega)
        ·
          have r184 : R (0) (0) v174 := ⟨by omega, by omega⟩
          refine r_iload_n S dX12_find_23 rfl (lv_at hl 3 rfl) ?_
          exact r_ret S hr hlk X156 ⟨rfl, (R_of r164 rfl), (by rw [fnd_at (i := i154.toInt.toNat) (by omega) ((w256 (by rw [← z171, show v166.toNatClampNeg = 19 + i154.toInt.toNat by (have c : v166.toNatClampNeg = v166.toInt.toNat := rfl; omega)]; exact hq _ (by omega)) (ns_low hls (i := i154.toInt.toNat) (by omega)) (by rw [← z173]; exact hy) hw).mp (e176.mp (by omega))) x158]; omega)⟩ rfl dX12_find_24
  exact L157 _ _ _ _ v1 X (R_of r3 rfl) (fun k h => by exfalso; omega) (lv_sub hl [1, 2, 3, 0] rfl) (Nat.lt_succ_self _)
def po_X12_find_qm (τ : Tau)  (a0 a1 : Int32)  (ns : List (List Int)) (wd0 : List Int) (r : Int32) (u : Tau) : Prop := u = τ ∧ R (-1) (9) r ∧ r.toInt = fnd ns wd0
set_option maxHeartbeats 4000000 in
set_option maxRecDepth 100000 in
theorem c_X12_find_qm (l : Launch) (G : Gx) (τ : Tau) (hI : Inv τ) (a0 : Int32) (a1 : Int32) (h_a0 : R (28) (28) a0) (h_a1 : R (0) (10) a1) (ns : List (List Int)) (wd0 : List Int) (hn : a1.toInt = ns.length) (hq : ∀ i, i < ns.length → (qof τ 136 (28 + i)).toInt = e256 (ns.getD i [])) (hls : ∀ l ∈ ns, lowL l) (hy : (qof τ 131 17).toInt = e256 wd0) (hw : lowL wd0) : Ci l G yX12_find cX12_find 4 (some .int) 0 0 [.ref (G.2.2.2.1 131), .int a0, .int a1] τ (po_X12_find_qm τ  a0 a1  ns wd0) := by
  unfold Ci
  refine C_of (own := RX12) (by decide) rfl (Nat.le_of_ble_eq_true rfl) ?_
  intro p e s m below meth c ls S hr hlk X hl
  have hl : lv_has ls 4 [(0, .ref (G.2.2.2.1 131)), (1, .int a0), (2, .int a1)] := hl
  refine r_iconst S dX12_find_0 (by decide) (fun v1 z2 => ?_)
  have r3 := R_eq z2
  refine r_istore_n (lv' := [(3, .int v1), (0, .ref (G.2.2.2.1 131)), (1, .int a0), (2, .int a1)]) S dX12_find_1 rfl hl (by decide) rfl (fun ls hl => ?_)
  have L182 : ∀ (n : Nat) (H : Heap) (lc : List Loc) (ls : Array Slot) (i179 : Int32), Xd G s H lc τ → R (0) (10) i179 → (∀ k, k < (i179).toInt.toNat → ns.getD k [] ≠ wd0) → lv_has ls 4 [(0, .ref (G.2.2.2.1 131)), (1, .int a0), (2, .int a1), (3, .int i179)] → (10 - i179.toInt).toNat < n → W p l e (Rm 0 0) s m ([.ref (G.2.2.2.1 131), .int a0, .int a1] : List Value).toArray below meth c H lc 0 0 (MQ below (va_Qi (po_X12_find_qm τ  a0 a1  ns wd0) (Bs G) G.2.2.2.2) ([.ref (G.2.2.2.1 131), .int a0, .int a1] : List Value).toArray s 0 0 G.2.2.2.2) (F0 m 2 ls []) := by
    intro n
    induction n with
    | zero => intros; omega
    | succ n ih184 =>
      intro H lc ls i179 X181 r180 x183 hl hm
      refine r_iload_n S dX12_find_2 rfl (lv_at hl 3 rfl) ?_
      refine r_iload_n S dX12_find_3 rfl (lv_at hl 2 rfl) ?_
      refine r_icmp_ge (tgt := 31) S dX12_find_4 (by decide) (fun c185 => ?_) (fun c185 => ?_)
      ·
        refine r_iconst S dX12_find_31 (by decide) (fun v186 z187 => ?_)
        have r188 := R_eq z187
        exact r_ret S hr hlk X181 ⟨rfl, (R_of r188 rfl), (by rw [fnd_no (fun j hj => x183 j (by omega))]; omega)⟩ rfl dX12_find_32
      ·
        have r189 : R (0) (9) i179 := ⟨by omega, by omega⟩
        have r190 : R (1) (10) a1 := ⟨by omega, by omega⟩
        refine r_aload_n S dX12_find_7 rfl (lv_at hl 0 rfl) ?_
        refine r_get (K := 38) (v := .ref (G.2.2.2.1 136)) S X181 (Nat.le_of_ble_eq_true rfl) rfl lk12_43_10 (fun _ => ⟨_, rfl, rfl⟩) dX12_find_8 ?_
        refine r_iload_n S dX12_find_11 rfl (lv_at hl 1 rfl) ?_
        refine r_iload_n S dX12_find_12 rfl (lv_at hl 3 rfl) ?_
        refine r_iadd S dX12_find_13 (fun v191 z192 => ?_)
        obtain ⟨e193, r194⟩ := i_add (lo := 28) (hi := 37) z192 h_a0 r189 rfl
        refine r_lald (n := 38) (K := 43) S X181 (Nat.le_of_ble_eq_true rfl) rfl (fun _ => rfl) (ix_of r194 rfl) dX12_find_14 (fun j195 z196 => ?_)
        refine r_aload_n S dX12_find_15 rfl (lv_at hl 0 rfl) ?_
        refine r_getJ (K := 38) S X181 (Nat.le_of_ble_eq_true rfl) rfl lk12_170_10 (fun _ => ⟨_, rfl, rfl⟩) dX12_find_16 (fun j197 z198 => ?_)
        refine r_lcmp S dX12_find_19 (fun v199 r200 e201 => ?_)
        refine r_if_ne (tgt := 25) S dX12_find_20 (by decide) (fun c202 => ?_) (fun c202 => ?_)
        ·
          refine r_iinc (k := 3) S dX12_find_25 hl rfl (by decide) (by decide) (fun v203 d204 ls z205 z206 hl => ?_)
          obtain ⟨e207, r208⟩ := i_add (lo := 1) (hi := 10) z205 r189 (R_eq z206) rfl
          have hl : lv_has ls 4 [(3, .int v203), (0, .ref (G.2.2.2.1 131)), (1, .int a0), (2, .int a1)] := hl
          refine r_goto (tgt := 2) S dX12_find_28 (by decide) ?_
          exact ih184 _ _ _ v203 X181 (R_of r208 rfl) (up_ne (i := i179) x183 (fun h => absurd (e201.mpr ((w256 (by rw [← z196, show v191.toNatClampNeg = 28 + i179.toInt.toNat by (have c : v191.toNatClampNeg = v191.toInt.toNat := rfl; omega)]; exact hq _ (by omega)) (ns_low hls (i := i179.toInt.toNat) (by omega)) (by rw [← z198]; exact hy) hw).mpr h)) (by omega)) (by omega) (by omega)) (lv_sub hl [1, 2, 3, 0] rfl) (by omega)
        ·
          have r209 : R (0) (0) v199 := ⟨by omega, by omega⟩
          refine r_iload_n S dX12_find_23 rfl (lv_at hl 3 rfl) ?_
          exact r_ret S hr hlk X181 ⟨rfl, (R_of r189 rfl), (by rw [fnd_at (i := i179.toInt.toNat) (by omega) ((w256 (by rw [← z196, show v191.toNatClampNeg = 28 + i179.toInt.toNat by (have c : v191.toNatClampNeg = v191.toInt.toNat := rfl; omega)]; exact hq _ (by omega)) (ns_low hls (i := i179.toInt.toNat) (by omega)) (by rw [← z198]; exact hy) hw).mp (e201.mp (by omega))) x183]; omega)⟩ rfl dX12_find_24
  exact L182 _ _ _ _ v1 X (R_of r3 rfl) (fun k h => by exfalso; omega) (lv_sub hl [1, 2, 3, 0] rfl) (Nat.lt_succ_self _)
def po_X12_isIn_q (τ : Tau)  (a0 a1 a2 : Int32)   (r : Int32) (u : Tau) : Prop := u = τ ∧ R (0) (1) r ∧ (r.toInt = 1 ↔ a1.toInt ≤ a0.toInt ∧ a0.toInt ≤ a2.toInt)
set_option maxHeartbeats 4000000 in
set_option maxRecDepth 100000 in
theorem c_X12_isIn_q (l : Launch) (G : Gx) (τ : Tau) (hI : Inv τ) (a0 : Int32) (a1 : Int32) (a2 : Int32) (h_a0 : R (-2147483648) (2147483647) a0) (h_a1 : R (-2147483648) (2147483647) a1) (h_a2 : R (-2147483648) (2147483647) a2) : Ci l G yX12_isIn cX12_isIn 3 (some .boolean) 0 0 [.int a0, .int a1, .int a2] τ (po_X12_isIn_q τ  a0 a1 a2  ) := by
  unfold Ci
  refine C_of (own := RX12) (by decide) rfl (Nat.le_of_ble_eq_true rfl) ?_
  intro p e s m below meth c ls S hr hlk X hl
  have hl : lv_has ls 3 [(0, .int a0), (1, .int a1), (2, .int a2)] := hl
  refine r_iload_n S dX12_isIn_0 rfl (lv_at hl 0 rfl) ?_
  refine r_iload_n S dX12_isIn_1 rfl (lv_at hl 1 rfl) ?_
  refine r_icmp_lt (tgt := 14) S dX12_isIn_2 (by decide) (fun c1 => ?_) (fun c1 => ?_)
  ·
    have r2 : R (-2147483648) (2147483646) a0 := ⟨by omega, by omega⟩
    have r3 : R (-2147483647) (2147483647) a1 := ⟨by omega, by omega⟩
    refine r_iconst S dX12_isIn_14 (by decide) (fun v4 z5 => ?_)
    have r6 := R_eq z5
    exact r_ret S hr hlk X ⟨rfl, (R_of r6 rfl), ⟨fun h => by omega, fun h => by omega⟩⟩ (nr_bool (R_of (lo := 0) (hi := 1) r6 rfl)) dX12_isIn_15
  ·
    refine r_iload_n S dX12_isIn_5 rfl (lv_at hl 0 rfl) ?_
    refine r_iload_n S dX12_isIn_6 rfl (lv_at hl 2 rfl) ?_
    refine r_icmp_gt (tgt := 14) S dX12_isIn_7 (by decide) (fun c7 => ?_) (fun c7 => ?_)
    ·
      have r8 : R (-2147483648) (2147483646) a2 := ⟨by omega, by omega⟩
      have r9 : R (-2147483647) (2147483647) a0 := ⟨by omega, by omega⟩
      refine r_iconst S dX12_isIn_14 (by decide) (fun v10 z11 => ?_)
      have r12 := R_eq z11
      exact r_ret S hr hlk X ⟨rfl, (R_of r12 rfl), ⟨fun h => by omega, fun h => by omega⟩⟩ (nr_bool (R_of (lo := 0) (hi := 1) r12 rfl)) dX12_isIn_15
    ·
      refine r_iconst S dX12_isIn_10 (by decide) (fun v13 z14 => ?_)
      have r15 := R_eq z14
      refine r_goto (tgt := 15) S dX12_isIn_11 (by decide) ?_
      exact r_ret S hr hlk X ⟨rfl, (R_of r15 rfl), ⟨fun h => by omega, fun h => by omega⟩⟩ (nr_bool (R_of (lo := 0) (hi := 1) r15 rfl)) dX12_isIn_15
