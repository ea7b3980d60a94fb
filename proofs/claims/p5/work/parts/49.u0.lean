def po_X12_find_wa (τ : Tau)  (a0 a1 : Int32)  (ns : List (List Int)) (wd0 : List Int) (r : Int32) (u : Tau) : Prop := u = τ ∧ R (-1) (8) r ∧ r.toInt = fnd ns wd0
set_option maxHeartbeats 4000000 in
set_option maxRecDepth 100000 in
theorem c_X12_find_wa (l : Launch) (G : Gx) (τ : Tau) (hI : Inv τ) (a0 : Int32) (a1 : Int32) (h_a0 : R (0) (0) a0) (h_a1 : R (0) (9) a1) (ns : List (List Int)) (wd0 : List Int) (hn : a1.toInt = ns.length) (hq : ∀ i, i < ns.length → (qof τ 136 (0 + i)).toInt = e256 (ns.getD i [])) (hls : ∀ l ∈ ns, lowL l) (hy : (qof τ 131 17).toInt = e256 wd0) (hw : lowL wd0) : Ci l G yX12_find cX12_find 4 (some .int) 0 0 [.ref (G.2.2.2.1 131), .int a0, .int a1] τ (po_X12_find_wa τ  a0 a1  ns wd0) := by
  unfold Ci
  refine C_of (own := RX12) (by decide) rfl (Nat.le_of_ble_eq_true rfl) ?_
  intro p e s m below meth c ls S hr hlk X hl
  have hl : lv_has ls 4 [(0, .ref (G.2.2.2.1 131)), (1, .int a0), (2, .int a1)] := hl
  refine r_iconst S dX12_find_0 (by decide) (fun v1 z2 => ?_)
  have r3 := R_eq z2
  refine r_istore_n (lv' := [(3, .int v1), (0, .ref (G.2.2.2.1 131)), (1, .int a0), (2, .int a1)]) S dX12_find_1 rfl hl (by decide) rfl (fun ls hl => ?_)
  have L157 : ∀ (n : Nat) (H : Heap) (lc : List Loc) (ls : Array Slot) (i154 : Int32), Xd G s H lc τ → R (0) (9) i154 → (∀ k, k < (i154).toInt.toNat → ns.getD k [] ≠ wd0) → lv_has ls 4 [(0, .ref (G.2.2.2.1 131)), (1, .int a0), (2, .int a1), (3, .int i154)] → (9 - i154.toInt).toNat < n → W p l e (Rm 0 0) s m ([.ref (G.2.2.2.1 131), .int a0, .int a1] : List Value).toArray below meth c H lc 0 0 (MQ below (va_Qi (po_X12_find_wa τ  a0 a1  ns wd0) (Bs G) G.2.2.2.2) ([.ref (G.2.2.2.1 131), .int a0, .int a1] : List Value).toArray s 0 0 G.2.2.2.2) (F0 m 2 ls []) := by
    intro n
    induction n with
    | zero => intros; omega
    | succ n ih159 =>
      intro H lc ls i154 X156 r155 x158 hl hm
      refine r_iload_n S dX12_find_2 rfl (lv_at hl 3 rfl) ?_
      refine r_iload_n S dX12_find_3 rfl (lv_at hl 2 rfl) ?_
      refine r_icmp_ge (tgt := 31) S dX12_find_4 (by decide) (fun c160 => ?_) (fun c160 => ?_)
      ·
        refine r_iconst S dX12_find_31 (by decide) (fun v161 z162 => ?_)
        have r163 := R_eq z162
        exact r_ret S hr hlk X156 ⟨rfl, (R_of r163 rfl), (by rw [fnd_no (fun j hj => x158 j (by omega))]; omega)⟩ rfl dX12_find_32
      ·
        have r164 : R (0) (8) i154 := ⟨by omega, by omega⟩
        have r165 : R (1) (9) a1 := ⟨by omega, by omega⟩
        refine r_aload_n S dX12_find_7 rfl (lv_at hl 0 rfl) ?_
        refine r_get (K := 38) (v := .ref (G.2.2.2.1 136)) S X156 (Nat.le_of_ble_eq_true rfl) rfl lk12_43_10 (fun _ => ⟨_, rfl, rfl⟩) dX12_find_8 ?_
        refine r_iload_n S dX12_find_11 rfl (lv_at hl 1 rfl) ?_
        refine r_iload_n S dX12_find_12 rfl (lv_at hl 3 rfl) ?_
        refine r_iadd S dX12_find_13 (fun v166 z167 => ?_)
        obtain ⟨e168, r169⟩ := i_add (lo := 0) (hi := 8) z167 h_a0 r164 rfl
        refine r_lald (n := 38) (K := 43) S X156 (Nat.le_of_ble_eq_true rfl) rfl (fun _ => rfl) (ix_of r169 rfl) dX12_find_14 (fun j170 z171 => ?_)
        refine r_aload_n S dX12_find_15 rfl (lv_at hl 0 rfl) ?_
        refine r_getJ (K := 38) S X156 (Nat.le_of_ble_eq_true rfl) rfl lk12_170_10 (fun _ => ⟨_, rfl, rfl⟩) dX12_find_16 (fun j172 z173 => ?_)
        refine r_lcmp S dX12_find_19 (fun v174 r175 e176 => ?_)
        refine r_if_ne (tgt := 25) S dX12_find_20 (by decide) (fun c177 => ?_) (fun c177 => ?_)
        ·
          refine r_iinc (k := 3) S dX12_find_25 hl rfl (by decide) (by decide) (fun v178 d179 ls z180 z181 hl => ?_)
          obtain ⟨e182, r183⟩ := i_add (lo := 1) (hi := 9) z180 r164 (R_eq z181) rfl
          have hl : lv_has ls 4 [(3, .int v178), (0, .ref (G.2.2.2.1 131)), (1, .int a0), (2, .int a1)] := hl
          refine r_goto (tgt := 2) S dX12_find_28 (by decide) ?_
          exact ih159 _ _ _ v178 X156 (R_of r183 rfl) (up_ne (i := i154) x158 (fun h => absurd (e176.mpr ((w256 (by rw [← z171, show v166.toNatClampNeg = 0 + i154.toInt.toNat by (have c : v166.toNatClampNeg = v166.toInt.toNat := rfl; omega)]; exact hq _ (by omega)) (ns_low hls (i := i154.toInt.toNat) (by omega)) (by rw [← z173]; exact hy) hw).mpr h)) (by omega)) (by omega) (by omega)) (lv_sub hl [1, 2, 3, 0] rfl) (by omega)
        ·
          have r184 : R (0) (0) v174 := ⟨by omega, by omega⟩
          refine r_iload_n S dX12_find_23 rfl (lv_at hl 3 rfl) ?_
          exact r_ret S hr hlk X156 ⟨rfl, (R_of r164 rfl), (by rw [fnd_at (i := i154.toInt.toNat) (by omega) ((w256 (by rw [← z171, show v166.toNatClampNeg = 0 + i154.toInt.toNat by (have c : v166.toNatClampNeg = v166.toInt.toNat := rfl; omega)]; exact hq _ (by omega)) (ns_low hls (i := i154.toInt.toNat) (by omega)) (by rw [← z173]; exact hy) hw).mp (e176.mp (by omega))) x158]; omega)⟩ rfl dX12_find_24
  exact L157 _ _ _ _ v1 X (R_of r3 rfl) (fun k h => by exfalso; omega) (lv_sub hl [1, 2, 3, 0] rfl) (Nat.lt_succ_self _)
def po_X12_find_wm (τ : Tau)  (a0 a1 : Int32)  (ns : List (List Int)) (wd0 : List Int) (r : Int32) (u : Tau) : Prop := u = τ ∧ R (-1) (9) r ∧ r.toInt = fnd ns wd0
set_option maxHeartbeats 4000000 in
set_option maxRecDepth 100000 in
theorem c_X12_find_wm (l : Launch) (G : Gx) (τ : Tau) (hI : Inv τ) (a0 : Int32) (a1 : Int32) (h_a0 : R (9) (9) a0) (h_a1 : R (0) (10) a1) (ns : List (List Int)) (wd0 : List Int) (hn : a1.toInt = ns.length) (hq : ∀ i, i < ns.length → (qof τ 136 (9 + i)).toInt = e256 (ns.getD i [])) (hls : ∀ l ∈ ns, lowL l) (hy : (qof τ 131 17).toInt = e256 wd0) (hw : lowL wd0) : Ci l G yX12_find cX12_find 4 (some .int) 0 0 [.ref (G.2.2.2.1 131), .int a0, .int a1] τ (po_X12_find_wm τ  a0 a1  ns wd0) := by
  unfold Ci
  refine C_of (own := RX12) (by decide) rfl (Nat.le_of_ble_eq_true rfl) ?_
  intro p e s m below meth c ls S hr hlk X hl
  have hl : lv_has ls 4 [(0, .ref (G.2.2.2.1 131)), (1, .int a0), (2, .int a1)] := hl
  refine r_iconst S dX12_find_0 (by decide) (fun v1 z2 => ?_)
  have r3 := R_eq z2
  refine r_istore_n (lv' := [(3, .int v1), (0, .ref (G.2.2.2.1 131)), (1, .int a0), (2, .int a1)]) S dX12_find_1 rfl hl (by decide) rfl (fun ls hl => ?_)
  have L182 : ∀ (n : Nat) (H : Heap) (lc : List Loc) (ls : Array Slot) (i179 : Int32), Xd G s H lc τ → R (0) (10) i179 → (∀ k, k < (i179).toInt.toNat → ns.getD k [] ≠ wd0) → lv_has ls 4 [(0, .ref (G.2.2.2.1 131)), (1, .int a0), (2, .int a1), (3, .int i179)] → (10 - i179.toInt).toNat < n → W p l e (Rm 0 0) s m ([.ref (G.2.2.2.1 131), .int a0, .int a1] : List Value).toArray below meth c H lc 0 0 (MQ below (va_Qi (po_X12_find_wm τ  a0 a1  ns wd0) (Bs G) G.2.2.2.2) ([.ref (G.2.2.2.1 131), .int a0, .int a1] : List Value).toArray s 0 0 G.2.2.2.2) (F0 m 2 ls []) := by
    intro n
    induction n with
    | zero => intros; omega
    | succ n ih184 =>
      intro H lc ls i179 X181 r180 x183 hl hm
      refine r_iload_n S dX12_find_2 rfl (lv_at hl 3 rfl) ?_
      refine r_iload_n S dX12_find_3 rfl (lv_at hl 2 rfl) ?_
      refine r_icmp_ge (tgt := 31) S dX12_find_4 (by decide) (fun c185 => ?_) (fun c185 => ?_)
      ·
        refine r_iconst S dX12_find_31 (by decide) (fun v186 z187 => ?_)
        have r188 := R_eq z187
        exact r_ret S hr hlk X181 ⟨rfl, (R_of r188 rfl), (by rw [fnd_no (fun j hj => x183 j (by omega))]; omega)⟩ rfl dX12_find_32
      ·
        have r189 : R (0) (9) i179 := ⟨by omega, by omega⟩
        have r190 : R (1) (10) a1 := ⟨by omega, by omega⟩
        refine r_aload_n S dX12_find_7 rfl (lv_at hl 0 rfl) ?_
        refine r_get (K := 38) (v := .ref (G.2.2.2.1 136)) S X181 (Nat.le_of_ble_eq_true rfl) rfl lk12_43_10 (fun _ => ⟨_, rfl, rfl⟩) dX12_find_8 ?_
        refine r_iload_n S dX12_find_11 rfl (lv_at hl 1 rfl) ?_
        refine r_iload_n S dX12_find_12 rfl (lv_at hl 3 rfl) ?_
        refine r_iadd S dX12_find_13 (fun v191 z192 => ?_)
        obtain ⟨e193, r194⟩ := i_add (lo := 9) (hi := 18) z192 h_a0 r189 rfl
        refine r_lald (n := 38) (K := 43) S X181 (Nat.le_of_ble_eq_true rfl) rfl (fun _ => rfl) (ix_of r194 rfl) dX12_find_14 (fun j195 z196 => ?_)
        refine r_aload_n S dX12_find_15 rfl (lv_at hl 0 rfl) ?_
        refine r_getJ (K := 38) S X181 (Nat.le_of_ble_eq_true rfl) rfl lk12_170_10 (fun _ => ⟨_, rfl, rfl⟩) dX12_find_16 (fun j197 z198 => ?_)
        refine r_lcmp S dX12_find_19 (fun v199 r200 e201 => ?_)
        refine r_if_ne (tgt := 25) S dX12_find_20 (by decide) (fun c202 => ?_) (fun c202 => ?_)
        ·
          refine r_iinc (k := 3) S dX12_find_25 hl rfl (by decide) (by decide) (fun v203 d204 ls z205 z206 hl => ?_)
          obtain ⟨e207, r208⟩ := i_add (lo := 1) (hi := 10) z205 r189 (R_eq z206) rfl
          have hl : lv_has ls 4 [(3, .int v203), (0, .ref (G.2.2.2.1 131)), (1, .int a0), (2, .int a1)] := hl
          refine r_goto (tgt := 2) S dX12_find_28 (by decide) ?_
          exact ih184 _ _ _ v203 X181 (R_of r208 rfl) (up_ne (i := i179) x183 (fun h => absurd (e201.mpr ((w256 (by rw [← z196, show v191.toNatClampNeg = 9 + i179.toInt.toNat by (have c : v191.toNatClampNeg = v191.toInt.toNat := rfl; omega)]; exact hq _ (by omega)) (ns_low hls (i := i179.toInt.toNat) (by omega)) (by rw [← z198]; exact hy) hw).mpr h)) (by omega)) (by omega) (by omega)) (lv_sub hl [1, 2, 3, 0] rfl) (by omega)
        ·
          have r209 : R (0) (0) v199 := ⟨by omega, by omega⟩
          refine r_iload_n S dX12_find_23 rfl (lv_at hl 3 rfl) ?_
          exact r_ret S hr hlk X181 ⟨rfl, (R_of r189 rfl), (by rw [fnd_at (i := i179.toInt.toNat) (by omega) ((w256 (by rw [← z196, show v191.toNatClampNeg = 9 + i179.toInt.toNat by (have c : v191.toNatClampNeg = v191.toInt.toNat := rfl; omega)]; exact hq _ (by omega)) (ns_low hls (i := i179.toInt.toNat) (by omega)) (by rw [← z198]; exact hy) hw).mp (e201.mp (by omega))) x183]; omega)⟩ rfl dX12_find_24
  exact L182 _ _ _ _ v1 X (R_of r3 rfl) (fun k h => by exfalso; omega) (lv_sub hl [1, 2, 3, 0] rfl) (Nat.lt_succ_self _)
def po_X12_leafOf_q (τ : Tau)    (bb : Nat → Int) (nb : Nat) (an mn : List (List Int)) (t : Tk) (r : Int32) (u : Tau) : Prop := u = τ ∧ R (-1) (9) r ∧ LF bb t r
set_option maxHeartbeats 4000000 in
set_option maxRecDepth 100000 in
theorem c_X12_leafOf_q (l : Launch) (G : Gx) (τ : Tau) (hI : Inv τ) (bb : Nat → Int) (nb : Nat) (an mn : List (List Int)) (t : Tk) (hR : MG bb nb 200 an mn τ t) : Ci l G yX12_leafOf cX12_leafOf 1 (some .int) 1 22 [.ref (G.2.2.2.1 131)] τ (po_X12_leafOf_q τ    bb nb an mn t) := by
  unfold Ci
  refine C_of (own := RX12) (by decide) rfl (Nat.le_of_ble_eq_true rfl) ?_
  intro p e s m below meth c ls S hr hlk X hl
  have hl : lv_has ls 1 [(0, .ref (G.2.2.2.1 131))] := hl
  refine r_aload_n S dX12_leafOf_0 rfl (lv_at hl 0 rfl) ?_
  refine lv_ldc2 S.1.1 S.1.2.1 S.1.2.2.2.1 (S.1.2.2.2.2 _ kw41) dX12_leafOf_1 ?_
  refine lv_topl (fun j1 z2 => ?_)
  refine r_ki (q_V (As := [.long j1]) (rest := []) (K := 38) (ci := 10) S X (c_X12_isWord_q l G τ hI j1 bb nb 200 t (kwl.getD 16 []) hR.1 (by rw [z2]; decide +kernel) (kwl_at (by decide))) ck12_208 (Nat.le_of_ble_eq_true rfl) rfl (fun _ => ⟨_, rfl⟩) ⟨_, _, rfl⟩ ⟨Nat.le_of_ble_eq_true rfl, Nat.le_of_ble_eq_true rfl⟩ rfl hl.1 rfl (Nat.le_of_ble_eq_true rfl) dX12_leafOf_4 ⟨Nat.le_refl 0, Nat.le_refl 0⟩) X (fun v6 t5 H lc q3 X4 => ?_)
  unfold po_X12_isWord_q at q3
  obtain ⟨q7, q8, q9⟩ := q3
  rw [q7] at X4
  refine r_if_eq (tgt := 14) S dX12_leafOf_7 (by decide) (fun c10 => ?_) (fun c10 => ?_)
  ·
    have r11 : R (0) (0) v6 := ⟨by omega, by omega⟩
    have p12 := (iff_n q9) (by omega)
    refine r_aload_n S dX12_leafOf_14 rfl (lv_at hl 0 rfl) ?_
    refine lv_ldc2 S.1.1 S.1.2.1 S.1.2.2.2.1 (S.1.2.2.2.2 _ kw42) dX12_leafOf_15 ?_
    refine lv_topl (fun j13 z14 => ?_)
    refine r_ki (q_V (As := [.long j13]) (rest := []) (K := 38) (ci := 10) S X4 (c_X12_isWord_q l G τ hI j13 bb nb 200 t (kwl.getD 17 []) hR.1 (by rw [z14]; decide +kernel) (kwl_at (by decide))) ck12_208 (Nat.le_of_ble_eq_true rfl) rfl (fun _ => ⟨_, rfl⟩) ⟨_, _, rfl⟩ ⟨Nat.le_of_ble_eq_true rfl, Nat.le_of_ble_eq_true rfl⟩ rfl hl.1 rfl (Nat.le_of_ble_eq_true rfl) dX12_leafOf_18 ⟨Nat.le_refl 0, Nat.le_refl 0⟩) X4 (fun v18 t17 H lc q15 X16 => ?_)
    unfold po_X12_isWord_q at q15
    obtain ⟨q19, q20, q21⟩ := q15
    rw [q19] at X16
    refine r_if_eq (tgt := 28) S dX12_leafOf_21 (by decide) (fun c22 => ?_) (fun c22 => ?_)
    ·
      have r23 : R (0) (0) v18 := ⟨by omega, by omega⟩
      have p24 := (iff_n q21) (by omega)
      refine r_aload_n S dX12_leafOf_28 rfl (lv_at hl 0 rfl) ?_
      refine lv_ldc2 S.1.1 S.1.2.1 S.1.2.2.2.1 (S.1.2.2.2.2 _ kw43) dX12_leafOf_29 ?_
      refine lv_topl (fun j25 z26 => ?_)
      refine r_ki (q_V (As := [.long j25]) (rest := []) (K := 38) (ci := 10) S X16 (c_X12_isWord_q l G τ hI j25 bb nb 200 t (kwl.getD 18 []) hR.1 (by rw [z26]; decide +kernel) (kwl_at (by decide))) ck12_208 (Nat.le_of_ble_eq_true rfl) rfl (fun _ => ⟨_, rfl⟩) ⟨_, _, rfl⟩ ⟨Nat.le_of_ble_eq_true rfl, Nat.le_of_ble_eq_true rfl⟩ rfl hl.1 rfl (Nat.le_of_ble_eq_true rfl) dX12_leafOf_32 ⟨Nat.le_refl 0, Nat.le_refl 0⟩) X16 (fun v30 t29 H lc q27 X28 => ?_)
      unfold po_X12_isWord_q at q27
      obtain ⟨q31, q32, q33⟩ := q27
      rw [q31] at X28
      refine r_if_eq (tgt := 42) S dX12_leafOf_35 (by decide) (fun c34 => ?_) (fun c34 => ?_)
      ·
        have r35 : R (0) (0) v30 := ⟨by omega, by omega⟩
        have p36 := (iff_n q33) (by omega)
        refine r_aload_n S dX12_leafOf_42 rfl (lv_at hl 0 rfl) ?_
        refine lv_ldc2 S.1.1 S.1.2.1 S.1.2.2.2.1 (S.1.2.2.2.2 _ kw44) dX12_leafOf_43 ?_
        refine lv_topl (fun j37 z38 => ?_)
        refine r_ki (q_V (As := [.long j37]) (rest := []) (K := 38) (ci := 10) S X28 (c_X12_isWord_q l G τ hI j37 bb nb 200 t (kwl.getD 19 []) hR.1 (by rw [z38]; decide +kernel) (kwl_at (by decide))) ck12_208 (Nat.le_of_ble_eq_true rfl) rfl (fun _ => ⟨_, rfl⟩) ⟨_, _, rfl⟩ ⟨Nat.le_of_ble_eq_true rfl, Nat.le_of_ble_eq_true rfl⟩ rfl hl.1 rfl (Nat.le_of_ble_eq_true rfl) dX12_leafOf_46 ⟨Nat.le_refl 0, Nat.le_refl 0⟩) X28 (fun v42 t41 H lc q39 X40 => ?_)
        unfold po_X12_isWord_q at q39
        obtain ⟨q43, q44, q45⟩ := q39
        rw [q43] at X40
        refine r_if_eq (tgt := 56) S dX12_leafOf_49 (by decide) (fun c46 => ?_) (fun c46 => ?_)
        ·
          have r47 : R (0) (0) v42 := ⟨by omega, by omega⟩
          have p48 := (iff_n q45) (by omega)
          refine r_aload_n S dX12_leafOf_56 rfl (lv_at hl 0 rfl) ?_
          refine lv_ldc2 S.1.1 S.1.2.1 S.1.2.2.2.1 (S.1.2.2.2.2 _ kw28) dX12_leafOf_57 ?_
          refine lv_topl (fun j49 z50 => ?_)
          refine r_ki (q_V (As := [.long j49]) (rest := []) (K := 38) (ci := 10) S X40 (c_X12_isWord_q l G τ hI j49 bb nb 200 t (kwl.getD 4 []) hR.1 (by rw [z50]; decide +kernel) (kwl_at (by decide))) ck12_208 (Nat.le_of_ble_eq_true rfl) rfl (fun _ => ⟨_, rfl⟩) ⟨_, _, rfl⟩ ⟨Nat.le_of_ble_eq_true rfl, Nat.le_of_ble_eq_true rfl⟩ rfl hl.1 rfl (Nat.le_of_ble_eq_true rfl) dX12_leafOf_60 ⟨Nat.le_refl 0, Nat.le_refl 0⟩) X40 (fun v54 t53 H lc q51 X52 => ?_)
          unfold po_X12_isWord_q at q51
          obtain ⟨q55, q56, q57⟩ := q51
          rw [q55] at X52
          refine r_if_eq (tgt := 70) S dX12_leafOf_63 (by decide) (fun c58 => ?_) (fun c58 => ?_)
          ·
            have r59 : R (0) (0) v54 := ⟨by omega, by omega⟩
            have p60 := (iff_n q57) (by omega)
            refine r_aload_n S dX12_leafOf_70 rfl (lv_at hl 0 rfl) ?_
            refine lv_ldc2 S.1.1 S.1.2.1 S.1.2.2.2.1 (S.1.2.2.2.2 _ kw27) dX12_leafOf_71 ?_
            refine lv_topl (fun j61 z62 => ?_)
            refine r_ki (q_V (As := [.long j61]) (rest := []) (K := 38) (ci := 10) S X52 (c_X12_isWord_q l G τ hI j61 bb nb 200 t (kwl.getD 5 []) hR.1 (by rw [z62]; decide +kernel) (kwl_at (by decide))) ck12_208 (Nat.le_of_ble_eq_true rfl) rfl (fun _ => ⟨_, rfl⟩) ⟨_, _, rfl⟩ ⟨Nat.le_of_ble_eq_true rfl, Nat.le_of_ble_eq_true rfl⟩ rfl hl.1 rfl (Nat.le_of_ble_eq_true rfl) dX12_leafOf_74 ⟨Nat.le_refl 0, Nat.le_refl 0⟩) X52 (fun v66 t65 H lc q63 X64 => ?_)
            unfold po_X12_isWord_q at q63
            obtain ⟨q67, q68, q69⟩ := q63
            rw [q67] at X64
            refine r_if_eq (tgt := 84) S dX12_leafOf_77 (by decide) (fun c70 => ?_) (fun c70 => ?_)
            ·
              have r71 : R (0) (0) v66 := ⟨by omega, by omega⟩
              have p72 := (iff_n q69) (by omega)
              refine r_aload_n S dX12_leafOf_84 rfl (lv_at hl 0 rfl) ?_
              refine lv_ldc2 S.1.1 S.1.2.1 S.1.2.2.2.1 (S.1.2.2.2.2 _ kw45) dX12_leafOf_85 ?_
              refine lv_topl (fun j73 z74 => ?_)
              refine r_ki (q_V (As := [.long j73]) (rest := []) (K := 38) (ci := 10) S X64 (c_X12_isWord_q l G τ hI j73 bb nb 200 t (kwl.getD 20 []) hR.1 (by rw [z74]; decide +kernel) (kwl_at (by decide))) ck12_208 (Nat.le_of_ble_eq_true rfl) rfl (fun _ => ⟨_, rfl⟩) ⟨_, _, rfl⟩ ⟨Nat.le_of_ble_eq_true rfl, Nat.le_of_ble_eq_true rfl⟩ rfl hl.1 rfl (Nat.le_of_ble_eq_true rfl) dX12_leafOf_88 ⟨Nat.le_refl 0, Nat.le_refl 0⟩) X64 (fun v78 t77 H lc q75 X76 => ?_)
              unfold po_X12_isWord_q at q75
              obtain ⟨q79, q80, q81⟩ := q75
              rw [q79] at X76
              refine r_if_eq (tgt := 99) S dX12_leafOf_91 (by decide) (fun c82 => ?_) (fun c82 => ?_)
              ·
                have r83 : R (0) (0) v78 := ⟨by omega, by omega⟩
                have p84 := (iff_n q81) (by omega)
                refine r_aload_n S dX12_leafOf_99 rfl (lv_at hl 0 rfl) ?_
                refine lv_ldc2 S.1.1 S.1.2.1 S.1.2.2.2.1 (S.1.2.2.2.2 _ kw46) dX12_leafOf_100 ?_
                refine lv_topl (fun j85 z86 => ?_)
                refine r_ki (q_V (As := [.long j85]) (rest := []) (K := 38) (ci := 10) S X76 (c_X12_isWord_q l G τ hI j85 bb nb 200 t (kwl.getD 21 []) hR.1 (by rw [z86]; decide +kernel) (kwl_at (by decide))) ck12_208 (Nat.le_of_ble_eq_true rfl) rfl (fun _ => ⟨_, rfl⟩) ⟨_, _, rfl⟩ ⟨Nat.le_of_ble_eq_true rfl, Nat.le_of_ble_eq_true rfl⟩ rfl hl.1 rfl (Nat.le_of_ble_eq_true rfl) dX12_leafOf_103 ⟨Nat.le_refl 0, Nat.le_refl 0⟩) X76 (fun v90 t89 H lc q87 X88 => ?_)
                unfold po_X12_isWord_q at q87
                obtain ⟨q91, q92, q93⟩ := q87
                rw [q91] at X88
                refine r_if_eq (tgt := 114) S dX12_leafOf_106 (by decide) (fun c94 => ?_) (fun c94 => ?_)
                ·
                  have r95 : R (0) (0) v90 := ⟨by omega, by omega⟩
                  have p96 := (iff_n q93) (by omega)
                  refine r_aload_n S dX12_leafOf_114 rfl (lv_at hl 0 rfl) ?_
                  refine lv_ldc2 S.1.1 S.1.2.1 S.1.2.2.2.1 (S.1.2.2.2.2 _ kw47) dX12_leafOf_115 ?_
                  refine lv_topl (fun j97 z98 => ?_)
                  refine r_ki (q_V (As := [.long j97]) (rest := []) (K := 38) (ci := 10) S X88 (c_X12_isWord_q l G τ hI j97 bb nb 200 t (kwl.getD 22 []) hR.1 (by rw [z98]; decide +kernel) (kwl_at (by decide))) ck12_208 (Nat.le_of_ble_eq_true rfl) rfl (fun _ => ⟨_, rfl⟩) ⟨_, _, rfl⟩ ⟨Nat.le_of_ble_eq_true rfl, Nat.le_of_ble_eq_true rfl⟩ rfl hl.1 rfl (Nat.le_of_ble_eq_true rfl) dX12_leafOf_118 ⟨Nat.le_refl 0, Nat.le_refl 0⟩) X88 (fun v102 t101 H lc q99 X100 => ?_)
                  unfold po_X12_isWord_q at q99
                  obtain ⟨q103, q104, q105⟩ := q99
                  rw [q103] at X100
                  refine r_if_eq (tgt := 129) S dX12_leafOf_121 (by decide) (fun c106 => ?_) (fun c106 => ?_)
                  ·
                    have r107 : R (0) (0) v102 := ⟨by omega, by omega⟩
                    have p108 := (iff_n q105) (by omega)
                    refine r_aload_n S dX12_leafOf_129 rfl (lv_at hl 0 rfl) ?_
                    refine lv_ldc2 S.1.1 S.1.2.1 S.1.2.2.2.1 (S.1.2.2.2.2 _ kw48) dX12_leafOf_130 ?_
                    refine lv_topl (fun j109 z110 => ?_)
                    refine r_ki (q_V (As := [.long j109]) (rest := []) (K := 38) (ci := 10) S X100 (c_X12_isWord_q l G τ hI j109 bb nb 200 t (kwl.getD 23 []) hR.1 (by rw [z110]; decide +kernel) (kwl_at (by decide))) ck12_208 (Nat.le_of_ble_eq_true rfl) rfl (fun _ => ⟨_, rfl⟩) ⟨_, _, rfl⟩ ⟨Nat.le_of_ble_eq_true rfl, Nat.le_of_ble_eq_true rfl⟩ rfl hl.1 rfl (Nat.le_of_ble_eq_true rfl) dX12_leafOf_133 ⟨Nat.le_refl 0, Nat.le_refl 0⟩) X100 (fun v114 t113 H lc q111 X112 => ?_)
                    unfold po_X12_isWord_q at q111
                    obtain ⟨q115, q116, q117⟩ := q111
                    rw [q115] at X112
                    refine r_if_eq (tgt := 144) S dX12_leafOf_136 (by decide) (fun c118 => ?_) (fun c118 => ?_)
                    ·
                      have r119 : R (0) (0) v114 := ⟨by omega, by omega⟩
                      have p120 := (iff_n q117) (by omega)
                      refine r_iconst S dX12_leafOf_144 (by decide) (fun v121 z122 => ?_)
                      have r123 := R_eq z122
                      exact r_ret S hr hlk X112 ⟨rfl, (R_of r123 rfl), (LF_0 (by omega) p12 p24 p36 p48 p60 p72 p84 p96 p108 p120)⟩ rfl dX12_leafOf_145
                    ·
                      have r124 : R (1) (1) v114 := ⟨by omega, by omega⟩
                      have p125 := (q117).mp (by omega)
                      refine r_bipush S dX12_leafOf_139 (by decide) (fun v126 z127 => ?_)
                      have r128 := R_eq z127
                      refine r_goto (tgt := 145) S dX12_leafOf_141 (by decide) ?_
                      exact r_ret S hr hlk X112 ⟨rfl, (R_of r128 rfl), (LF_w (i := 9) p125 (by omega))⟩ rfl dX12_leafOf_145
                  ·
                    have r129 : R (1) (1) v102 := ⟨by omega, by omega⟩
                    have p130 := (q105).mp (by omega)
                    refine r_bipush S dX12_leafOf_124 (by decide) (fun v131 z132 => ?_)
                    have r133 := R_eq z132
                    refine r_goto (tgt := 145) S dX12_leafOf_126 (by decide) ?_
                    exact r_ret S hr hlk X100 ⟨rfl, (R_of r133 rfl), (LF_w (i := 8) p130 (by omega))⟩ rfl dX12_leafOf_145
                ·
                  have r134 : R (1) (1) v90 := ⟨by omega, by omega⟩
                  have p135 := (q93).mp (by omega)
                  refine r_bipush S dX12_leafOf_109 (by decide) (fun v136 z137 => ?_)
                  have r138 := R_eq z137
                  refine r_goto (tgt := 145) S dX12_leafOf_111 (by decide) ?_
                  exact r_ret S hr hlk X88 ⟨rfl, (R_of r138 rfl), (LF_w (i := 7) p135 (by omega))⟩ rfl dX12_leafOf_145
              ·
                have r139 : R (1) (1) v78 := ⟨by omega, by omega⟩
                have p140 := (q81).mp (by omega)
                refine r_bipush S dX12_leafOf_94 (by decide) (fun v141 z142 => ?_)
                have r143 := R_eq z142
                refine r_goto (tgt := 145) S dX12_leafOf_96 (by decide) ?_
                exact r_ret S hr hlk X76 ⟨rfl, (R_of r143 rfl), (LF_w (i := 6) p140 (by omega))⟩ rfl dX12_leafOf_145
            ·
              have r144 : R (1) (1) v66 := ⟨by omega, by omega⟩
              have p145 := (q69).mp (by omega)
              refine r_iconst S dX12_leafOf_80 (by decide) (fun v146 z147 => ?_)
              have r148 := R_eq z147
              refine r_goto (tgt := 145) S dX12_leafOf_81 (by decide) ?_
              exact r_ret S hr hlk X64 ⟨rfl, (R_of r148 rfl), (LF_w (i := 5) p145 (by omega))⟩ rfl dX12_leafOf_145
          ·
            have r149 : R (1) (1) v54 := ⟨by omega, by omega⟩
            have p150 := (q57).mp (by omega)
            refine r_iconst S dX12_leafOf_66 (by decide) (fun v151 z152 => ?_)
            have r153 := R_eq z152
            refine r_goto (tgt := 145) S dX12_leafOf_67 (by decide) ?_
            exact r_ret S hr hlk X52 ⟨rfl, (R_of r153 rfl), (LF_w (i := 4) p150 (by omega))⟩ rfl dX12_leafOf_145
        ·
          have r154 : R (1) (1) v42 := ⟨by omega, by omega⟩
          have p155 := (q45).mp (by omega)
          refine r_iconst S dX12_leafOf_52 (by decide) (fun v156 z157 => ?_)
          have r158 := R_eq z157
          refine r_goto (tgt := 145) S dX12_leafOf_53 (by decide) ?_
          exact r_ret S hr hlk X40 ⟨rfl, (R_of r158 rfl), (LF_w (i := 3) p155 (by omega))⟩ rfl dX12_leafOf_145
      ·
        have r159 : R (1) (1) v30 := ⟨by omega, by omega⟩
        have p160 := (q33).mp (by omega)
        refine r_iconst S dX12_leafOf_38 (by decide) (fun v161 z162 => ?_)
        have r163 := R_eq z162
        refine r_goto (tgt := 145) S dX12_leafOf_39 (by decide) ?_
        exact r_ret S hr hlk X28 ⟨rfl, (R_of r163 rfl), (LF_w (i := 2) p160 (by omega))⟩ rfl dX12_leafOf_145
    ·
      have r164 : R (1) (1) v18 := ⟨by omega, by omega⟩
      have p165 := (q21).mp (by omega)
      refine r_iconst S dX12_leafOf_24 (by decide) (fun v166 z167 => ?_)
      have r168 := R_eq z167
      refine r_goto (tgt := 145) S dX12_leafOf_25 (by decide) ?_
      exact r_ret S hr hlk X16 ⟨rfl, (R_of r168 rfl), (LF_w (i := 1) p165 (by omega))⟩ rfl dX12_leafOf_145
  ·
    have r169 : R (1) (1) v6 := ⟨by omega, by omega⟩
    have p170 := (q9).mp (by omega)
    refine r_iconst S dX12_leafOf_10 (by decide) (fun v171 z172 => ?_)
    have r173 := R_eq z172
    refine r_goto (tgt := 145) S dX12_leafOf_11 (by decide) ?_
    exact r_ret S hr hlk X4 ⟨rfl, (R_of r173 rfl), (LF_w (i := 0) p170 (by omega))⟩ rfl dX12_leafOf_145
def po_X12_nots_q (τ : Tau)     (u : Tau) : Prop := Inv u ∧ Fr [(131, 41), (131, 43), (131, 44)] [135] τ u ∧ R (0) (53) (u 131 41) ∧ R (0) (45) (u 131 43) ∧ SI u ∧ R (-44) (46) (u 131 44) ∧ (u 131 44).toInt - (u 131 43).toInt = (τ 131 44).toInt - (τ 131 43).toInt ∧ (u 131 43).toInt.toNat = tpN (τ 148) (τ 131 43).toInt.toNat
set_option maxHeartbeats 4000000 in
set_option maxRecDepth 100000 in
theorem c_X12_nots_q (l : Launch) (G : Gx) (τ : Tau) (hI : Inv τ) (hf_0 : R (1) (1) (τ 131 45)) (hf_1 : R (1) (46) (τ 131 44)) (hp_0 : SI τ) : Cv l G yX12_nots cX12_nots 1 1 23 [.ref (G.2.2.2.1 131)] τ (po_X12_nots_q τ    ) := by
  unfold Cv
  refine C_of (own := RX12) (by decide) rfl (Nat.le_of_ble_eq_true rfl) ?_
  intro p e s m below meth c ls S hr hlk X hl
  have hl : lv_has ls 1 [(0, .ref (G.2.2.2.1 131))] := hl
  obtain ⟨v1, z2⟩ : ∃ x, τ 131 45 = x := ⟨_, rfl⟩
  rw [z2] at hf_0
  obtain ⟨v3, z4⟩ : ∃ x, τ 131 44 = x := ⟨_, rfl⟩
  rw [z4] at hf_1
  obtain ⟨v5, z6⟩ : ∃ x, τ 131 41 = x := ⟨_, rfl⟩
  have r7 : R (0) (53) v5 := rd hI rfl z6
  obtain ⟨v8, z9⟩ : ∃ x, τ 131 42 = x := ⟨_, rfl⟩
  have r10 : R (0) (20) v8 := rd hI rfl z9
  obtain ⟨v11, z12⟩ : ∃ x, τ 131 43 = x := ⟨_, rfl⟩
  have r13 : R (0) (45) v11 := rd hI rfl z12
  have L591 : ∀ (n : Nat) (t576 : Tau) (H : Heap) (lc : List Loc) (ls : Array Slot) (f581 : Int32) (f584 : Int32) (f588 : Int32), Xd G s H lc t576 → Inv t576 → Fr [(131, 41), (131, 43), (131, 44)] [135] τ t576 → t576 131 45 = v1 → t576 131 44 = f581 → R (-128) (46) f581 → t576 131 41 = f584 → R (0) (53) f584 → t576 131 42 = v8 → t576 131 43 = f588 → R (0) (45) f588 → SI t576 → tpN (τ 148) (f588).toInt.toNat = tpN (τ 148) v11.toInt.toNat → (f581).toInt - (f588).toInt = v3.toInt - v11.toInt → lv_has ls 1 [(0, .ref (G.2.2.2.1 131))] → (f588.toInt).toNat < n → W p l e (Rm 1 23) s m ([.ref (G.2.2.2.1 131)] : List Value).toArray below meth c H lc 0 0 (MQ below (va_Qv (po_X12_nots_q τ    ) (Bs G) G.2.2.2.2) ([.ref (G.2.2.2.1 131)] : List Value).toArray s 0 0 G.2.2.2.2) (F0 m 0 ls []) := by
    intro n
    induction n with
    | zero => intros; omega
    | succ n ih595 =>
      intro t576 H lc ls f581 f584 f588 X579 I577 F578 z580 z583 r582 z586 r585 z587 z590 r589 x592 x593 x594 hl hm
      have r596 : R (-44) (46) f581 := ⟨by omega, by omega⟩
      have h597 := SI_b x592 z586 z587 z590 z580
      have r598 : R (0) (39) f584 := ⟨by omega, by omega⟩
      have r599 : R (0) (39) f588 := ⟨by omega, by omega⟩
      refine r_aload_n S dX12_nots_0 rfl (lv_at hl 0 rfl) ?_
      refine r_geti (K := 38) S X579 (Nat.le_of_ble_eq_true rfl) rfl lk12_407_10 (fun _ => ⟨_, rfl, rfl⟩) z590 dX12_nots_1 ?_
      refine r_if_le (tgt := 54) S dX12_nots_4 (by decide) (fun c600 => ?_) (fun c600 => ?_)
      ·
        have r601 : R (0) (0) f588 := ⟨by omega, by omega⟩
        exact r_vret S hr hlk X579 ⟨I577, F578, (by rw [z586]; exact R_of r598 rfl), (by rw [z590]; exact R_of r601 rfl), x592, (by rw [z583]; exact R_of r596 rfl), (by have h1_0 := congrArg Int32.toInt z590; have h2_0 := congrArg Int32.toInt z12; have h1_1 := congrArg Int32.toInt z583; have h2_1 := congrArg Int32.toInt z4; omega), (by rw [z590, z12]; exact (tpN_z (by omega)).symm.trans x593)⟩ dX12_nots_54
      ·
        have r602 : R (1) (39) f588 := ⟨by omega, by omega⟩
        refine r_aload_n S dX12_nots_7 rfl (lv_at hl 0 rfl) ?_
        refine r_get (K := 38) (v := .ref (G.2.2.2.1 148)) S X579 (Nat.le_of_ble_eq_true rfl) rfl lk12_84_10 (fun _ => ⟨_, rfl, rfl⟩) dX12_nots_8 ?_
        refine r_aload_n S dX12_nots_11 rfl (lv_at hl 0 rfl) ?_
        refine r_geti (K := 38) S X579 (Nat.le_of_ble_eq_true rfl) rfl lk12_407_10 (fun _ => ⟨_, rfl, rfl⟩) z590 dX12_nots_12 ?_
        refine r_iconst S dX12_nots_15 (by decide) (fun v603 z604 => ?_)
        have r605 := R_eq z604
        refine r_isub S dX12_nots_16 (fun v606 z607 => ?_)
        obtain ⟨e608, r609⟩ := i_sub (lo := 0) (hi := 38) z607 r602 r605 rfl
        refine r_aldn (n := 45) (K := 55) S X579 (Nat.le_of_ble_eq_true rfl) rfl (fun _ => rfl) (ix_of r609 rfl) dX12_nots_17 (fun v610 z611 => ?_)
        have r613 := R_any v610
        refine r_bipush S dX12_nots_18 (by decide) (fun v614 z615 => ?_)
        have r616 := R_eq z615
        refine r_icmp_ne (tgt := 54) S dX12_nots_20 (by decide) (fun c617 => ?_) (fun c617 => ?_)
        ·
          exact r_vret S hr hlk X579 ⟨I577, F578, (by rw [z586]; exact R_of r598 rfl), (by rw [z590]; exact R_of r602 rfl), x592, (by rw [z583]; exact R_of r596 rfl), (by have h1_0 := congrArg Int32.toInt z590; have h2_0 := congrArg Int32.toInt z12; have h1_1 := congrArg Int32.toInt z583; have h2_1 := congrArg Int32.toInt z4; omega), (by rw [z590, z12]; exact (tpN_e ((F578 148 v606.toNatClampNeg (by simp [fz])).symm.trans z611) (by omega) (by omega) (by omega)).symm.trans x593)⟩ dX12_nots_54
        ·
          have r618 : R (20) (20) v610 := ⟨by omega, by omega⟩
          refine r_aload_n S dX12_nots_23 rfl (lv_at hl 0 rfl) ?_
          refine r_dup S dX12_nots_24 rfl ?_
          refine r_geti (K := 38) S X579 (Nat.le_of_ble_eq_true rfl) rfl lk12_407_10 (fun _ => ⟨_, rfl, rfl⟩) z590 dX12_nots_25 ?_
          refine r_iconst S dX12_nots_28 (by decide) (fun v619 z620 => ?_)
          have r621 := R_eq z620
          refine r_isub S dX12_nots_29 (fun v622 z623 => ?_)
          obtain ⟨e624, r625⟩ := i_sub (lo := 0) (hi := 38) z623 r602 r621 rfl
          refine r_put (K := 38) (ty := .int) S X579 (Nat.le_of_ble_eq_true rfl) rfl lk12_407_10 (fun _ => ⟨_, rfl, Nat.le_of_ble_eq_true rfl, rfl⟩) (fun _ _ _ h => by cases h; exact ⟨rfl, rfl⟩) rfl rfl dX12_nots_30 (fun t626 H lc M627 X628 => ?_)
          have I629 := Inv_mu I577 M627 (show Rg (kd 131) 43 v622 from (R_of (lo := 0) (hi := 45) r625 rfl))
          have F630 : Fr [(131, 41), (131, 43), (131, 44)] [135] τ t626 := Fr_mu F578 M627 (by decide)
          refine r_aload_n S dX12_nots_33 rfl (lv_at hl 0 rfl) ?_
          refine r_dup S dX12_nots_34 rfl ?_
          refine r_geti (K := 38) S X628 (Nat.le_of_ble_eq_true rfl) rfl lk12_413_10 (fun _ => ⟨_, rfl, rfl⟩) ((M627.2 131 44 (Or.inr (by decide))).trans z583) dX12_nots_35 ?_
          refine r_iconst S dX12_nots_38 (by decide) (fun v631 z632 => ?_)
          have r633 := R_eq z632
          refine r_isub S dX12_nots_39 (fun v634 z635 => ?_)
          obtain ⟨e636, r637⟩ := i_sub (lo := -45) (hi := 45) z635 r596 r633 rfl
          refine r_put (K := 38) (ty := .int) S X628 (Nat.le_of_ble_eq_true rfl) rfl lk12_413_10 (fun _ => ⟨_, rfl, Nat.le_of_ble_eq_true rfl, rfl⟩) (fun _ _ _ h => by cases h; exact ⟨rfl, rfl⟩) rfl rfl dX12_nots_40 (fun t638 H lc M639 X640 => ?_)
          have I641 := Inv_mu I629 M639 (R_any v634)
          have F642 : Fr [(131, 41), (131, 43), (131, 44)] [135] τ t638 := Fr_mu F630 M639 (by decide)
          refine r_aload_n S dX12_nots_43 rfl (lv_at hl 0 rfl) ?_
          refine r_bipush S dX12_nots_44 (by decide) (fun v643 z644 => ?_)
          have r645 := R_eq z644
          refine r_iconst S dX12_nots_46 (by decide) (fun v646 z647 => ?_)
          have r648 := R_eq z647
          refine r_iconst S dX12_nots_47 (by decide) (fun v649 z650 => ?_)
          have r651 := R_eq z650
          refine r_kv (q_V (As := [.int v643, .int v646, .int v649]) (rest := []) (K := 38) (ci := 10) S X640 (c_X12_code l G t638 I641 v643 v646 v649 (R_of (lo := -2147483648) (hi := 2147483647) r645 rfl) (R_of (lo := -2147483648) (hi := 2147483647) r648 rfl) (R_of (lo := -2147483648) (hi := 2147483647) r651 rfl) (by rw [((M639.2 131 41 (Or.inr (by decide))).trans ((M627.2 131 41 (Or.inr (by decide))).trans z586))]; exact R_of r598 rfl)) ck12_410 (Nat.le_of_ble_eq_true rfl) rfl (fun _ => ⟨_, rfl⟩) ⟨_, _, rfl⟩ ⟨Nat.le_of_ble_eq_true rfl, Nat.le_of_ble_eq_true rfl⟩ rfl hl.1 rfl (Nat.le_of_ble_eq_true rfl) dX12_nots_48 ⟨Nat.le_refl 0, Nat.le_refl 0⟩) X640 (fun t654 H lc q652 X653 => ?_)
          unfold po_X12_code at q652
          obtain ⟨q655, q656, q657, q658, q659⟩ := q652
          have F660 : Fr [(131, 41), (131, 43), (131, 44)] [135] τ t654 := Fr_call F642 q656 (by decide)
          obtain ⟨v661, z662⟩ : ∃ x, t654 131 41 = x := ⟨_, rfl⟩
          rw [z662] at q657
          have e663 := congrArg Int32.toInt ((M639.2 131 41 (Or.inr (by decide))).trans ((M627.2 131 41 (Or.inr (by decide))).trans z586))
          have e664 := congrArg Int32.toInt z662
          refine r_goto (tgt := 0) S dX12_nots_51 (by decide) ?_
          exact ih595 t654 _ _ _ v634 v661 v622 X653 q655 F660 ((q656 131 45 (by decide)).trans ((M639.2 131 45 (Or.inr (by decide))).trans ((M627.2 131 45 (Or.inr (by decide))).trans z580))) ((q656 131 44 (by decide)).trans M639.1) ⟨by omega, by omega⟩ z662 ⟨by omega, by omega⟩ ((q656 131 42 (by decide)).trans ((M639.2 131 42 (Or.inr (by decide))).trans ((M627.2 131 42 (Or.inr (by decide))).trans z587))) ((q656 131 43 (by decide)).trans ((M639.2 131 43 (Or.inr (by decide))).trans M627.1)) ⟨by omega, by omega⟩ (by have n1 := congrArg Int32.toInt z590; have n2 := congrArg Int32.toInt z580; exact (SI_pop x592 (fun j => ((M639.2 135 j (Or.inl (by decide))).trans ((M627.2 135 j (Or.inl (by decide))).trans rfl))) (fun j => ((M639.2 148 j (Or.inl (by decide))).trans ((M627.2 148 j (Or.inl (by decide))).trans rfl))) ((M639.2 131 41 (Or.inr (by decide))).trans ((M627.2 131 41 (Or.inr (by decide))).trans rfl)) ((M639.2 131 42 (Or.inr (by decide))).trans ((M627.2 131 42 (Or.inr (by decide))).trans rfl)) ((M639.2 131 43 (Or.inr (by decide))).trans M627.1) ((M639.2 131 45 (Or.inr (by decide))).trans ((M627.2 131 45 (Or.inr (by decide))).trans rfl)) (by omega) (by omega) (show t576 148 v622.toNatClampNeg = v610 from (rfl).symm.trans (at_k (f := t576 148) z611 (congrArg Int32.toNatClampNeg (Int32.toInt_inj.mp (by omega))))) (by omega) (by omega) q659 q656 q658 (by omega))) ((tpN_s (m := f588) ((F578 148 v606.toNatClampNeg (by simp [fz])).symm.trans z611) (by omega) (by omega) (by omega) (by omega)).trans x593) (by omega) (lv_sub hl [0] rfl) (by omega)
  exact L591 _ τ _ _ _ v3 v5 v11 X hI Fr_rfl z2 z4 ⟨by omega, by omega⟩ z6 ⟨by omega, by omega⟩ z9 z12 ⟨by omega, by omega⟩ hp_0 rfl (by omega) (lv_sub hl [0] rfl) (Nat.lt_succ_self _)
def po_X12_joins_q21 (τ : Tau)  (a0 : Int32)   (u : Tau) : Prop := Inv u ∧ Fr [(131, 41), (131, 43)] [135] τ u ∧ R (0) (53) (u 131 41) ∧ R (0) (45) (u 131 43) ∧ SI u ∧ (u 131 43).toInt.toNat = tpJ 21 (τ 148) (τ 131 43).toInt.toNat
set_option maxHeartbeats 4000000 in
set_option maxRecDepth 100000 in
theorem c_X12_joins_q21 (l : Launch) (G : Gx) (τ : Tau) (hI : Inv τ) (a0 : Int32) (h_a0 : R (21) (21) a0) (hf_0 : R (1) (1) (τ 131 45)) (hp_0 : SI τ) : Cv l G yX12_joins cX12_joins 2 1 23 [.ref (G.2.2.2.1 131), .int a0] τ (po_X12_joins_q21 τ  a0  ) := by
  unfold Cv
  refine C_of (own := RX12) (by decide) rfl (Nat.le_of_ble_eq_true rfl) ?_
  intro p e s m below meth c ls S hr hlk X hl
  have hl : lv_has ls 2 [(0, .ref (G.2.2.2.1 131)), (1, .int a0)] := hl
  obtain ⟨v1, z2⟩ : ∃ x, τ 131 45 = x := ⟨_, rfl⟩
  rw [z2] at hf_0
  obtain ⟨v3, z4⟩ : ∃ x, τ 131 41 = x := ⟨_, rfl⟩
  have r5 : R (0) (53) v3 := rd hI rfl z4
  obtain ⟨v6, z7⟩ : ∃ x, τ 131 42 = x := ⟨_, rfl⟩
  have r8 : R (0) (20) v6 := rd hI rfl z7
  obtain ⟨v9, z10⟩ : ∃ x, τ 131 43 = x := ⟨_, rfl⟩
  have r11 : R (0) (45) v9 := rd hI rfl z10
  have L288 : ∀ (n : Nat) (t276 : Tau) (H : Heap) (lc : List Loc) (ls : Array Slot) (f281 : Int32) (f285 : Int32), Xd G s H lc t276 → Inv t276 → Fr [(131, 41), (131, 43)] [135] τ t276 → t276 131 45 = v1 → t276 131 41 = f281 → R (0) (53) f281 → t276 131 42 = v6 → t276 131 43 = f285 → R (0) (45) f285 → SI t276 → tpJ 21 (τ 148) (f285).toInt.toNat = tpJ 21 (τ 148) v9.toInt.toNat → lv_has ls 2 [(0, .ref (G.2.2.2.1 131)), (1, .int a0)] → (f285.toInt).toNat < n → W p l e (Rm 1 23) s m ([.ref (G.2.2.2.1 131), .int a0] : List Value).toArray below meth c H lc 0 0 (MQ below (va_Qv (po_X12_joins_q21 τ  a0  ) (Bs G) G.2.2.2.2) ([.ref (G.2.2.2.1 131), .int a0] : List Value).toArray s 0 0 G.2.2.2.2) (F0 m 0 ls []) := by
    intro n
    induction n with
    | zero => intros; omega
    | succ n ih291 =>
      intro t276 H lc ls f281 f285 X279 I277 F278 z280 z283 r282 z284 z287 r286 x289 x290 hl hm
      have h292 := SI_b x289 z283 z284 z287 z280
      have r293 : R (0) (39) f281 := ⟨by omega, by omega⟩
      have r294 : R (0) (39) f285 := ⟨by omega, by omega⟩
      refine r_aload_n S dX12_joins_0 rfl (lv_at hl 0 rfl) ?_
      refine r_geti (K := 38) S X279 (Nat.le_of_ble_eq_true rfl) rfl lk12_407_10 (fun _ => ⟨_, rfl, rfl⟩) z287 dX12_joins_1 ?_
      refine r_if_le (tgt := 73) S dX12_joins_4 (by decide) (fun c295 => ?_) (fun c295 => ?_)
      ·
        have r296 : R (0) (0) f285 := ⟨by omega, by omega⟩
        exact r_vret S hr hlk X279 ⟨I277, F278, (by rw [z283]; exact R_of r293 rfl), (by rw [z287]; exact R_of r296 rfl), x289, (by rw [z287, z10]; exact (tpJ_z (by omega)).symm.trans x290)⟩ dX12_joins_73
      ·
        have r297 : R (1) (39) f285 := ⟨by omega, by omega⟩
        refine r_aload_n S dX12_joins_7 rfl (lv_at hl 0 rfl) ?_
        refine r_get (K := 38) (v := .ref (G.2.2.2.1 148)) S X279 (Nat.le_of_ble_eq_true rfl) rfl lk12_84_10 (fun _ => ⟨_, rfl, rfl⟩) dX12_joins_8 ?_
        refine r_aload_n S dX12_joins_11 rfl (lv_at hl 0 rfl) ?_
        refine r_geti (K := 38) S X279 (Nat.le_of_ble_eq_true rfl) rfl lk12_407_10 (fun _ => ⟨_, rfl, rfl⟩) z287 dX12_joins_12 ?_
        refine r_iconst S dX12_joins_15 (by decide) (fun v298 z299 => ?_)
        have r300 := R_eq z299
        refine r_isub S dX12_joins_16 (fun v301 z302 => ?_)
        obtain ⟨e303, r304⟩ := i_sub (lo := 0) (hi := 38) z302 r297 r300 rfl
        refine r_aldn (n := 45) (K := 55) S X279 (Nat.le_of_ble_eq_true rfl) rfl (fun _ => rfl) (ix_of r304 rfl) dX12_joins_17 (fun v305 z306 => ?_)
        have r308 := R_any v305
        refine r_bipush S dX12_joins_18 (by decide) (fun v309 z310 => ?_)
        have r311 := R_eq z310
        refine r_icmp_eq (tgt := 45) S dX12_joins_20 (by decide) (fun c312 => ?_) (fun c312 => ?_)
        ·
          have r313 : R (21) (21) v305 := ⟨by omega, by omega⟩
          refine r_aload_n S dX12_joins_45 rfl (lv_at hl 0 rfl) ?_
          refine r_dup S dX12_joins_46 rfl ?_
          refine r_geti (K := 38) S X279 (Nat.le_of_ble_eq_true rfl) rfl lk12_407_10 (fun _ => ⟨_, rfl, rfl⟩) z287 dX12_joins_47 ?_
          refine r_iconst S dX12_joins_50 (by decide) (fun v314 z315 => ?_)
          have r316 := R_eq z315
          refine r_isub S dX12_joins_51 (fun v317 z318 => ?_)
          obtain ⟨e319, r320⟩ := i_sub (lo := 0) (hi := 38) z318 r297 r316 rfl
          refine r_put (K := 38) (ty := .int) S X279 (Nat.le_of_ble_eq_true rfl) rfl lk12_407_10 (fun _ => ⟨_, rfl, Nat.le_of_ble_eq_true rfl, rfl⟩) (fun _ _ _ h => by cases h; exact ⟨rfl, rfl⟩) rfl rfl dX12_joins_52 (fun t321 H lc M322 X323 => ?_)
          have I324 := Inv_mu I277 M322 (show Rg (kd 131) 43 v317 from (R_of (lo := 0) (hi := 45) r320 rfl))
          have F325 : Fr [(131, 41), (131, 43)] [135] τ t321 := Fr_mu F278 M322 (by decide)
          refine r_aload_n S dX12_joins_55 rfl (lv_at hl 0 rfl) ?_
          refine r_aload_n S dX12_joins_56 rfl (lv_at hl 0 rfl) ?_
          refine r_get (K := 38) (v := .ref (G.2.2.2.1 148)) S X323 (Nat.le_of_ble_eq_true rfl) rfl lk12_84_10 (fun _ => ⟨_, rfl, rfl⟩) dX12_joins_57 ?_
          refine r_aload_n S dX12_joins_60 rfl (lv_at hl 0 rfl) ?_
          refine r_geti (K := 38) S X323 (Nat.le_of_ble_eq_true rfl) rfl lk12_407_10 (fun _ => ⟨_, rfl, rfl⟩) M322.1 dX12_joins_61 ?_
          refine r_aldn (n := 45) (K := 55) S X323 (Nat.le_of_ble_eq_true rfl) rfl (fun _ => rfl) (ix_of r320 rfl) dX12_joins_64 (fun v326 z327 => ?_)
          have r329 := R_any v326
          have h330 : v326 = v305 := z327.symm.trans ((((M322.2 148 v317.toNatClampNeg (Or.inl (by decide))).trans rfl)).trans (at_k (f := t276 148) z306 (congrArg Int32.toNatClampNeg (Int32.toInt_inj.mp (by omega)))))
          have h331 := congrArg Int32.toInt h330
          refine r_iconst S dX12_joins_65 (by decide) (fun v332 z333 => ?_)
          have r334 := R_eq z333
          refine r_iconst S dX12_joins_66 (by decide) (fun v335 z336 => ?_)
          have r337 := R_eq z336
          refine r_kv (q_V (As := [.int v326, .int v332, .int v335]) (rest := []) (K := 38) (ci := 10) S X323 (c_X12_code l G t321 I324 v326 v332 v335 r329 (R_of (lo := -2147483648) (hi := 2147483647) r334 rfl) (R_of (lo := -2147483648) (hi := 2147483647) r337 rfl) (by rw [((M322.2 131 41 (Or.inr (by decide))).trans z283)]; exact R_of r293 rfl)) ck12_410 (Nat.le_of_ble_eq_true rfl) rfl (fun _ => ⟨_, rfl⟩) ⟨_, _, rfl⟩ ⟨Nat.le_of_ble_eq_true rfl, Nat.le_of_ble_eq_true rfl⟩ rfl hl.1 rfl (Nat.le_of_ble_eq_true rfl) dX12_joins_67 ⟨Nat.le_refl 0, Nat.le_refl 0⟩) X323 (fun t340 H lc q338 X339 => ?_)
          unfold po_X12_code at q338
          obtain ⟨q341, q342, q343, q344, q345⟩ := q338
          have F346 : Fr [(131, 41), (131, 43)] [135] τ t340 := Fr_call F325 q342 (by decide)
          obtain ⟨v347, z348⟩ : ∃ x, t340 131 41 = x := ⟨_, rfl⟩
          rw [z348] at q343
          have e349 := congrArg Int32.toInt ((M322.2 131 41 (Or.inr (by decide))).trans z283)
          have e350 := congrArg Int32.toInt z348
          refine r_goto (tgt := 0) S dX12_joins_70 (by decide) ?_
          exact ih291 t340 _ _ _ v347 v317 X339 q341 F346 ((q342 131 45 (by decide)).trans ((M322.2 131 45 (Or.inr (by decide))).trans z280)) z348 ⟨by omega, by omega⟩ ((q342 131 42 (by decide)).trans ((M322.2 131 42 (Or.inr (by decide))).trans z284)) ((q342 131 43 (by decide)).trans M322.1) ⟨by omega, by omega⟩ (by have n1 := congrArg Int32.toInt z287; have n2 := congrArg Int32.toInt z280; exact (SI_pop x289 (fun j => ((M322.2 135 j (Or.inl (by decide))).trans rfl)) (fun j => ((M322.2 148 j (Or.inl (by decide))).trans rfl)) ((M322.2 131 41 (Or.inr (by decide))).trans rfl) ((M322.2 131 42 (Or.inr (by decide))).trans rfl) M322.1 ((M322.2 131 45 (Or.inr (by decide))).trans rfl) (by omega) (by omega) (show t276 148 v317.toNatClampNeg = v305 from (rfl).symm.trans (at_k (f := t276 148) z306 (congrArg Int32.toNatClampNeg (Int32.toInt_inj.mp (by omega))))) (by omega) (by omega) q345 q342 q344 (by omega))) ((tpJ_s (m := f285) ((F278 148 v301.toNatClampNeg (by simp [fz])).symm.trans z306) (by omega) (by omega) (by omega) (by omega)).trans x290) (lv_sub hl [0, 1] rfl) (by omega)
        ·
          refine r_aload_n S dX12_joins_23 rfl (lv_at hl 0 rfl) ?_
          refine r_get (K := 38) (v := .ref (G.2.2.2.1 148)) S X279 (Nat.le_of_ble_eq_true rfl) rfl lk12_84_10 (fun _ => ⟨_, rfl, rfl⟩) dX12_joins_24 ?_
          refine r_aload_n S dX12_joins_27 rfl (lv_at hl 0 rfl) ?_
          refine r_geti (K := 38) S X279 (Nat.le_of_ble_eq_true rfl) rfl lk12_407_10 (fun _ => ⟨_, rfl, rfl⟩) z287 dX12_joins_28 ?_
          refine r_iconst S dX12_joins_31 (by decide) (fun v351 z352 => ?_)
          have r353 := R_eq z352
          refine r_isub S dX12_joins_32 (fun v354 z355 => ?_)
          obtain ⟨e356, r357⟩ := i_sub (lo := 0) (hi := 38) z355 r297 r353 rfl
          refine r_aldn (n := 45) (K := 55) S X279 (Nat.le_of_ble_eq_true rfl) rfl (fun _ => rfl) (ix_of r357 rfl) dX12_joins_33 (fun v358 z359 => ?_)
          have r361 := R_any v358
          have h362 : v358 = v305 := z359.symm.trans ((rfl).trans (at_k (f := t276 148) z306 (congrArg Int32.toNatClampNeg (Int32.toInt_inj.mp (by omega)))))
          have h363 := congrArg Int32.toInt h362
          refine r_bipush S dX12_joins_34 (by decide) (fun v364 z365 => ?_)
          have r366 := R_eq z365
          refine r_icmp_ne (tgt := 73) S dX12_joins_36 (by decide) (fun c367 => ?_) (fun c367 => ?_)
          ·
            exact r_vret S hr hlk X279 ⟨I277, F278, (by rw [z283]; exact R_of r293 rfl), (by rw [z287]; exact R_of r297 rfl), x289, (by rw [z287, z10]; exact (tpJ_e ((F278 148 v354.toNatClampNeg (by simp [fz])).symm.trans z359) (by omega) (by omega) (by omega)).symm.trans x290)⟩ dX12_joins_73
          ·
            have r368 : R (22) (22) v358 := ⟨by omega, by omega⟩
            refine r_iload_n S dX12_joins_39 rfl (lv_at hl 1 rfl) ?_
            refine r_bipush S dX12_joins_40 (by decide) (fun v369 z370 => ?_)
            have r371 := R_eq z370
            refine r_icmp_ne (tgt := 73) S dX12_joins_42 (by decide) (fun c372 => ?_) (fun c372 => ?_)
            ·
              exact r_vret S hr hlk X279 ⟨I277, F278, (by rw [z283]; exact R_of r293 rfl), (by rw [z287]; exact R_of r297 rfl), x289, (by rw [z287, z10]; exact (tpJ_e ((F278 148 v354.toNatClampNeg (by simp [fz])).symm.trans z359) (by omega) (by omega) (by omega)).symm.trans x290)⟩ dX12_joins_73
            ·
              exfalso; omega
  exact L288 _ τ _ _ _ v3 v9 X hI Fr_rfl z2 z4 ⟨by omega, by omega⟩ z7 z10 ⟨by omega, by omega⟩ hp_0 rfl (lv_sub hl [0, 1] rfl) (Nat.lt_succ_self _)
def po_X12_joins_q22 (τ : Tau)  (a0 : Int32)   (u : Tau) : Prop := Inv u ∧ Fr [(131, 41), (131, 43)] [135] τ u ∧ R (0) (53) (u 131 41) ∧ R (0) (45) (u 131 43) ∧ SI u ∧ (1 ≤ (u 131 43).toInt → (u 148 ((u 131 43).toInt - 1).toNat).toInt ≠ 21 ∧ (u 148 ((u 131 43).toInt - 1).toNat).toInt ≠ 22) ∧ (u 131 43).toInt.toNat = tpJ 22 (τ 148) (τ 131 43).toInt.toNat
set_option maxHeartbeats 4000000 in
set_option maxRecDepth 100000 in
theorem c_X12_joins_q22 (l : Launch) (G : Gx) (τ : Tau) (hI : Inv τ) (a0 : Int32) (h_a0 : R (22) (22) a0) (hf_0 : R (1) (1) (τ 131 45)) (hp_0 : SI τ) : Cv l G yX12_joins cX12_joins 2 1 23 [.ref (G.2.2.2.1 131), .int a0] τ (po_X12_joins_q22 τ  a0  ) := by
  unfold Cv
  refine C_of (own := RX12) (by decide) rfl (Nat.le_of_ble_eq_true rfl) ?_
  intro p e s m below meth c ls S hr hlk X hl
  have hl : lv_has ls 2 [(0, .ref (G.2.2.2.1 131)), (1, .int a0)] := hl
  obtain ⟨v1, z2⟩ : ∃ x, τ 131 45 = x := ⟨_, rfl⟩
  rw [z2] at hf_0
  obtain ⟨v3, z4⟩ : ∃ x, τ 131 41 = x := ⟨_, rfl⟩
  have r5 : R (0) (53) v3 := rd hI rfl z4
  obtain ⟨v6, z7⟩ : ∃ x, τ 131 42 = x := ⟨_, rfl⟩
  have r8 : R (0) (20) v6 := rd hI rfl z7
  obtain ⟨v9, z10⟩ : ∃ x, τ 131 43 = x := ⟨_, rfl⟩
  have r11 : R (0) (45) v9 := rd hI rfl z10
  have L399 : ∀ (n : Nat) (t387 : Tau) (H : Heap) (lc : List Loc) (ls : Array Slot) (f392 : Int32) (f396 : Int32), Xd G s H lc t387 → Inv t387 → Fr [(131, 41), (131, 43)] [135] τ t387 → t387 131 45 = v1 → t387 131 41 = f392 → R (0) (53) f392 → t387 131 42 = v6 → t387 131 43 = f396 → R (0) (45) f396 → SI t387 → tpJ 22 (τ 148) (f396).toInt.toNat = tpJ 22 (τ 148) v9.toInt.toNat → lv_has ls 2 [(0, .ref (G.2.2.2.1 131)), (1, .int a0)] → (f396.toInt).toNat < n → W p l e (Rm 1 23) s m ([.ref (G.2.2.2.1 131), .int a0] : List Value).toArray below meth c H lc 0 0 (MQ below (va_Qv (po_X12_joins_q22 τ  a0  ) (Bs G) G.2.2.2.2) ([.ref (G.2.2.2.1 131), .int a0] : List Value).toArray s 0 0 G.2.2.2.2) (F0 m 0 ls []) := by
    intro n
    induction n with
    | zero => intros; omega
    | succ n ih402 =>
      intro t387 H lc ls f392 f396 X390 I388 F389 z391 z394 r393 z395 z398 r397 x400 x401 hl hm
      have h403 := SI_b x400 z394 z395 z398 z391
      have r404 : R (0) (39) f392 := ⟨by omega, by omega⟩
      have r405 : R (0) (39) f396 := ⟨by omega, by omega⟩
      refine r_aload_n S dX12_joins_0 rfl (lv_at hl 0 rfl) ?_
      refine r_geti (K := 38) S X390 (Nat.le_of_ble_eq_true rfl) rfl lk12_407_10 (fun _ => ⟨_, rfl, rfl⟩) z398 dX12_joins_1 ?_
      refine r_if_le (tgt := 73) S dX12_joins_4 (by decide) (fun c406 => ?_) (fun c406 => ?_)
      ·
        have r407 : R (0) (0) f396 := ⟨by omega, by omega⟩
        exact r_vret S hr hlk X390 ⟨I388, F389, (by rw [z394]; exact R_of r404 rfl), (by rw [z398]; exact R_of r407 rfl), x400, (fun h => by exfalso; have q := congrArg Int32.toInt z398; omega), (by rw [z398, z10]; exact (tpJ_z (by omega)).symm.trans x401)⟩ dX12_joins_73
      ·
        have r408 : R (1) (39) f396 := ⟨by omega, by omega⟩
        refine r_aload_n S dX12_joins_7 rfl (lv_at hl 0 rfl) ?_
        refine r_get (K := 38) (v := .ref (G.2.2.2.1 148)) S X390 (Nat.le_of_ble_eq_true rfl) rfl lk12_84_10 (fun _ => ⟨_, rfl, rfl⟩) dX12_joins_8 ?_
        refine r_aload_n S dX12_joins_11 rfl (lv_at hl 0 rfl) ?_
        refine r_geti (K := 38) S X390 (Nat.le_of_ble_eq_true rfl) rfl lk12_407_10 (fun _ => ⟨_, rfl, rfl⟩) z398 dX12_joins_12 ?_
        refine r_iconst S dX12_joins_15 (by decide) (fun v409 z410 => ?_)
        have r411 := R_eq z410
        refine r_isub S dX12_joins_16 (fun v412 z413 => ?_)
        obtain ⟨e414, r415⟩ := i_sub (lo := 0) (hi := 38) z413 r408 r411 rfl
        refine r_aldn (n := 45) (K := 55) S X390 (Nat.le_of_ble_eq_true rfl) rfl (fun _ => rfl) (ix_of r415 rfl) dX12_joins_17 (fun v416 z417 => ?_)
        have r419 := R_any v416
        refine r_bipush S dX12_joins_18 (by decide) (fun v420 z421 => ?_)
        have r422 := R_eq z421
        refine r_icmp_eq (tgt := 45) S dX12_joins_20 (by decide) (fun c423 => ?_) (fun c423 => ?_)
        ·
          have r424 : R (21) (21) v416 := ⟨by omega, by omega⟩
          refine r_aload_n S dX12_joins_45 rfl (lv_at hl 0 rfl) ?_
          refine r_dup S dX12_joins_46 rfl ?_
          refine r_geti (K := 38) S X390 (Nat.le_of_ble_eq_true rfl) rfl lk12_407_10 (fun _ => ⟨_, rfl, rfl⟩) z398 dX12_joins_47 ?_
          refine r_iconst S dX12_joins_50 (by decide) (fun v425 z426 => ?_)
          have r427 := R_eq z426
          refine r_isub S dX12_joins_51 (fun v428 z429 => ?_)
          obtain ⟨e430, r431⟩ := i_sub (lo := 0) (hi := 38) z429 r408 r427 rfl
          refine r_put (K := 38) (ty := .int) S X390 (Nat.le_of_ble_eq_true rfl) rfl lk12_407_10 (fun _ => ⟨_, rfl, Nat.le_of_ble_eq_true rfl, rfl⟩) (fun _ _ _ h => by cases h; exact ⟨rfl, rfl⟩) rfl rfl dX12_joins_52 (fun t432 H lc M433 X434 => ?_)
          have I435 := Inv_mu I388 M433 (show Rg (kd 131) 43 v428 from (R_of (lo := 0) (hi := 45) r431 rfl))
          have F436 : Fr [(131, 41), (131, 43)] [135] τ t432 := Fr_mu F389 M433 (by decide)
          refine r_aload_n S dX12_joins_55 rfl (lv_at hl 0 rfl) ?_
          refine r_aload_n S dX12_joins_56 rfl (lv_at hl 0 rfl) ?_
          refine r_get (K := 38) (v := .ref (G.2.2.2.1 148)) S X434 (Nat.le_of_ble_eq_true rfl) rfl lk12_84_10 (fun _ => ⟨_, rfl, rfl⟩) dX12_joins_57 ?_
          refine r_aload_n S dX12_joins_60 rfl (lv_at hl 0 rfl) ?_
          refine r_geti (K := 38) S X434 (Nat.le_of_ble_eq_true rfl) rfl lk12_407_10 (fun _ => ⟨_, rfl, rfl⟩) M433.1 dX12_joins_61 ?_
          refine r_aldn (n := 45) (K := 55) S X434 (Nat.le_of_ble_eq_true rfl) rfl (fun _ => rfl) (ix_of r431 rfl) dX12_joins_64 (fun v437 z438 => ?_)
          have r440 := R_any v437
          have h441 : v437 = v416 := z438.symm.trans ((((M433.2 148 v428.toNatClampNeg (Or.inl (by decide))).trans rfl)).trans (at_k (f := t387 148) z417 (congrArg Int32.toNatClampNeg (Int32.toInt_inj.mp (by omega)))))
          have h442 := congrArg Int32.toInt h441
          refine r_iconst S dX12_joins_65 (by decide) (fun v443 z444 => ?_)
          have r445 := R_eq z444
          refine r_iconst S dX12_joins_66 (by decide) (fun v446 z447 => ?_)
          have r448 := R_eq z447
          refine r_kv (q_V (As := [.int v437, .int v443, .int v446]) (rest := []) (K := 38) (ci := 10) S X434 (c_X12_code l G t432 I435 v437 v443 v446 r440 (R_of (lo := -2147483648) (hi := 2147483647) r445 rfl) (R_of (lo := -2147483648) (hi := 2147483647) r448 rfl) (by rw [((M433.2 131 41 (Or.inr (by decide))).trans z394)]; exact R_of r404 rfl)) ck12_410 (Nat.le_of_ble_eq_true rfl) rfl (fun _ => ⟨_, rfl⟩) ⟨_, _, rfl⟩ ⟨Nat.le_of_ble_eq_true rfl, Nat.le_of_ble_eq_true rfl⟩ rfl hl.1 rfl (Nat.le_of_ble_eq_true rfl) dX12_joins_67 ⟨Nat.le_refl 0, Nat.le_refl 0⟩) X434 (fun t451 H lc q449 X450 => ?_)
          unfold po_X12_code at q449
          obtain ⟨q452, q453, q454, q455, q456⟩ := q449
          have F457 : Fr [(131, 41), (131, 43)] [135] τ t451 := Fr_call F436 q453 (by decide)
          obtain ⟨v458, z459⟩ : ∃ x, t451 131 41 = x := ⟨_, rfl⟩
          rw [z459] at q454
          have e460 := congrArg Int32.toInt ((M433.2 131 41 (Or.inr (by decide))).trans z394)
          have e461 := congrArg Int32.toInt z459
          refine r_goto (tgt := 0) S dX12_joins_70 (by decide) ?_
          exact ih402 t451 _ _ _ v458 v428 X450 q452 F457 ((q453 131 45 (by decide)).trans ((M433.2 131 45 (Or.inr (by decide))).trans z391)) z459 ⟨by omega, by omega⟩ ((q453 131 42 (by decide)).trans ((M433.2 131 42 (Or.inr (by decide))).trans z395)) ((q453 131 43 (by decide)).trans M433.1) ⟨by omega, by omega⟩ (by have n1 := congrArg Int32.toInt z398; have n2 := congrArg Int32.toInt z391; exact (SI_pop x400 (fun j => ((M433.2 135 j (Or.inl (by decide))).trans rfl)) (fun j => ((M433.2 148 j (Or.inl (by decide))).trans rfl)) ((M433.2 131 41 (Or.inr (by decide))).trans rfl) ((M433.2 131 42 (Or.inr (by decide))).trans rfl) M433.1 ((M433.2 131 45 (Or.inr (by decide))).trans rfl) (by omega) (by omega) (show t387 148 v428.toNatClampNeg = v416 from (rfl).symm.trans (at_k (f := t387 148) z417 (congrArg Int32.toNatClampNeg (Int32.toInt_inj.mp (by omega))))) (by omega) (by omega) q456 q453 q455 (by omega))) ((tpJ_s (m := f396) ((F389 148 v412.toNatClampNeg (by simp [fz])).symm.trans z417) (by omega) (by omega) (by omega) (by omega)).trans x401) (lv_sub hl [0, 1] rfl) (by omega)
        ·
          refine r_aload_n S dX12_joins_23 rfl (lv_at hl 0 rfl) ?_
          refine r_get (K := 38) (v := .ref (G.2.2.2.1 148)) S X390 (Nat.le_of_ble_eq_true rfl) rfl lk12_84_10 (fun _ => ⟨_, rfl, rfl⟩) dX12_joins_24 ?_
          refine r_aload_n S dX12_joins_27 rfl (lv_at hl 0 rfl) ?_
          refine r_geti (K := 38) S X390 (Nat.le_of_ble_eq_true rfl) rfl lk12_407_10 (fun _ => ⟨_, rfl, rfl⟩) z398 dX12_joins_28 ?_
          refine r_iconst S dX12_joins_31 (by decide) (fun v462 z463 => ?_)
          have r464 := R_eq z463
          refine r_isub S dX12_joins_32 (fun v465 z466 => ?_)
          obtain ⟨e467, r468⟩ := i_sub (lo := 0) (hi := 38) z466 r408 r464 rfl
          refine r_aldn (n := 45) (K := 55) S X390 (Nat.le_of_ble_eq_true rfl) rfl (fun _ => rfl) (ix_of r468 rfl) dX12_joins_33 (fun v469 z470 => ?_)
          have r472 := R_any v469
          have h473 : v469 = v416 := z470.symm.trans ((rfl).trans (at_k (f := t387 148) z417 (congrArg Int32.toNatClampNeg (Int32.toInt_inj.mp (by omega)))))
          have h474 := congrArg Int32.toInt h473
          refine r_bipush S dX12_joins_34 (by decide) (fun v475 z476 => ?_)
          have r477 := R_eq z476
          refine r_icmp_ne (tgt := 73) S dX12_joins_36 (by decide) (fun c478 => ?_) (fun c478 => ?_)
          ·
            exact r_vret S hr hlk X390 ⟨I388, F389, (by rw [z394]; exact R_of r404 rfl), (by rw [z398]; exact R_of r408 rfl), x400, (fun h => by have q := congrArg Int32.toInt z398; have z := z470; have e := tn (i := v465) (by omega); rw [show ((t387 131 43).toInt - 1).toNat = v465.toNatClampNeg by omega, z]; exact ⟨by omega, by omega⟩), (by rw [z398, z10]; exact (tpJ_e ((F389 148 v465.toNatClampNeg (by simp [fz])).symm.trans z470) (by omega) (by omega) (by omega)).symm.trans x401)⟩ dX12_joins_73
          ·
            have r479 : R (22) (22) v469 := ⟨by omega, by omega⟩
            refine r_iload_n S dX12_joins_39 rfl (lv_at hl 1 rfl) ?_
            refine r_bipush S dX12_joins_40 (by decide) (fun v480 z481 => ?_)
            have r482 := R_eq z481
            refine r_icmp_ne (tgt := 73) S dX12_joins_42 (by decide) (fun c483 => ?_) (fun c483 => ?_)
            ·
              exfalso; omega
            ·
              refine r_aload_n S dX12_joins_45 rfl (lv_at hl 0 rfl) ?_
              refine r_dup S dX12_joins_46 rfl ?_
              refine r_geti (K := 38) S X390 (Nat.le_of_ble_eq_true rfl) rfl lk12_407_10 (fun _ => ⟨_, rfl, rfl⟩) z398 dX12_joins_47 ?_
              refine r_iconst S dX12_joins_50 (by decide) (fun v484 z485 => ?_)
              have r486 := R_eq z485
              refine r_isub S dX12_joins_51 (fun v487 z488 => ?_)
              obtain ⟨e489, r490⟩ := i_sub (lo := 0) (hi := 38) z488 r408 r486 rfl
              refine r_put (K := 38) (ty := .int) S X390 (Nat.le_of_ble_eq_true rfl) rfl lk12_407_10 (fun _ => ⟨_, rfl, Nat.le_of_ble_eq_true rfl, rfl⟩) (fun _ _ _ h => by cases h; exact ⟨rfl, rfl⟩) rfl rfl dX12_joins_52 (fun t491 H lc M492 X493 => ?_)
              have I494 := Inv_mu I388 M492 (show Rg (kd 131) 43 v487 from (R_of (lo := 0) (hi := 45) r490 rfl))
              have F495 : Fr [(131, 41), (131, 43)] [135] τ t491 := Fr_mu F389 M492 (by decide)
              refine r_aload_n S dX12_joins_55 rfl (lv_at hl 0 rfl) ?_
              refine r_aload_n S dX12_joins_56 rfl (lv_at hl 0 rfl) ?_
              refine r_get (K := 38) (v := .ref (G.2.2.2.1 148)) S X493 (Nat.le_of_ble_eq_true rfl) rfl lk12_84_10 (fun _ => ⟨_, rfl, rfl⟩) dX12_joins_57 ?_
              refine r_aload_n S dX12_joins_60 rfl (lv_at hl 0 rfl) ?_
              refine r_geti (K := 38) S X493 (Nat.le_of_ble_eq_true rfl) rfl lk12_407_10 (fun _ => ⟨_, rfl, rfl⟩) M492.1 dX12_joins_61 ?_
              refine r_aldn (n := 45) (K := 55) S X493 (Nat.le_of_ble_eq_true rfl) rfl (fun _ => rfl) (ix_of r490 rfl) dX12_joins_64 (fun v496 z497 => ?_)
              have r499 := R_any v496
              have h500 : v496 = v469 := z497.symm.trans ((((M492.2 148 v487.toNatClampNeg (Or.inl (by decide))).trans rfl)).trans (at_k (f := t387 148) z470 (congrArg Int32.toNatClampNeg (Int32.toInt_inj.mp (by omega)))))
              have h501 := congrArg Int32.toInt h500
              refine r_iconst S dX12_joins_65 (by decide) (fun v502 z503 => ?_)
              have r504 := R_eq z503
              refine r_iconst S dX12_joins_66 (by decide) (fun v505 z506 => ?_)
              have r507 := R_eq z506
              refine r_kv (q_V (As := [.int v496, .int v502, .int v505]) (rest := []) (K := 38) (ci := 10) S X493 (c_X12_code l G t491 I494 v496 v502 v505 r499 (R_of (lo := -2147483648) (hi := 2147483647) r504 rfl) (R_of (lo := -2147483648) (hi := 2147483647) r507 rfl) (by rw [((M492.2 131 41 (Or.inr (by decide))).trans z394)]; exact R_of r404 rfl)) ck12_410 (Nat.le_of_ble_eq_true rfl) rfl (fun _ => ⟨_, rfl⟩) ⟨_, _, rfl⟩ ⟨Nat.le_of_ble_eq_true rfl, Nat.le_of_ble_eq_true rfl⟩ rfl hl.1 rfl (Nat.le_of_ble_eq_true rfl) dX12_joins_67 ⟨Nat.le_refl 0, Nat.le_refl 0⟩) X493 (fun t510 H lc q508 X509 => ?_)
              unfold po_X12_code at q508
              obtain ⟨q511, q512, q513, q514, q515⟩ := q508
              have F516 : Fr [(131, 41), (131, 43)] [135] τ t510 := Fr_call F495 q512 (by decide)
              obtain ⟨v517, z518⟩ : ∃ x, t510 131 41 = x := ⟨_, rfl⟩
              rw [z518] at q513
              have e519 := congrArg Int32.toInt ((M492.2 131 41 (Or.inr (by decide))).trans z394)
              have e520 := congrArg Int32.toInt z518
              refine r_goto (tgt := 0) S dX12_joins_70 (by decide) ?_
              exact ih402 t510 _ _ _ v517 v487 X509 q511 F516 ((q512 131 45 (by decide)).trans ((M492.2 131 45 (Or.inr (by decide))).trans z391)) z518 ⟨by omega, by omega⟩ ((q512 131 42 (by decide)).trans ((M492.2 131 42 (Or.inr (by decide))).trans z395)) ((q512 131 43 (by decide)).trans M492.1) ⟨by omega, by omega⟩ (by have n1 := congrArg Int32.toInt z398; have n2 := congrArg Int32.toInt z391; exact (SI_pop x400 (fun j => ((M492.2 135 j (Or.inl (by decide))).trans rfl)) (fun j => ((M492.2 148 j (Or.inl (by decide))).trans rfl)) ((M492.2 131 41 (Or.inr (by decide))).trans rfl) ((M492.2 131 42 (Or.inr (by decide))).trans rfl) M492.1 ((M492.2 131 45 (Or.inr (by decide))).trans rfl) (by omega) (by omega) (show t387 148 v487.toNatClampNeg = v469 from (rfl).symm.trans (at_k (f := t387 148) z470 (congrArg Int32.toNatClampNeg (Int32.toInt_inj.mp (by omega))))) (by omega) (by omega) q515 q512 q514 (by omega))) ((tpJ_s (m := f396) ((F389 148 v465.toNatClampNeg (by simp [fz])).symm.trans z470) (by omega) (by omega) (by omega) (by omega)).trans x401) (lv_sub hl [0, 1] rfl) (by omega)
  exact L399 _ τ _ _ _ v3 v9 X hI Fr_rfl z2 z4 ⟨by omega, by omega⟩ z7 z10 ⟨by omega, by omega⟩ hp_0 rfl (lv_sub hl [0, 1] rfl) (Nat.lt_succ_self _)
