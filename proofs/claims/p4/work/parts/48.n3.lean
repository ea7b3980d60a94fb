def po_X12_readMan_q (τ : Tau)    (bb : Nat → Int) (nb : Nat) (fs : FS) (r : Int32) (u : Tau) : Prop := Inv u ∧ Fr [(131, 15), (131, 16), (131, 4), (131, 11), (131, 12), (131, 13), (131, 14), (131, 18), (131, 21)] [134, 331, 336] τ u ∧ R (0) (1) r ∧ R (0) (940) (u 131 4) ∧ R (0) (4) (u 131 11) ∧ (τ 131 4).toInt ≤ (u 131 4).toInt ∧ (r.toInt = 1 → (τ 131 4).toInt < (u 131 4).toInt) ∧ QM (sMan bb nb fs) r u (fun g => RM bb nb u g)
set_option maxHeartbeats 4000000 in
set_option maxRecDepth 100000 in
theorem c_X12_readMan_q (l : Launch) (G : Gx) (τ : Tau) (hI : Inv τ) (bb : Nat → Int) (nb : Nat) (fs : FS) (hR : RM bb nb τ fs) (hW : fs.1.1 = 1) : Ci l G yX12_readMan cX12_readMan 3 (some .boolean) 4 87 [.ref (G.2.2.2.1 131)] τ (po_X12_readMan_q τ    bb nb fs) := by
  unfold Ci
  refine C_of (own := RX12) (by decide) rfl (Nat.le_of_ble_eq_true rfl) ?_
  intro p e s m below meth c ls S hr hlk X hl
  have hl : lv_has ls 3 [(0, .ref (G.2.2.2.1 131))] := hl
  obtain ⟨v1, z2⟩ : ∃ x, τ 131 4 = x := ⟨_, rfl⟩
  have r3 : R (0) (940) v1 := rd hI rfl z2
  obtain ⟨v4, z5⟩ : ∃ x, τ 131 11 = x := ⟨_, rfl⟩
  have r6 : R (0) (4) v4 := rd hI rfl z5
  have e7 : (τ 134 0).toInt = (((gan fs.2).length : Nat) : Int) := hR.2.1.2.2.2.2.2.1.1
  have e8 : (τ 134 1).toInt = (((gmn fs.2).length : Nat) : Int) := hR.2.1.2.2.2.2.2.2.1.1
  have ra9 : R 0 9 (τ 134 0) := rd (K := 41) hI rfl rfl
  have ra10 : R 0 10 (τ 134 1) := rd (K := 41) hI rfl rfl
  refine r_aload_n S dX12_readMan_0 rfl (lv_at hl 0 rfl) ?_
  refine r_get (K := 38) (v := .ref (G.2.2.2.1 134)) S X (Nat.le_of_ble_eq_true rfl) rfl lk12_37_10 (fun _ => ⟨_, rfl, rfl⟩) dX12_readMan_1 ?_
  refine r_iconst S dX12_readMan_4 (by decide) (fun v11 z12 => ?_)
  have r13 := R_eq z12
  refine r_aldn (n := 125) (K := 41) S X (Nat.le_of_ble_eq_true rfl) rfl (fun _ => rfl) (ix_of r13 rfl) dX12_readMan_5 (fun v14 z15 => ?_)
  have r16 : R (0) (10) v14 := rds (K := 41) (a := 1) (n := 1) hI rfl z15 (R_of r13 rfl) (by decide +kernel)
  refine r_istore_n (lv' := [(1, .int v14), (0, .ref (G.2.2.2.1 131))]) S dX12_readMan_6 rfl hl (by decide) rfl (fun ls hl => ?_)
  refine r_iload_n S dX12_readMan_7 rfl (lv_at hl 0 rfl) ?_
  refine r_bipush S dX12_readMan_8 (by decide) (fun v17 z18 => ?_)
  have r19 := R_eq z18
  have e20 := congrArg Int32.toInt (zc (n := 1) (by omega) z15)
  refine r_icmp_ne (tgt := 19) S dX12_readMan_10 (by decide) (fun c21 => ?_) (fun c21 => ?_)
  ·
    have r22 : R (0) (9) v14 := ⟨by omega, by omega⟩
    refine r_aload_n S dX12_readMan_19 rfl (lv_at hl 1 rfl) ?_
    refine r_kv (q_V (As := []) (rest := []) (K := 38) (ci := 10) S X (c_X12_skip_q l G τ hI bb nb 900 fs.1.2.2 (MT_st hR.1 (Or.inl hW)).1 (MT_st hR.1 (Or.inl hW)).2.1 (MT_st hR.1 (Or.inl hW)).2.2) ck12_186 (Nat.le_of_ble_eq_true rfl) rfl (fun _ => ⟨_, rfl⟩) ⟨_, _, rfl⟩ ⟨Nat.le_of_ble_eq_true rfl, Nat.le_of_ble_eq_true rfl⟩ rfl hl.1 rfl (Nat.le_of_ble_eq_true rfl) dX12_readMan_20 ⟨Nat.le_refl 0, Nat.le_refl 0⟩) X (fun t25 H lc q23 X24 => ?_)
    unfold po_X12_skip_q at q23
    obtain ⟨q26, q27, q28, q29, q30, q31, q32⟩ := q23
    have F33 : Fr [(131, 15), (131, 16), (131, 4), (131, 11), (131, 12), (131, 13), (131, 14), (131, 18), (131, 21)] [134, 331, 336] τ t25 := Fr_call Fr_rfl q27 (by decide)
    obtain ⟨v34, z35⟩ : ∃ x, t25 131 4 = x := ⟨_, rfl⟩
    rw [z35] at q28
    obtain ⟨v36, z37⟩ : ∃ x, t25 131 11 = x := ⟨_, rfl⟩
    rw [z37] at q29
    have e38 := congrArg Int32.toInt z2
    have e39 := congrArg Int32.toInt z35
    have e40 := congrArg Int32.toInt z2
    have e41 := congrArg Int32.toInt z35
    have e42 := congrArg Int32.toInt z5
    have e43 := congrArg Int32.toInt z37
    have hR44 : RM bb nb t25 (stp bb nb fs) := ⟨q32, RH_fr hR.2.1 ((q27 131 20 (by decide)).trans rfl) (fun j _ => ((q27 134 j (by simp [fz])).trans rfl)) (fun j => ((q27 336 j (by simp [fz])).trans rfl)), RS_fr hR.2.2 (fun j => ((q27 337 j (by simp [fz])).trans rfl))⟩
    refine r_aload_n S dX12_readMan_23 rfl (lv_at hl 1 rfl) ?_
    refine r_bipush S dX12_readMan_24 (by decide) (fun v45 z46 => ?_)
    have r47 := R_eq z46
    refine r_iload_n S dX12_readMan_26 rfl (lv_at hl 0 rfl) ?_
    refine r_iadd S dX12_readMan_27 (fun v48 z49 => ?_)
    obtain ⟨e50, r51⟩ := i_add (lo := 28) (hi := 37) z49 r47 r22 rfl
    refine r_ki (q_V (As := [.int v48]) (rest := []) (K := 38) (ci := 10) S X24 (c_X12_fresh_q l G t25 q26 v48 (R_of (lo := 19) (hi := 37) r51 rfl) bb nb (stp bb nb fs) hR44 ⟨fun i hi => by have c : v48.toNatClampNeg = v48.toInt.toNat := rfl; have h9 : i < (gan fs.2).length := hi; omega, fun i hi => by have c : v48.toNatClampNeg = v48.toInt.toNat := rfl; have h9 : i < (gmn fs.2).length := hi; omega⟩) ck12_228 (Nat.le_of_ble_eq_true rfl) rfl (fun _ => ⟨_, rfl⟩) ⟨_, _, rfl⟩ ⟨Nat.le_of_ble_eq_true rfl, Nat.le_of_ble_eq_true rfl⟩ rfl hl.1 rfl (Nat.le_of_ble_eq_true rfl) dX12_readMan_28 ⟨Nat.le_refl 0, Nat.le_refl 0⟩) X24 (fun v55 t54 H lc q52 X53 => ?_)
    unfold po_X12_fresh_q at q52
    obtain ⟨q56, q57, q58, q59, q60, q61, q62, q63⟩ := q52
    have F64 : Fr [(131, 15), (131, 16), (131, 4), (131, 11), (131, 12), (131, 13), (131, 14), (131, 18), (131, 21)] [134, 331, 336] τ t54 := Fr_call F33 q57 (by decide)
    obtain ⟨v65, z66⟩ : ∃ x, t54 131 4 = x := ⟨_, rfl⟩
    rw [z66] at q59
    obtain ⟨v67, z68⟩ : ∃ x, t54 131 11 = x := ⟨_, rfl⟩
    rw [z68] at q60
    have e69 := congrArg Int32.toInt z35
    have e70 := congrArg Int32.toInt z66
    have e71 := congrArg Int32.toInt z37
    have e72 := congrArg Int32.toInt z68
    refine r_if_eq (tgt := 44) S dX12_readMan_31 (by decide) (fun c73 => ?_) (fun c73 => ?_)
    ·
      have r74 : R (0) (0) v55 := ⟨by omega, by omega⟩
      have p75 := (QM_0 q63) (by omega)
      obtain ⟨q76, e77, h78, h79⟩ := p75
      refine r_iconst S dX12_readMan_44 (by decide) (fun v80 z81 => ?_)
      have r82 := R_eq z81
      exact r_ret S hr hlk X53 ⟨q56, F64, (R_of r82 rfl), (by rw [z66]; exact R_of q59 rfl), (by rw [z68]; exact R_of q60 rfl), (by have h1_0 := congrArg Int32.toInt z66; have h2_0 := congrArg Int32.toInt z2; omega), (by have h1_0 := congrArg Int32.toInt z66; have h2_0 := congrArg Int32.toInt z2; omega), (QM_l (sMan_l1 (by omega) e77) (by omega) h78 h79)⟩ (nr_bool (R_of (lo := 0) (hi := 1) r82 rfl)) dX12_readMan_45
    ·
      have r83 : R (1) (1) v55 := ⟨by omega, by omega⟩
      have p84 := (QM_1 q63) (by omega)
      obtain ⟨g85, e86, hP87⟩ := p84
      refine r_aload_n S dX12_readMan_34 rfl (lv_at hl 1 rfl) ?_
      refine r_iconst S dX12_readMan_35 (by decide) (fun v88 z89 => ?_)
      have r90 := R_eq z89
      refine r_bipush S dX12_readMan_36 (by decide) (fun v91 z92 => ?_)
      have r93 := R_eq z92
      refine r_ki (q_V (As := [.int v88, .int v91]) (rest := []) (K := 38) (ci := 10) S X53 (c_X12_takes_q_0_20 l G t54 q56 v88 v91 r90 r93 bb nb (stp bb nb (stp bb nb fs)) hP87.1 ) ck12_212 (Nat.le_of_ble_eq_true rfl) rfl (fun _ => ⟨_, rfl⟩) ⟨_, _, rfl⟩ ⟨Nat.le_of_ble_eq_true rfl, Nat.le_of_ble_eq_true rfl⟩ rfl hl.1 rfl (Nat.le_of_ble_eq_true rfl) dX12_readMan_38 ⟨Nat.le_refl 0, Nat.le_refl 0⟩) X53 (fun v97 t96 H lc q94 X95 => ?_)
      unfold po_X12_takes_q_0_20 at q94
      obtain ⟨q98, q99, q100, q101, q102, q103, q104, q105, q106⟩ := q94
      have F107 : Fr [(131, 15), (131, 16), (131, 4), (131, 11), (131, 12), (131, 13), (131, 14), (131, 18), (131, 21)] [134, 331, 336] τ t96 := Fr_call F64 q99 (by decide)
      obtain ⟨v108, z109⟩ : ∃ x, t96 131 4 = x := ⟨_, rfl⟩
      rw [z109] at q102
      obtain ⟨v110, z111⟩ : ∃ x, t96 131 11 = x := ⟨_, rfl⟩
      rw [z111] at q103
      have e112 := congrArg Int32.toInt z66
      have e113 := congrArg Int32.toInt z109
      have e114 := congrArg Int32.toInt z68
      have e115 := congrArg Int32.toInt z111
      refine r_if_ne (tgt := 46) S dX12_readMan_41 (by decide) (fun c116 => ?_) (fun c116 => ?_)
      ·
        have r117 : R (1) (1) v97 := ⟨by omega, by omega⟩
        have p118 := q101 (by omega)
        obtain ⟨v119, z120⟩ : ∃ x, t96 131 18 = x := ⟨_, rfl⟩
        rw [z120] at p118
        have p121 := (QM_1 q106) (by omega)
        obtain ⟨g122, e123, hP124⟩ := p121
        refine r_aload_n S dX12_readMan_46 rfl (lv_at hl 1 rfl) ?_
        refine r_get (K := 38) (v := .ref (G.2.2.2.1 134)) S X95 (Nat.le_of_ble_eq_true rfl) rfl lk12_37_10 (fun _ => ⟨_, rfl, rfl⟩) dX12_readMan_47 ?_
        refine r_iconst S dX12_readMan_50 (by decide) (fun v125 z126 => ?_)
        have r127 := R_eq z126
        refine r_iload_n S dX12_readMan_51 rfl (lv_at hl 0 rfl) ?_
        refine r_iadd S dX12_readMan_52 (fun v128 z129 => ?_)
        obtain ⟨e130, r131⟩ := i_add (lo := 5) (hi := 14) z129 r127 r22 rfl
        refine r_aload_n S dX12_readMan_53 rfl (lv_at hl 1 rfl) ?_
        refine r_geti (K := 38) S X95 (Nat.le_of_ble_eq_true rfl) rfl lk12_193_10 (fun _ => ⟨_, rfl, rfl⟩) z120 dX12_readMan_54 ?_
        refine r_ast (n := 125) (K := 41) S X95 (Nat.le_of_ble_eq_true rfl) rfl (fun _ _ => rfl) (ix_of r131 rfl) dX12_readMan_57 (fun t132 H lc M133 X134 => ?_)
        have I135 := Inv_mu q98 M133 (show Rg (kd 134) _ v119 from wrs (K := 41) (a := 5) (n := 10) (R_of r131 rfl) (R_of (lo := 0) (hi := 20) p118 rfl) (by decide +kernel))
        have F136 : Fr [(131, 15), (131, 16), (131, 4), (131, 11), (131, 12), (131, 13), (131, 14), (131, 18), (131, 21)] [134, 331, 336] τ t132 := Fr_cell F107 M133 (by decide)
        have hR137 : RM bb nb t132 g122.2 := ⟨MT_fr hP124.2.1 ((M133.2 131 3 (Or.inl (by decide))).trans rfl) ((M133.2 131 4 (Or.inl (by decide))).trans rfl) ((M133.2 131 5 (Or.inl (by decide))).trans rfl) ((M133.2 131 11 (Or.inl (by decide))).trans rfl) ((M133.2 131 12 (Or.inl (by decide))).trans rfl) ((M133.2 131 14 (Or.inl (by decide))).trans rfl) (fun j => ((M133.2 132 j (Or.inl (by decide))).trans rfl)) (fun j => ((M133.2 331 j (Or.inl (by decide))).trans rfl)), RH_mu hP124.2.2.1 M133 (by have c : v128.toNatClampNeg = v128.toInt.toNat := rfl; omega), RS_fr hP124.2.2.2 (fun j => ((M133.2 337 j (Or.inl (by decide))).trans rfl))⟩
        refine r_iconst S dX12_readMan_58 (by decide) (fun v138 z139 => ?_)
        have r140 := R_eq z139
        refine r_istore_n (lv' := [(2, .int v138), (1, .int v14), (0, .ref (G.2.2.2.1 131))]) S dX12_readMan_59 rfl hl (by decide) rfl (fun ls hl => ?_)
        have L475 : ∀ (n : Nat) (t467 : Tau) (H : Heap) (lc : List Loc) (ls : Array Slot) (i465 : Int32), Xd G s H lc t467 → Inv t467 → Fr [(131, 15), (131, 16), (131, 4), (131, 11), (131, 12), (131, 13), (131, 14), (131, 18), (131, 21)] [134, 331, 336] τ t467 → R (0) (9) i465 → t467 134 1 = v14 → t467 131 4 = v108 → t467 131 11 = v110 → t467 131 18 = v119 → (∀ j : Nat, (j : Int) < (i465).toInt → (t467 134 (15 + 9 * v14.toInt.toNat + j)).toInt = 0) → (∀ j : Nat, (j < 5 ∨ 105 ≤ j) → t467 134 j = t132 134 j) → (∀ j : Nat, t467 132 j = t132 132 j) → (∀ j : Nat, t467 331 j = t132 331 j) → (∀ j : Nat, t467 336 j = t132 336 j) → (∀ j : Nat, t467 337 j = t132 337 j) → t467 131 3 = t132 131 3 → t467 131 4 = t132 131 4 → t467 131 5 = t132 131 5 → t467 131 11 = t132 131 11 → t467 131 12 = t132 131 12 → t467 131 14 = t132 131 14 → t467 131 20 = t132 131 20 → lv_has ls 3 [(0, .ref (G.2.2.2.1 131)), (1, .int v14), (2, .int i465)] → (9 - i465.toInt).toNat < n → W p l e (Rm 4 87) s m ([.ref (G.2.2.2.1 131)] : List Value).toArray below meth c H lc 0 0 (MQ below (va_Qi (po_X12_readMan_q τ    bb nb fs) (Bs G) G.2.2.2.2) ([.ref (G.2.2.2.1 131)] : List Value).toArray s 0 0 G.2.2.2.2) (F0 m 60 ls []) := by
          intro n
          induction n with
          | zero => intros; omega
          | succ n ih489 =>
            intro t467 H lc ls i465 X470 I468 F469 r466 z471 z472 z473 z474 x476 x477 kp478 kp479 kp480 kp481 kp482 kp483 kp484 kp485 kp486 kp487 kp488 hl hm
            refine r_iload_n S dX12_readMan_60 rfl (lv_at hl 2 rfl) ?_
            refine r_bipush S dX12_readMan_61 (by decide) (fun v490 z491 => ?_)
            have r492 := R_eq z491
            refine r_icmp_ge (tgt := 87) S dX12_readMan_63 (by decide) (fun c493 => ?_) (fun c493 => ?_)
            ·
              have r494 : R (9) (9) i465 := ⟨by omega, by omega⟩
              have L982 : ∀ (n : Nat) (t971 : Tau) (H : Heap) (lc : List Loc) (ls : Array Slot) (f976 : Int32) (f979 : Int32), Xd G s H lc t971 → Inv t971 → Fr [(131, 15), (131, 16), (131, 4), (131, 11), (131, 12), (131, 13), (131, 14), (131, 18), (131, 21)] [134, 331, 336] τ t971 → t971 134 1 = v14 → t971 131 4 = f976 → R (0) (940) f976 → t971 131 11 = f979 → R (0) (4) f979 → (∃ (fc : FS) (op : Nat → Bool), RM bb nb t971 fc ∧ fc.2 = fs.2 ∧ (qof t971 136 (28 + (gmn fs.2).length)).toInt = e256 (wrd bb (stp bb nb fs).1) ∧ RQ t971 v14.toInt.toNat op ∧ thn (sOps bb nb (10 - cnt op) op fc) (fun g => .inr (g.1, umn fs.2 (wrd bb (stp bb nb fs).1))) = sMan bb nb fs) → v1.toInt < f976.toInt → lv_has ls 3 [(0, .ref (G.2.2.2.1 131)), (1, .int v14)] → (940 - f976.toInt).toNat < n → W p l e (Rm 4 87) s m ([.ref (G.2.2.2.1 131)] : List Value).toArray below meth c H lc 0 0 (MQ below (va_Qi (po_X12_readMan_q τ    bb nb fs) (Bs G) G.2.2.2.2) ([.ref (G.2.2.2.1 131)] : List Value).toArray s 0 0 G.2.2.2.2) (F0 m 87 ls []) := by
                intro n
                induction n with
                | zero => intros; omega
                | succ n ih985 =>
                  intro t971 H lc ls f976 f979 X974 I972 F973 z975 z978 r977 z981 r980 x983 x984 hl hm
                  obtain ⟨fc986, op987, hR988, hf989, hq990, hO991, he992⟩ := x983
                  refine r_aload_n S dX12_readMan_87 rfl (lv_at hl 0 rfl) ?_
                  refine r_bipush S dX12_readMan_88 (by decide) (fun v993 z994 => ?_)
                  have r995 := R_eq z994
                  refine r_ki (q_V (As := [.int v993]) (rest := []) (K := 38) (ci := 10) S X974 (c_X12_isSign_q l G t971 I972 v993 (R_of (lo := -2147483648) (hi := 2147483647) r995 rfl) bb nb 900 fc986.1 hR988.1) ck12_180 (Nat.le_of_ble_eq_true rfl) rfl (fun _ => ⟨_, rfl⟩) ⟨_, _, rfl⟩ ⟨Nat.le_of_ble_eq_true rfl, Nat.le_of_ble_eq_true rfl⟩ rfl hl.1 rfl (Nat.le_of_ble_eq_true rfl) dX12_readMan_90 ⟨Nat.le_refl 0, Nat.le_refl 0⟩) X974 (fun v999 t998 H lc q996 X997 => ?_)
                  unfold po_X12_isSign_q at q996
                  obtain ⟨q1000, q1001, q1002⟩ := q996
                  rw [q1000] at X997
                  refine r_if_ne (tgt := 168) S dX12_readMan_93 (by decide) (fun c1003 => ?_) (fun c1003 => ?_)
                  ·
                    have r1004 : R (1) (1) v999 := ⟨by omega, by omega⟩
                    have p1005 := (q1002).mp (by omega)
                    refine r_aload_n S dX12_readMan_168 rfl (lv_at hl 0 rfl) ?_
                    refine r_get (K := 38) (v := .ref (G.2.2.2.1 134)) S X997 (Nat.le_of_ble_eq_true rfl) rfl lk12_37_10 (fun _ => ⟨_, rfl, rfl⟩) dX12_readMan_169 ?_
                    refine r_iconst S dX12_readMan_172 (by decide) (fun v1006 z1007 => ?_)
                    have r1008 := R_eq z1007
                    refine r_dup2 S dX12_readMan_173 rfl rfl ?_
                    refine r_aldi (x := v14) (n := 125) (K := 41) S X997 (Nat.le_of_ble_eq_true rfl) rfl (fun _ => rfl) (ix_of r1008 rfl) (zc' (n := 1) (by omega) z975) dX12_readMan_174 ?_
                    refine r_iconst S dX12_readMan_175 (by decide) (fun v1010 z1011 => ?_)
                    have r1012 := R_eq z1011
                    refine r_iadd S dX12_readMan_176 (fun v1013 z1014 => ?_)
                    obtain ⟨e1015, r1016⟩ := i_add (lo := 1) (hi := 10) z1014 r22 r1012 rfl
                    refine r_ast (n := 125) (K := 41) S X997 (Nat.le_of_ble_eq_true rfl) rfl (fun _ _ => rfl) (ix_of r1008 rfl) dX12_readMan_177 (fun t1017 H lc M1018 X1019 => ?_)
                    have I1020 := Inv_mu I972 M1018 (show Rg (kd 134) _ v1013 from wrs (K := 41) (a := 1) (n := 1) (R_of r1008 rfl) (R_of (lo := 0) (hi := 10) r1016 rfl) (by decide +kernel))
                    have F1021 : Fr [(131, 15), (131, 16), (131, 4), (131, 11), (131, 12), (131, 13), (131, 14), (131, 18), (131, 21)] [134, 331, 336] τ t1017 := Fr_cell F973 M1018 (by decide)
                    have hR1022 : RM bb nb t1017 (fc986.1, umn fs.2 (wrd bb (stp bb nb fs).1)) := ⟨MT_fr hR988.1 ((M1018.2 131 3 (Or.inl (by decide))).trans rfl) ((M1018.2 131 4 (Or.inl (by decide))).trans rfl) ((M1018.2 131 5 (Or.inl (by decide))).trans rfl) ((M1018.2 131 11 (Or.inl (by decide))).trans rfl) ((M1018.2 131 12 (Or.inl (by decide))).trans rfl) ((M1018.2 131 14 (Or.inl (by decide))).trans rfl) (fun j => ((M1018.2 132 j (Or.inl (by decide))).trans rfl)) (fun j => ((M1018.2 331 j (Or.inl (by decide))).trans rfl)), RH_mn (hf989 ▸ hR988.2.1) M1018 (by have c : v1006.toNatClampNeg = v1006.toInt.toNat := rfl; omega) hq990 (MT_low hR44.1 (hP87.2.2).1).1 (by omega), RS_fr hR988.2.2 (fun j => ((M1018.2 337 j (Or.inl (by decide))).trans rfl))⟩
                    refine r_iconst S dX12_readMan_178 (by decide) (fun v1023 z1024 => ?_)
                    have r1025 := R_eq z1024
                    exact r_ret S hr hlk X1019 ⟨I1020, F1021, (R_of r1025 rfl), (by rw [((M1018.2 131 4 (Or.inl (by decide))).trans z978)]; exact R_of r977 rfl), (by rw [((M1018.2 131 11 (Or.inl (by decide))).trans z981)]; exact R_of r980 rfl), (by have h1_0 := congrArg Int32.toInt ((M1018.2 131 4 (Or.inl (by decide))).trans z978); have h2_0 := congrArg Int32.toInt z2; omega), (by have h1_0 := congrArg Int32.toInt ((M1018.2 131 4 (Or.inl (by decide))).trans z978); have h2_0 := congrArg Int32.toInt z2; omega), (QM_r (by rw [← he992]; exact thn_r (sOps_e ⟨p1005.1, by have q := p1005.2; omega⟩)) (by omega) hR1022)⟩ (nr_bool (R_of (lo := 0) (hi := 1) r1025 rfl)) dX12_readMan_179
                  ·
                    have r1026 : R (0) (0) v999 := ⟨by omega, by omega⟩
                    have p1027 := (iff_n q1002) (by omega)
                    refine r_aload_n S dX12_readMan_96 rfl (lv_at hl 0 rfl) ?_
                    refine r_bipush S dX12_readMan_97 (by decide) (fun v1028 z1029 => ?_)
                    have r1030 := R_eq z1029
                    refine r_aload_n S dX12_readMan_99 rfl (lv_at hl 0 rfl) ?_
                    refine r_get (K := 38) (v := .ref (G.2.2.2.1 134)) S X997 (Nat.le_of_ble_eq_true rfl) rfl lk12_37_10 (fun _ => ⟨_, rfl, rfl⟩) dX12_readMan_100 ?_
                    refine r_iconst S dX12_readMan_103 (by decide) (fun v1031 z1032 => ?_)
                    have r1033 := R_eq z1032
                    refine r_aldn (n := 125) (K := 41) S X997 (Nat.le_of_ble_eq_true rfl) rfl (fun _ => rfl) (ix_of r1033 rfl) dX12_readMan_104 (fun v1034 z1035 => ?_)
                    have r1036 : R (0) (9) v1034 := rds (K := 41) (a := 0) (n := 1) I972 rfl z1035 (R_of r1033 rfl) (by decide +kernel)
                    refine r_ki (q_V (As := [.int v1028, .int v1034]) (rest := []) (K := 38) (ci := 10) S X997 (c_X12_looksAt_qa l G t971 I972 v1028 v1034 r1030 r1036 bb nb fc986 hR988 (by have q := hR988.2.1.2.2.2.2.2.1.1; rw [(zc (n := 0) (by omega) z1035)] at q; exact q)) ck12_204 (Nat.le_of_ble_eq_true rfl) rfl (fun _ => ⟨_, rfl⟩) ⟨_, _, rfl⟩ ⟨Nat.le_of_ble_eq_true rfl, Nat.le_of_ble_eq_true rfl⟩ rfl hl.1 rfl (Nat.le_of_ble_eq_true rfl) dX12_readMan_105 ⟨Nat.le_refl 0, Nat.le_refl 0⟩) X997 (fun v1040 t1039 H lc q1037 X1038 => ?_)
                    unfold po_X12_looksAt_qa at q1037
                    obtain ⟨q1041, q1042, q1043, q1044, q1045, q1046⟩ := q1037
                    have F1047 : Fr [(131, 15), (131, 16), (131, 4), (131, 11), (131, 12), (131, 13), (131, 14), (131, 18), (131, 21)] [134, 331, 336] τ t1039 := Fr_call F973 q1042 (by decide)
                    have e1048 := congrArg Int32.toInt z981
                    have e1049 := congrArg Int32.toInt ((q1042 131 11 (by decide)).trans z981)
                    refine r_if_ne (tgt := 113) S dX12_readMan_108 (by decide) (fun c1050 => ?_) (fun c1050 => ?_)
                    ·
                      have r1051 : R (1) (1) v1040 := ⟨by omega, by omega⟩
                      have p1052 := q1044 (by omega)
                      obtain ⟨v1053, z1054⟩ : ∃ x, t1039 131 18 = x := ⟨_, rfl⟩
                      rw [z1054] at p1052
                      have p1055 := (QM_1 q1046) (by omega)
                      obtain ⟨g1056, e1057, hP1058⟩ := p1055
                      refine r_bipush S dX12_readMan_113 (by decide) (fun v1059 z1060 => ?_)
                      have r1061 := R_eq z1060
                      refine r_bipush S dX12_readMan_115 (by decide) (fun v1062 z1063 => ?_)
                      have r1064 := R_eq z1063
                      refine r_iload_n S dX12_readMan_117 rfl (lv_at hl 1 rfl) ?_
                      refine r_imul S dX12_readMan_118 (fun v1065 z1066 => ?_)
                      obtain ⟨e1067, r1068⟩ := i_mul (lo := 0) (hi := 81) z1066 r1064 r22 rfl rfl
                      have e1069 : v1065.toInt = 9 * v14.toInt := by rw [e1067, show v1062.toInt = 9 by omega]
                      refine r_iadd S dX12_readMan_119 (fun v1070 z1071 => ?_)
                      obtain ⟨e1072, r1073⟩ := i_add (lo := 15) (hi := 96) z1071 r1061 r1068 rfl
                      refine r_aload_n S dX12_readMan_120 rfl (lv_at hl 0 rfl) ?_
                      refine r_geti (K := 38) S X1038 (Nat.le_of_ble_eq_true rfl) rfl lk12_193_10 (fun _ => ⟨_, rfl, rfl⟩) z1054 dX12_readMan_121 ?_
                      refine r_iadd S dX12_readMan_124 (fun v1074 z1075 => ?_)
                      obtain ⟨e1076, r1077⟩ := i_add (lo := 15) (hi := 104) z1075 r1073 p1052 rfl
                      refine r_istore_n (lv' := [(2, .int v1074), (0, .ref (G.2.2.2.1 131)), (1, .int v14)]) S dX12_readMan_125 rfl hl (by decide) rfl (fun ls hl => ?_)
                      refine r_aload_n S dX12_readMan_126 rfl (lv_at hl 1 rfl) ?_
                      refine r_get (K := 38) (v := .ref (G.2.2.2.1 134)) S X1038 (Nat.le_of_ble_eq_true rfl) rfl lk12_37_10 (fun _ => ⟨_, rfl, rfl⟩) dX12_readMan_127 ?_
                      refine r_iload_n S dX12_readMan_130 rfl (lv_at hl 0 rfl) ?_
                      refine r_aldn (n := 125) (K := 41) S X1038 (Nat.le_of_ble_eq_true rfl) rfl (fun _ => rfl) (ix_of r1077 rfl) dX12_readMan_131 (fun v1078 z1079 => ?_)
                      have r1080 : R (-9) (9) v1078 := rds (K := 41) (a := 15) (n := 90) q1041 rfl z1079 (R_of r1077 rfl) (by decide +kernel)
                      have g1081 : Rg 41 v1074.toNatClampNeg v1078 := rd q1041 rfl z1079
                      have e1083 : v1053.toInt = g1056 := by rw [← z1054]; exact hP1058.1
                      have ho1082 : (v1078.toInt ≠ 0 ↔ op987 g1056 = true) := by have q := hO991 g1056 (by omega); rw [show 15 + 9 * v14.toInt.toNat + g1056 = v1074.toNatClampNeg by (have c : v1074.toNatClampNeg = v1074.toInt.toNat := rfl; omega), ← (((q1042 134 v1074.toNatClampNeg (by simp [fz])).trans rfl) : t1039 134 v1074.toNatClampNeg = t971 134 v1074.toNatClampNeg), z1079] at q; exact q
                      refine r_if_eq (tgt := 141) S dX12_readMan_132 (by decide) (fun c1084 => ?_) (fun c1084 => ?_)
                      ·
                        have r1085 : R (0) (0) v1078 := ⟨by omega, by omega⟩
                        refine r_aload_n S dX12_readMan_141 rfl (lv_at hl 1 rfl) ?_
                        refine r_kv (q_V (As := []) (rest := []) (K := 38) (ci := 10) S X1038 (c_X12_skip_q l G t1039 q1041 bb nb 900 fc986.1.2.2 (MT_st hP1058.2.1 (Or.inl (sLook_n e1057).1)).1 (MT_st hP1058.2.1 (Or.inl (sLook_n e1057).1)).2.1 (MT_st hP1058.2.1 (Or.inl (sLook_n e1057).1)).2.2) ck12_186 (Nat.le_of_ble_eq_true rfl) rfl (fun _ => ⟨_, rfl⟩) ⟨_, _, rfl⟩ ⟨Nat.le_of_ble_eq_true rfl, Nat.le_of_ble_eq_true rfl⟩ rfl hl.1 rfl (Nat.le_of_ble_eq_true rfl) dX12_readMan_142 ⟨Nat.le_refl 0, Nat.le_refl 0⟩) X1038 (fun t1088 H lc q1086 X1087 => ?_)
                        unfold po_X12_skip_q at q1086
                        obtain ⟨q1089, q1090, q1091, q1092, q1093, q1094, q1095⟩ := q1086
                        have F1096 : Fr [(131, 15), (131, 16), (131, 4), (131, 11), (131, 12), (131, 13), (131, 14), (131, 18), (131, 21)] [134, 331, 336] τ t1088 := Fr_call F1047 q1090 (by decide)
                        obtain ⟨v1097, z1098⟩ : ∃ x, t1088 131 4 = x := ⟨_, rfl⟩
                        rw [z1098] at q1091
                        obtain ⟨v1099, z1100⟩ : ∃ x, t1088 131 11 = x := ⟨_, rfl⟩
                        rw [z1100] at q1092
                        have e1101 := congrArg Int32.toInt ((q1042 131 4 (by decide)).trans z978)
                        have e1102 := congrArg Int32.toInt z1098
                        have e1103 := congrArg Int32.toInt ((q1042 131 4 (by decide)).trans z978)
                        have e1104 := congrArg Int32.toInt z1098
                        have e1105 := congrArg Int32.toInt ((q1042 131 11 (by decide)).trans z981)
                        have e1106 := congrArg Int32.toInt z1100
                        have hR1107 : RM bb nb t1088 (stp bb nb fc986) := ⟨q1095, RH_fr hP1058.2.2.1 ((q1090 131 20 (by decide)).trans rfl) (fun j _ => ((q1090 134 j (by simp [fz])).trans rfl)) (fun j => ((q1090 336 j (by simp [fz])).trans rfl)), RS_fr hP1058.2.2.2 (fun j => ((q1090 337 j (by simp [fz])).trans rfl))⟩
                        refine r_aload_n S dX12_readMan_145 rfl (lv_at hl 1 rfl) ?_
                        refine r_iconst S dX12_readMan_146 (by decide) (fun v1108 z1109 => ?_)
                        have r1110 := R_eq z1109
                        refine r_ki (q_V (As := [.int v1108]) (rest := []) (K := 38) (ci := 10) S X1087 (c_X12_takesMind_q l G t1088 q1089 v1108 r1110 bb nb (stp bb nb fc986) hR1107 ) ck12_234 (Nat.le_of_ble_eq_true rfl) rfl (fun _ => ⟨_, rfl⟩) ⟨_, _, rfl⟩ ⟨Nat.le_of_ble_eq_true rfl, Nat.le_of_ble_eq_true rfl⟩ rfl hl.1 rfl (Nat.le_of_ble_eq_true rfl) dX12_readMan_147 ⟨Nat.le_refl 0, Nat.le_refl 0⟩) X1087 (fun v1114 t1113 H lc q1111 X1112 => ?_)
                        unfold po_X12_takesMind_q at q1111
                        obtain ⟨q1115, q1116, q1117, q1118, q1119, q1120, q1121, q1122⟩ := q1111
                        have F1123 : Fr [(131, 15), (131, 16), (131, 4), (131, 11), (131, 12), (131, 13), (131, 14), (131, 18), (131, 21)] [134, 331, 336] τ t1113 := Fr_call F1096 q1116 (by decide)
                        obtain ⟨v1124, z1125⟩ : ∃ x, t1113 131 4 = x := ⟨_, rfl⟩
                        rw [z1125] at q1118
                        obtain ⟨v1126, z1127⟩ : ∃ x, t1113 131 11 = x := ⟨_, rfl⟩
                        rw [z1127] at q1119
                        have e1128 := congrArg Int32.toInt z1098
                        have e1129 := congrArg Int32.toInt z1125
                        have e1130 := congrArg Int32.toInt z1098
                        have e1131 := congrArg Int32.toInt z1125
                        refine r_if_ne (tgt := 155) S dX12_readMan_150 (by decide) (fun c1132 => ?_) (fun c1132 => ?_)
                        ·
                          have r1133 : R (1) (1) v1114 := ⟨by omega, by omega⟩
                          have p1134 := (QM_1 q1122) (by omega)
                          obtain ⟨g1135, e1136, hP1137⟩ := p1134
                          refine r_aload_n S dX12_readMan_155 rfl (lv_at hl 1 rfl) ?_
                          refine r_get (K := 38) (v := .ref (G.2.2.2.1 134)) S X1112 (Nat.le_of_ble_eq_true rfl) rfl lk12_37_10 (fun _ => ⟨_, rfl, rfl⟩) dX12_readMan_156 ?_
                          refine r_iload_n S dX12_readMan_159 rfl (lv_at hl 0 rfl) ?_
                          refine r_aload_n S dX12_readMan_160 rfl (lv_at hl 1 rfl) ?_
                          refine r_getn (K := 38) S X1112 (Nat.le_of_ble_eq_true rfl) rfl lk12_215_10 (fun _ => ⟨_, rfl, rfl⟩) dX12_readMan_161 (fun v1138 z1139 => ?_)
                          have r1140 : R (-9) (9) v1138 := rd q1115 rfl z1139
                          refine r_ast (n := 125) (K := 41) S X1112 (Nat.le_of_ble_eq_true rfl) rfl (fun _ _ => rfl) (ix_of r1077 rfl) dX12_readMan_164 (fun t1141 H lc M1142 X1143 => ?_)
                          have I1144 := Inv_mu q1115 M1142 (show Rg (kd 134) _ v1138 from wrs (K := 41) (a := 15) (n := 90) (R_of r1077 rfl) (R_of (lo := -9) (hi := 9) r1140 rfl) (by decide +kernel))
                          have F1145 : Fr [(131, 15), (131, 16), (131, 4), (131, 11), (131, 12), (131, 13), (131, 14), (131, 18), (131, 21)] [134, 331, 336] τ t1141 := Fr_cell F1123 M1142 (by decide)
                          refine r_goto (tgt := 87) S dX12_readMan_165 (by decide) ?_
                          exact ih985 t1141 _ _ _ v1124 v1126 X1143 I1144 F1145 ((M1142.2 134 1 (Or.inr (ixne r1077 rfl))).trans ((q1116 134 1 (by decide)).trans ((q1090 134 1 (by decide)).trans ((q1042 134 1 (by decide)).trans z975)))) ((M1142.2 131 4 (Or.inl (by decide))).trans z1125) ⟨by omega, by omega⟩ ((M1142.2 131 11 (Or.inl (by decide))).trans z1127) ⟨by omega, by omega⟩ ⟨g1135.2, (fun j => op987 j || j == g1056), ⟨MT_fr hP1137.2.1 ((M1142.2 131 3 (Or.inl (by decide))).trans rfl) ((M1142.2 131 4 (Or.inl (by decide))).trans rfl) ((M1142.2 131 5 (Or.inl (by decide))).trans rfl) ((M1142.2 131 11 (Or.inl (by decide))).trans rfl) ((M1142.2 131 12 (Or.inl (by decide))).trans rfl) ((M1142.2 131 14 (Or.inl (by decide))).trans rfl) (fun j => ((M1142.2 132 j (Or.inl (by decide))).trans rfl)) (fun j => ((M1142.2 331 j (Or.inl (by decide))).trans rfl)), RH_mu hP1137.2.2.1 M1142 (by have c : v1074.toNatClampNeg = v1074.toInt.toNat := rfl; omega), RS_fr hP1137.2.2.2 (fun j => ((M1142.2 337 j (Or.inl (by decide))).trans rfl))⟩, (by rw [sMd_s e1136]; exact hf989), (by rw [qof_of (k := 136) (fun j => ((M1142.2 336 j (Or.inl (by decide))).trans ((q1116 336 j (by simp [fz])).trans ((q1090 336 j (by simp [fz])).trans ((q1042 336 j (by simp [fz])).trans rfl))))) _]; exact hq990), RQ_put (RQ_eq hO991 (fun j => ((q1116 134 j (by simp [fz])).trans ((q1090 134 j (by simp [fz])).trans ((q1042 134 j (by simp [fz])).trans rfl))))) M1142 (by have c : v1074.toNatClampNeg = v1074.toInt.toNat := rfl; omega) (by omega) (by rw [← z1139]; exact hP1137.1), (by rw [← he992, show 10 - cnt op987 = (10 - cnt (fun j => op987 j || j == g1056)) + 1 by (have q := cnt_up (op := op987) (i := g1056) (by omega) (fun h => absurd (ho1082.mpr h) (by omega)); have q2 := cnt_le (fun j => op987 j || j == g1056); omega)]; exact congrArg (fun z => thn z _) (sOps_r (fun h => p1027 ⟨h.1, by have q := h.2; omega⟩) ((sOp_md e1057 (fun h => absurd (ho1082.mpr h) (by omega))).trans (thn_r e1136))).symm)⟩ (by omega) (lv_sub hl [1, 2] rfl) (by omega)
                        ·
                          have r1146 : R (0) (0) v1114 := ⟨by omega, by omega⟩
                          have p1147 := (QM_0 q1122) (by omega)
                          obtain ⟨q1148, e1149, h1150, h1151⟩ := p1147
                          refine r_iconst S dX12_readMan_153 (by decide) (fun v1152 z1153 => ?_)
                          have r1154 := R_eq z1153
                          exact r_ret S hr hlk X1112 ⟨q1115, F1123, (R_of r1154 rfl), (by rw [z1125]; exact R_of q1118 rfl), (by rw [z1127]; exact R_of q1119 rfl), (by have h1_0 := congrArg Int32.toInt z1125; have h2_0 := congrArg Int32.toInt z2; omega), (by have h1_0 := congrArg Int32.toInt z1125; have h2_0 := congrArg Int32.toInt z2; omega), (QM_l (by rw [← he992, show 10 - cnt op987 = (9 - cnt op987) + 1 by (have q := cnt_le op987; omega)]; exact thn_l (sOps_l (fun h => p1027 ⟨h.1, by have q := h.2; omega⟩) ((sOp_md e1057 (fun h => absurd (ho1082.mpr h) (by omega))).trans (thn_l e1149)))) (by omega) h1150 h1151)⟩ (nr_bool (R_of (lo := 0) (hi := 1) r1154 rfl)) dX12_readMan_154
                      ·
                        refine r_aload_n S dX12_readMan_135 rfl (lv_at hl 1 rfl) ?_
                        refine r_iconst S dX12_readMan_136 (by decide) (fun v1155 z1156 => ?_)
                        have r1157 := R_eq z1156
                        refine r_ki (q_V (As := [.int v1155]) (rest := []) (K := 38) (ci := 10) S X1038 (c_X12_bad_q l G t1039 q1041 v1155 (R_of (lo := -2147483648) (hi := 2147483647) r1157 rfl)) ck12_183 (Nat.le_of_ble_eq_true rfl) rfl (fun _ => ⟨_, rfl⟩) ⟨_, _, rfl⟩ ⟨Nat.le_of_ble_eq_true rfl, Nat.le_of_ble_eq_true rfl⟩ rfl hl.1 rfl (Nat.le_of_ble_eq_true rfl) dX12_readMan_137 ⟨Nat.le_refl 0, Nat.le_refl 0⟩) X1038 (fun v1161 t1160 H lc q1158 X1159 => ?_)
                        unfold po_X12_bad_q at q1158
                        obtain ⟨q1162, q1163, q1164, q1165⟩ := q1158
                        have F1166 : Fr [(131, 15), (131, 16), (131, 4), (131, 11), (131, 12), (131, 13), (131, 14), (131, 18), (131, 21)] [134, 331, 336] τ t1160 := Fr_call F1047 q1163 (by decide)
                        exact r_ret S hr hlk X1159 ⟨q1162, F1166, (R_of q1164 rfl), (by rw [((q1163 131 4 (by decide)).trans ((q1042 131 4 (by decide)).trans z978))]; exact R_of r977 rfl), (by rw [((q1163 131 11 (by decide)).trans ((q1042 131 11 (by decide)).trans z981))]; exact R_of r980 rfl), (by have h1_0 := congrArg Int32.toInt ((q1163 131 4 (by decide)).trans ((q1042 131 4 (by decide)).trans z978)); have h2_0 := congrArg Int32.toInt z2; omega), (by have h1_0 := congrArg Int32.toInt ((q1163 131 4 (by decide)).trans ((q1042 131 4 (by decide)).trans z978)); have h2_0 := congrArg Int32.toInt z2; omega), (QM_b (by rw [← he992, show 10 - cnt op987 = (9 - cnt op987) + 1 by (have q := cnt_le op987; omega)]; exact thn_l (sOps_l (fun h => p1027 ⟨h.1, by have q := h.2; omega⟩) (sOp_b e1057 (ho1082.mp (by omega))))) (by omega) (by rw [q1165.1]; omega) (by rw [q1165.2]; exact RM_at hP1058.2))⟩ (nr_bool (R_of (lo := 0) (hi := 1) q1164 rfl)) dX12_readMan_140
                    ·
                      have r1167 : R (0) (0) v1040 := ⟨by omega, by omega⟩
                      have p1168 := (QM_0 q1046) (by omega)
                      obtain ⟨q1169, e1170, h1171, h1172⟩ := p1168
                      refine r_iconst S dX12_readMan_111 (by decide) (fun v1173 z1174 => ?_)
                      have r1175 := R_eq z1174
                      exact r_ret S hr hlk X1038 ⟨q1041, F1047, (R_of r1175 rfl), (by rw [((q1042 131 4 (by decide)).trans z978)]; exact R_of r977 rfl), (by rw [((q1042 131 11 (by decide)).trans z981)]; exact R_of r980 rfl), (by have h1_0 := congrArg Int32.toInt ((q1042 131 4 (by decide)).trans z978); have h2_0 := congrArg Int32.toInt z2; omega), (by have h1_0 := congrArg Int32.toInt ((q1042 131 4 (by decide)).trans z978); have h2_0 := congrArg Int32.toInt z2; omega), (QM_l (by rw [← he992, show 10 - cnt op987 = (9 - cnt op987) + 1 by (have q := cnt_le op987; omega)]; exact thn_l (sOps_l (fun h => p1027 ⟨h.1, by have q := h.2; omega⟩) (sOp_l1 e1170))) (by omega) h1171 h1172)⟩ (nr_bool (R_of (lo := 0) (hi := 1) r1175 rfl)) dX12_readMan_112
              exact L982 _ t467 _ _ _ v108 v110 X470 I468 F469 z471 z472 ⟨by omega, by omega⟩ z473 ⟨by omega, by omega⟩ ⟨g122.2, (fun _ => false), ⟨MT_fr hR137.1 ((kp482).trans rfl) ((kp483).trans rfl) ((kp484).trans rfl) ((kp485).trans rfl) ((kp486).trans rfl) ((kp487).trans rfl) (fun j => ((kp478 j).trans rfl)) (fun j => ((kp479 j).trans rfl)), RH_fr hR137.2.1 ((kp488).trans rfl) x477 (fun j => ((kp480 j).trans rfl)), RS_fr hR137.2.2 (fun j => ((kp481 j).trans rfl))⟩, (by rw [sNum_s e123]; rfl), (by rw [show qof t467 136 (28 + (gmn fs.2).length) = qof t54 136 v48.toInt.toNat from by rw [show v48.toInt.toNat = 28 + (gmn fs.2).length by omega]; exact (qof_of (k := 136) (fun j => ((kp480 j).trans ((M133.2 336 j (Or.inl (by decide))).trans ((q99 336 j (by simp [fz])).trans rfl)))) _)]; exact hP87.2.1), RQ_0 (fun a ha => x476 a (by omega)), (by rw [sMan_m (by omega) e86, thn_r e123]; rfl)⟩ (by omega) (lv_sub hl [0, 1] rfl) (Nat.lt_succ_self _)
            ·
              have r1176 : R (0) (8) i465 := ⟨by omega, by omega⟩
              refine r_aload_n S dX12_readMan_66 rfl (lv_at hl 0 rfl) ?_
              refine r_get (K := 38) (v := .ref (G.2.2.2.1 134)) S X470 (Nat.le_of_ble_eq_true rfl) rfl lk12_37_10 (fun _ => ⟨_, rfl, rfl⟩) dX12_readMan_67 ?_
              refine r_bipush S dX12_readMan_70 (by decide) (fun v1177 z1178 => ?_)
              have r1179 := R_eq z1178
              refine r_bipush S dX12_readMan_72 (by decide) (fun v1180 z1181 => ?_)
              have r1182 := R_eq z1181
              refine r_iload_n S dX12_readMan_74 rfl (lv_at hl 1 rfl) ?_
              refine r_imul S dX12_readMan_75 (fun v1183 z1184 => ?_)
              obtain ⟨e1185, r1186⟩ := i_mul (lo := 0) (hi := 81) z1184 r1182 r22 rfl rfl
              have e1187 : v1183.toInt = 9 * v14.toInt := by rw [e1185, show v1180.toInt = 9 by omega]
              refine r_iadd S dX12_readMan_76 (fun v1188 z1189 => ?_)
              obtain ⟨e1190, r1191⟩ := i_add (lo := 15) (hi := 96) z1189 r1179 r1186 rfl
              refine r_iload_n S dX12_readMan_77 rfl (lv_at hl 2 rfl) ?_
              refine r_iadd S dX12_readMan_78 (fun v1192 z1193 => ?_)
              obtain ⟨e1194, r1195⟩ := i_add (lo := 15) (hi := 104) z1193 r1191 r1176 rfl
              refine r_iconst S dX12_readMan_79 (by decide) (fun v1196 z1197 => ?_)
              have r1198 := R_eq z1197
              refine r_ast (n := 125) (K := 41) S X470 (Nat.le_of_ble_eq_true rfl) rfl (fun _ _ => rfl) (ix_of r1195 rfl) dX12_readMan_80 (fun t1199 H lc M1200 X1201 => ?_)
              have I1202 := Inv_mu I468 M1200 (show Rg (kd 134) _ v1196 from wrs (K := 41) (a := 15) (n := 90) (R_of r1195 rfl) (R_of (lo := -9) (hi := 9) r1198 rfl) (by decide +kernel))
              have F1203 : Fr [(131, 15), (131, 16), (131, 4), (131, 11), (131, 12), (131, 13), (131, 14), (131, 18), (131, 21)] [134, 331, 336] τ t1199 := Fr_cell F469 M1200 (by decide)
              refine r_iinc (k := 2) S dX12_readMan_81 hl rfl (by decide) (by decide) (fun v1204 d1205 ls z1206 z1207 hl => ?_)
              obtain ⟨e1208, r1209⟩ := i_add (lo := 1) (hi := 9) z1206 r1176 (R_eq z1207) rfl
              have hl : lv_has ls 3 [(2, .int v1204), (0, .ref (G.2.2.2.1 131)), (1, .int v14)] := hl
              refine r_goto (tgt := 60) S dX12_readMan_84 (by decide) ?_
              exact ih489 t1199 _ _ _ v1204 X1201 I1202 F1203 (R_of r1209 rfl) ((M1200.2 134 1 (Or.inr (ixne r1195 rfl))).trans z471) ((M1200.2 131 4 (Or.inl (by decide))).trans z472) ((M1200.2 131 11 (Or.inl (by decide))).trans z473) ((M1200.2 131 18 (Or.inl (by decide))).trans z474) (fun j hj => by by_cases e : 15 + 9 * v14.toInt.toNat + j = v1192.toNatClampNeg; (rw [e, M1200.1]; omega); (rw [M1200.2 134 _ (Or.inr e)]; exact x476 j (by have c : v1192.toNatClampNeg = v1192.toInt.toNat := rfl; omega))) (fun j hj => (M1200.2 134 j (Or.inr (by have c : v1192.toNatClampNeg = v1192.toInt.toNat := rfl; omega))).trans (x477 j hj)) (fun j => ((M1200.2 132 j (Or.inl (by decide))).trans ((kp478 j).trans rfl))) (fun j => ((M1200.2 331 j (Or.inl (by decide))).trans ((kp479 j).trans rfl))) (fun j => ((M1200.2 336 j (Or.inl (by decide))).trans ((kp480 j).trans rfl))) (fun j => ((M1200.2 337 j (Or.inl (by decide))).trans ((kp481 j).trans rfl))) ((M1200.2 131 3 (Or.inl (by decide))).trans ((kp482).trans rfl)) ((M1200.2 131 4 (Or.inl (by decide))).trans ((kp483).trans rfl)) ((M1200.2 131 5 (Or.inl (by decide))).trans ((kp484).trans rfl)) ((M1200.2 131 11 (Or.inl (by decide))).trans ((kp485).trans rfl)) ((M1200.2 131 12 (Or.inl (by decide))).trans ((kp486).trans rfl)) ((M1200.2 131 14 (Or.inl (by decide))).trans ((kp487).trans rfl)) ((M1200.2 131 20 (Or.inl (by decide))).trans ((kp488).trans rfl)) (lv_sub hl [1, 2, 0] rfl) (by omega)
        exact L475 _ t132 _ _ _ v138 X134 I135 F136 (R_of r140 rfl) ((M133.2 134 1 (Or.inr (ixne r131 rfl))).trans ((q99 134 1 (by decide)).trans ((q57 134 1 (by decide)).trans ((q27 134 1 (by decide)).trans (zc (n := 1) (by omega) z15))))) ((M133.2 131 4 (Or.inl (by decide))).trans z109) ((M133.2 131 11 (Or.inl (by decide))).trans z111) ((M133.2 131 18 (Or.inl (by decide))).trans z120) (fun j hj => by exfalso; omega) (fun j _ => rfl) (fun j => rfl) (fun j => rfl) (fun j => rfl) (fun j => rfl) rfl rfl rfl rfl rfl rfl rfl (lv_sub hl [2, 1, 0] rfl) (Nat.lt_succ_self _)
      ·
        have r1210 : R (0) (0) v97 := ⟨by omega, by omega⟩
        have p1211 := (QM_0 q106) (by omega)
        obtain ⟨q1212, e1213, h1214, h1215⟩ := p1211
        refine r_iconst S dX12_readMan_44 (by decide) (fun v1216 z1217 => ?_)
        have r1218 := R_eq z1217
        exact r_ret S hr hlk X95 ⟨q98, F107, (R_of r1218 rfl), (by rw [z109]; exact R_of q102 rfl), (by rw [z111]; exact R_of q103 rfl), (by have h1_0 := congrArg Int32.toInt z109; have h2_0 := congrArg Int32.toInt z2; omega), (by have h1_0 := congrArg Int32.toInt z109; have h2_0 := congrArg Int32.toInt z2; omega), (QM_l ((sMan_m (by omega) e86).trans (thn_l e1213)) (by omega) h1214 h1215)⟩ (nr_bool (R_of (lo := 0) (hi := 1) r1218 rfl)) dX12_readMan_45
  ·
    have r1219 : R (10) (10) v14 := ⟨by omega, by omega⟩
    refine r_aload_n S dX12_readMan_13 rfl (lv_at hl 1 rfl) ?_
    refine r_iconst S dX12_readMan_14 (by decide) (fun v1220 z1221 => ?_)
    have r1222 := R_eq z1221
    refine r_ki (q_V (As := [.int v1220]) (rest := []) (K := 38) (ci := 10) S X (c_X12_bad_q l G τ hI v1220 (R_of (lo := -2147483648) (hi := 2147483647) r1222 rfl)) ck12_183 (Nat.le_of_ble_eq_true rfl) rfl (fun _ => ⟨_, rfl⟩) ⟨_, _, rfl⟩ ⟨Nat.le_of_ble_eq_true rfl, Nat.le_of_ble_eq_true rfl⟩ rfl hl.1 rfl (Nat.le_of_ble_eq_true rfl) dX12_readMan_15 ⟨Nat.le_refl 0, Nat.le_refl 0⟩) X (fun v1226 t1225 H lc q1223 X1224 => ?_)
    unfold po_X12_bad_q at q1223
    obtain ⟨q1227, q1228, q1229, q1230⟩ := q1223
    have F1231 : Fr [(131, 15), (131, 16), (131, 4), (131, 11), (131, 12), (131, 13), (131, 14), (131, 18), (131, 21)] [134, 331, 336] τ t1225 := Fr_call Fr_rfl q1228 (by decide)
    exact r_ret S hr hlk X1224 ⟨q1227, F1231, (R_of q1229 rfl), (by rw [((q1228 131 4 (by decide)).trans z2)]; exact R_of r3 rfl), (by rw [((q1228 131 11 (by decide)).trans z5)]; exact R_of r6 rfl), (by have h1_0 := congrArg Int32.toInt ((q1228 131 4 (by decide)).trans z2); have h2_0 := congrArg Int32.toInt z2; omega), (by have h1_0 := congrArg Int32.toInt ((q1228 131 4 (by decide)).trans z2); have h2_0 := congrArg Int32.toInt z2; omega), (QM_b (sMan_b (by omega)) (by omega) (by rw [q1230.1]; omega) (by rw [q1230.2]; exact RM_at hR))⟩ (nr_bool (R_of (lo := 0) (hi := 1) q1229 rfl)) dX12_readMan_18
def po_X12_line_q (τ : Tau)    (bb : Nat → Int) (nb : Nat) (fs : FS) (r : Int32) (u : Tau) : Prop := Inv u ∧ Fr [(131, 15), (131, 16), (131, 4), (131, 11), (131, 12), (131, 13), (131, 14), (131, 18), (131, 20), (131, 21)] [134, 331, 336] τ u ∧ R (0) (1) r ∧ R (0) (940) (u 131 4) ∧ R (0) (4) (u 131 11) ∧ (τ 131 4).toInt ≤ (u 131 4).toInt ∧ (r.toInt = 1 → (τ 131 4).toInt < (u 131 4).toInt) ∧ QM (sLine bb nb fs) r u (fun g => RM bb nb u g)
set_option maxHeartbeats 4000000 in
set_option maxRecDepth 100000 in
theorem c_X12_line_q (l : Launch) (G : Gx) (τ : Tau) (hI : Inv τ) (bb : Nat → Int) (nb : Nat) (fs : FS) (hR : RM bb nb τ fs) : Ci l G yX12_line cX12_line 3 (some .boolean) 5 109 [.ref (G.2.2.2.1 131)] τ (po_X12_line_q τ    bb nb fs) := by
  unfold Ci
  refine C_of (own := RX12) (by decide) rfl (Nat.le_of_ble_eq_true rfl) ?_
  intro p e s m below meth c ls S hr hlk X hl
  have hl : lv_has ls 3 [(0, .ref (G.2.2.2.1 131))] := hl
  obtain ⟨v1, z2⟩ : ∃ x, τ 131 4 = x := ⟨_, rfl⟩
  have r3 : R (0) (940) v1 := rd hI rfl z2
  obtain ⟨v4, z5⟩ : ∃ x, τ 131 11 = x := ⟨_, rfl⟩
  have r6 : R (0) (4) v4 := rd hI rfl z5
  have e7 : (τ 134 0).toInt = (((gan fs.2).length : Nat) : Int) := hR.2.1.2.2.2.2.2.1.1
  have e8 : (τ 134 1).toInt = (((gmn fs.2).length : Nat) : Int) := hR.2.1.2.2.2.2.2.2.1.1
  have ra9 : R 0 9 (τ 134 0) := rd (K := 41) hI rfl rfl
  have ra10 : R 0 10 (τ 134 1) := rd (K := 41) hI rfl rfl
  refine r_aload_n S dX12_line_0 rfl (lv_at hl 0 rfl) ?_
  refine lv_ldc2 S.1.1 S.1.2.1 S.1.2.2.2.1 (S.1.2.2.2.2 _ kw29) dX12_line_1 ?_
  refine lv_topl (fun j11 z12 => ?_)
  refine r_ki (q_V (As := [.long j11]) (rest := []) (K := 38) (ci := 10) S X (c_X12_isWord_q l G τ hI j11 bb nb 900 fs.1 (kwl.getD 0 []) hR.1 (by rw [z12]; decide +kernel) (kwl_at (by decide))) ck12_208 (Nat.le_of_ble_eq_true rfl) rfl (fun _ => ⟨_, rfl⟩) ⟨_, _, rfl⟩ ⟨Nat.le_of_ble_eq_true rfl, Nat.le_of_ble_eq_true rfl⟩ rfl hl.1 rfl (Nat.le_of_ble_eq_true rfl) dX12_line_4 ⟨Nat.le_refl 0, Nat.le_refl 0⟩) X (fun v16 t15 H lc q13 X14 => ?_)
  unfold po_X12_isWord_q at q13
  obtain ⟨q17, q18, q19⟩ := q13
  rw [q17] at X14
  refine r_if_eq (tgt := 20) S dX12_line_7 (by decide) (fun c20 => ?_) (fun c20 => ?_)
  ·
    have r21 : R (0) (0) v16 := ⟨by omega, by omega⟩
    have p22 := (iff_n q19) (by omega)
    refine r_aload_n S dX12_line_20 rfl (lv_at hl 0 rfl) ?_
    refine lv_ldc2 S.1.1 S.1.2.1 S.1.2.2.2.1 (S.1.2.2.2.2 _ kw30) dX12_line_21 ?_
    refine lv_topl (fun j23 z24 => ?_)
    refine r_ki (q_V (As := [.long j23]) (rest := []) (K := 38) (ci := 10) S X14 (c_X12_isWord_q l G τ hI j23 bb nb 900 fs.1 (kwl.getD 1 []) hR.1 (by rw [z24]; decide +kernel) (kwl_at (by decide))) ck12_208 (Nat.le_of_ble_eq_true rfl) rfl (fun _ => ⟨_, rfl⟩) ⟨_, _, rfl⟩ ⟨Nat.le_of_ble_eq_true rfl, Nat.le_of_ble_eq_true rfl⟩ rfl hl.1 rfl (Nat.le_of_ble_eq_true rfl) dX12_line_24 ⟨Nat.le_refl 0, Nat.le_refl 0⟩) X14 (fun v28 t27 H lc q25 X26 => ?_)
    unfold po_X12_isWord_q at q25
    obtain ⟨q29, q30, q31⟩ := q25
    rw [q29] at X26
    refine r_if_eq (tgt := 40) S dX12_line_27 (by decide) (fun c32 => ?_) (fun c32 => ?_)
    ·
      have r33 : R (0) (0) v28 := ⟨by omega, by omega⟩
      have p34 := (iff_n q31) (by omega)
      refine r_aload_n S dX12_line_40 rfl (lv_at hl 0 rfl) ?_
      refine lv_ldc2 S.1.1 S.1.2.1 S.1.2.2.2.1 (S.1.2.2.2.2 _ kw31) dX12_line_41 ?_
      refine lv_topl (fun j35 z36 => ?_)
      refine r_ki (q_V (As := [.long j35]) (rest := []) (K := 38) (ci := 10) S X26 (c_X12_isWord_q l G τ hI j35 bb nb 900 fs.1 (kwl.getD 2 []) hR.1 (by rw [z36]; decide +kernel) (kwl_at (by decide))) ck12_208 (Nat.le_of_ble_eq_true rfl) rfl (fun _ => ⟨_, rfl⟩) ⟨_, _, rfl⟩ ⟨Nat.le_of_ble_eq_true rfl, Nat.le_of_ble_eq_true rfl⟩ rfl hl.1 rfl (Nat.le_of_ble_eq_true rfl) dX12_line_44 ⟨Nat.le_refl 0, Nat.le_refl 0⟩) X26 (fun v40 t39 H lc q37 X38 => ?_)
      unfold po_X12_isWord_q at q37
      obtain ⟨q41, q42, q43⟩ := q37
      rw [q41] at X38
      refine r_if_eq (tgt := 101) S dX12_line_47 (by decide) (fun c44 => ?_) (fun c44 => ?_)
      ·
        have r45 : R (0) (0) v40 := ⟨by omega, by omega⟩
        have p46 := (iff_n q43) (by omega)
        refine r_aload_n S dX12_line_101 rfl (lv_at hl 0 rfl) ?_
        refine lv_ldc2 S.1.1 S.1.2.1 S.1.2.2.2.1 (S.1.2.2.2.2 _ kw32) dX12_line_102 ?_
        refine lv_topl (fun j47 z48 => ?_)
        refine r_ki (q_V (As := [.long j47]) (rest := []) (K := 38) (ci := 10) S X38 (c_X12_isWord_q l G τ hI j47 bb nb 900 fs.1 (kwl.getD 3 []) hR.1 (by rw [z48]; decide +kernel) (kwl_at (by decide))) ck12_208 (Nat.le_of_ble_eq_true rfl) rfl (fun _ => ⟨_, rfl⟩) ⟨_, _, rfl⟩ ⟨Nat.le_of_ble_eq_true rfl, Nat.le_of_ble_eq_true rfl⟩ rfl hl.1 rfl (Nat.le_of_ble_eq_true rfl) dX12_line_105 ⟨Nat.le_refl 0, Nat.le_refl 0⟩) X38 (fun v52 t51 H lc q49 X50 => ?_)
        unfold po_X12_isWord_q at q49
        obtain ⟨q53, q54, q55⟩ := q49
        rw [q53] at X50
        refine r_if_eq (tgt := 116) S dX12_line_108 (by decide) (fun c56 => ?_) (fun c56 => ?_)
        ·
          have r57 : R (0) (0) v52 := ⟨by omega, by omega⟩
          have p58 := (iff_n q55) (by omega)
          refine r_aload_n S dX12_line_116 rfl (lv_at hl 0 rfl) ?_
          refine lv_ldc2 S.1.1 S.1.2.1 S.1.2.2.2.1 (S.1.2.2.2.2 _ kw33) dX12_line_117 ?_
          refine lv_topl (fun j59 z60 => ?_)
          refine r_ki (q_V (As := [.long j59]) (rest := []) (K := 38) (ci := 10) S X50 (c_X12_isWord_q l G τ hI j59 bb nb 900 fs.1 (kwl.getD 6 []) hR.1 (by rw [z60]; decide +kernel) (kwl_at (by decide))) ck12_208 (Nat.le_of_ble_eq_true rfl) rfl (fun _ => ⟨_, rfl⟩) ⟨_, _, rfl⟩ ⟨Nat.le_of_ble_eq_true rfl, Nat.le_of_ble_eq_true rfl⟩ rfl hl.1 rfl (Nat.le_of_ble_eq_true rfl) dX12_line_120 ⟨Nat.le_refl 0, Nat.le_refl 0⟩) X50 (fun v64 t63 H lc q61 X62 => ?_)
          unfold po_X12_isWord_q at q61
          obtain ⟨q65, q66, q67⟩ := q61
          rw [q65] at X62
          refine r_istore_n (lv' := [(1, .int v64), (0, .ref (G.2.2.2.1 131))]) S dX12_line_123 rfl hl (by decide) rfl (fun ls hl => ?_)
          refine r_iload_n S dX12_line_124 rfl (lv_at hl 0 rfl) ?_
          refine r_if_ne (tgt := 144) S dX12_line_125 (by decide) (fun c68 => ?_) (fun c68 => ?_)
          ·
            have r69 : R (1) (1) v64 := ⟨by omega, by omega⟩
            have p70 := (q67).mp (by omega)
            refine r_aload_n S dX12_line_144 rfl (lv_at hl 1 rfl) ?_
            refine r_kv (q_V (As := []) (rest := []) (K := 38) (ci := 10) S X62 (c_X12_skip_q l G τ hI bb nb 900 fs.1.2.2 (MT_st hR.1 (Or.inl p70.1)).1 (MT_st hR.1 (Or.inl p70.1)).2.1 (MT_st hR.1 (Or.inl p70.1)).2.2) ck12_186 (Nat.le_of_ble_eq_true rfl) rfl (fun _ => ⟨_, rfl⟩) ⟨_, _, rfl⟩ ⟨Nat.le_of_ble_eq_true rfl, Nat.le_of_ble_eq_true rfl⟩ rfl hl.1 rfl (Nat.le_of_ble_eq_true rfl) dX12_line_145 ⟨Nat.le_refl 0, Nat.le_refl 0⟩) X62 (fun t73 H lc q71 X72 => ?_)
            unfold po_X12_skip_q at q71
            obtain ⟨q74, q75, q76, q77, q78, q79, q80⟩ := q71
            have F81 : Fr [(131, 15), (131, 16), (131, 4), (131, 11), (131, 12), (131, 13), (131, 14), (131, 18), (131, 20), (131, 21)] [134, 331, 336] τ t73 := Fr_call Fr_rfl q75 (by decide)
            obtain ⟨v82, z83⟩ : ∃ x, t73 131 4 = x := ⟨_, rfl⟩
            rw [z83] at q76
            obtain ⟨v84, z85⟩ : ∃ x, t73 131 11 = x := ⟨_, rfl⟩
            rw [z85] at q77
            have e86 := congrArg Int32.toInt z2
            have e87 := congrArg Int32.toInt z83
            have e88 := congrArg Int32.toInt z2
            have e89 := congrArg Int32.toInt z83
            have e90 := congrArg Int32.toInt z5
            have e91 := congrArg Int32.toInt z85
            have hR92 : RM bb nb t73 (stp bb nb fs) := ⟨q80, RH_fr hR.2.1 ((q75 131 20 (by decide)).trans rfl) (fun j _ => ((q75 134 j (by simp [fz])).trans rfl)) (fun j => ((q75 336 j (by simp [fz])).trans rfl)), RS_fr hR.2.2 (fun j => ((q75 337 j (by simp [fz])).trans rfl))⟩
            refine r_aload_n S dX12_line_148 rfl (lv_at hl 1 rfl) ?_
            refine r_bipush S dX12_line_149 (by decide) (fun v93 z94 => ?_)
            have r95 := R_eq z94
            refine r_aload_n S dX12_line_151 rfl (lv_at hl 1 rfl) ?_
            refine r_get (K := 38) (v := .ref (G.2.2.2.1 134)) S X72 (Nat.le_of_ble_eq_true rfl) rfl lk12_37_10 (fun _ => ⟨_, rfl, rfl⟩) dX12_line_152 ?_
            refine r_iconst S dX12_line_155 (by decide) (fun v96 z97 => ?_)
            have r98 := R_eq z97
            refine r_aldn (n := 125) (K := 41) S X72 (Nat.le_of_ble_eq_true rfl) rfl (fun _ => rfl) (ix_of r98 rfl) dX12_line_156 (fun v99 z100 => ?_)
            have r101 : R (0) (10) v99 := rds (K := 41) (a := 1) (n := 1) q74 rfl z100 (R_of r98 rfl) (by decide +kernel)
            refine r_ki (q_V (As := [.int v93, .int v99]) (rest := []) (K := 38) (ci := 10) S X72 (c_X12_looksAt_qm l G t73 q74 v93 v99 r95 r101 bb nb (stp bb nb fs) hR92 (by have q := hR92.2.1.2.2.2.2.2.2.1.1; rw [(zc (n := 1) (by omega) z100)] at q; exact q)) ck12_204 (Nat.le_of_ble_eq_true rfl) rfl (fun _ => ⟨_, rfl⟩) ⟨_, _, rfl⟩ ⟨Nat.le_of_ble_eq_true rfl, Nat.le_of_ble_eq_true rfl⟩ rfl hl.1 rfl (Nat.le_of_ble_eq_true rfl) dX12_line_157 ⟨Nat.le_refl 0, Nat.le_refl 0⟩) X72 (fun v105 t104 H lc q102 X103 => ?_)
            unfold po_X12_looksAt_qm at q102
            obtain ⟨q106, q107, q108, q109, q110, q111⟩ := q102
            have F112 : Fr [(131, 15), (131, 16), (131, 4), (131, 11), (131, 12), (131, 13), (131, 14), (131, 18), (131, 20), (131, 21)] [134, 331, 336] τ t104 := Fr_call F81 q107 (by decide)
            have e113 := congrArg Int32.toInt z85
            have e114 := congrArg Int32.toInt ((q107 131 11 (by decide)).trans z85)
            refine r_if_ne (tgt := 165) S dX12_line_160 (by decide) (fun c115 => ?_) (fun c115 => ?_)
            ·
              have r116 : R (1) (1) v105 := ⟨by omega, by omega⟩
              have p117 := q109 (by omega)
              obtain ⟨v118, z119⟩ : ∃ x, t104 131 18 = x := ⟨_, rfl⟩
              rw [z119] at p117
              have p120 := (QM_1 q111) (by omega)
              obtain ⟨g121, e122, hP123⟩ := p120
              refine r_aload_n S dX12_line_165 rfl (lv_at hl 1 rfl) ?_
              refine r_geti (K := 38) S X103 (Nat.le_of_ble_eq_true rfl) rfl lk12_193_10 (fun _ => ⟨_, rfl, rfl⟩) z119 dX12_line_166 ?_
              have e124 : v118.toInt = g121 := by rw [← z119]; exact hP123.1
              have e125 := sLook_x e122
              refine r_istore_n (lv' := [(2, .int v118), (1, .int v64), (0, .ref (G.2.2.2.1 131))]) S dX12_line_169 rfl hl (by decide) rfl (fun ls hl => ?_)
              refine r_iload_n S dX12_line_170 rfl (lv_at hl 1 rfl) ?_
              refine r_if_eq (tgt := 192) S dX12_line_171 (by decide) (fun c126 => ?_) (fun c126 => ?_)
              ·
                exfalso; omega
              ·
                refine r_aload_n S dX12_line_174 rfl (lv_at hl 2 rfl) ?_
                refine r_get (K := 38) (v := .ref (G.2.2.2.1 134)) S X103 (Nat.le_of_ble_eq_true rfl) rfl lk12_37_10 (fun _ => ⟨_, rfl, rfl⟩) dX12_line_175 ?_
                refine r_bipush S dX12_line_178 (by decide) (fun v127 z128 => ?_)
                have r129 := R_eq z128
                refine r_iload_n S dX12_line_180 rfl (lv_at hl 0 rfl) ?_
                refine r_iadd S dX12_line_181 (fun v130 z131 => ?_)
                obtain ⟨e132, r133⟩ := i_add (lo := 105) (hi := 114) z131 r129 p117 rfl
                refine r_aldn (n := 125) (K := 41) S X103 (Nat.le_of_ble_eq_true rfl) rfl (fun _ => rfl) (ix_of r133 rfl) dX12_line_182 (fun v134 z135 => ?_)
                have r136 : R (0) (10) v134 := rds (K := 41) (a := 105) (n := 10) q106 rfl z135 (R_of r133 rfl) (by decide +kernel)
                have g137 : Rg 41 v130.toNatClampNeg v134 := rd q106 rfl z135
                have ho138 : (0 < v134.toInt ↔ gpa fs.2 g121 = true) := by have q := hP123.2.2.1.2.2.2.2.2.2.2.1 g121 (by omega); rw [show 105 + g121 = v130.toNatClampNeg by (have c : v130.toNatClampNeg = v130.toInt.toNat := rfl; omega), z135] at q; exact q
                refine r_if_le (tgt := 192) S dX12_line_183 (by decide) (fun c139 => ?_) (fun c139 => ?_)
                ·
                  have r140 : R (0) (0) v134 := ⟨by omega, by omega⟩
                  refine r_aload_n S dX12_line_192 rfl (lv_at hl 2 rfl) ?_
                  refine r_kv (q_V (As := []) (rest := []) (K := 38) (ci := 10) S X103 (c_X12_skip_q l G t104 q106 bb nb 900 (stp bb nb fs).1.2.2 (MT_st hP123.2.1 (Or.inl (sLook_n e122).1)).1 (MT_st hP123.2.1 (Or.inl (sLook_n e122).1)).2.1 (MT_st hP123.2.1 (Or.inl (sLook_n e122).1)).2.2) ck12_186 (Nat.le_of_ble_eq_true rfl) rfl (fun _ => ⟨_, rfl⟩) ⟨_, _, rfl⟩ ⟨Nat.le_of_ble_eq_true rfl, Nat.le_of_ble_eq_true rfl⟩ rfl hl.1 rfl (Nat.le_of_ble_eq_true rfl) dX12_line_193 ⟨Nat.le_refl 0, Nat.le_refl 0⟩) X103 (fun t143 H lc q141 X142 => ?_)
                  unfold po_X12_skip_q at q141
                  obtain ⟨q144, q145, q146, q147, q148, q149, q150⟩ := q141
                  have F151 : Fr [(131, 15), (131, 16), (131, 4), (131, 11), (131, 12), (131, 13), (131, 14), (131, 18), (131, 20), (131, 21)] [134, 331, 336] τ t143 := Fr_call F112 q145 (by decide)
                  obtain ⟨v152, z153⟩ : ∃ x, t143 131 4 = x := ⟨_, rfl⟩
                  rw [z153] at q146
                  obtain ⟨v154, z155⟩ : ∃ x, t143 131 11 = x := ⟨_, rfl⟩
                  rw [z155] at q147
                  have e156 := congrArg Int32.toInt ((q107 131 4 (by decide)).trans z83)
                  have e157 := congrArg Int32.toInt z153
                  have e158 := congrArg Int32.toInt ((q107 131 4 (by decide)).trans z83)
                  have e159 := congrArg Int32.toInt z153
                  have e160 := congrArg Int32.toInt ((q107 131 11 (by decide)).trans z85)
                  have e161 := congrArg Int32.toInt z155
                  have hR162 : RM bb nb t143 (stp bb nb (stp bb nb fs)) := ⟨q150, RH_fr hP123.2.2.1 ((q145 131 20 (by decide)).trans rfl) (fun j _ => ((q145 134 j (by simp [fz])).trans rfl)) (fun j => ((q145 336 j (by simp [fz])).trans rfl)), RS_fr hP123.2.2.2 (fun j => ((q145 337 j (by simp [fz])).trans rfl))⟩
                  refine r_aload_n S dX12_line_196 rfl (lv_at hl 2 rfl) ?_
                  refine r_bipush S dX12_line_197 (by decide) (fun v163 z164 => ?_)
                  have r165 := R_eq z164
                  refine r_aload_n S dX12_line_199 rfl (lv_at hl 2 rfl) ?_
                  refine r_get (K := 38) (v := .ref (G.2.2.2.1 134)) S X142 (Nat.le_of_ble_eq_true rfl) rfl lk12_37_10 (fun _ => ⟨_, rfl, rfl⟩) dX12_line_200 ?_
                  refine r_iconst S dX12_line_203 (by decide) (fun v166 z167 => ?_)
                  have r168 := R_eq z167
                  refine r_aldi (x := v99) (n := 125) (K := 41) S X142 (Nat.le_of_ble_eq_true rfl) rfl (fun _ => rfl) (ix_of r168 rfl) (zc' (n := 1) (by omega) ((q145 134 1 (by decide)).trans ((q107 134 1 (by decide)).trans (zc (n := 1) (by omega) z100)))) dX12_line_204 ?_
                  refine r_ki (q_V (As := [.int v163, .int v99]) (rest := []) (K := 38) (ci := 10) S X142 (c_X12_looksAt_qm l G t143 q144 v163 v99 r165 r101 bb nb (stp bb nb (stp bb nb fs)) hR162 (by have q := hR162.2.1.2.2.2.2.2.2.1.1; rw [((q145 134 1 (by decide)).trans ((q107 134 1 (by decide)).trans (zc (n := 1) (by omega) z100)))] at q; exact q)) ck12_204 (Nat.le_of_ble_eq_true rfl) rfl (fun _ => ⟨_, rfl⟩) ⟨_, _, rfl⟩ ⟨Nat.le_of_ble_eq_true rfl, Nat.le_of_ble_eq_true rfl⟩ rfl hl.1 rfl (Nat.le_of_ble_eq_true rfl) dX12_line_205 ⟨Nat.le_refl 0, Nat.le_refl 0⟩) X142 (fun v173 t172 H lc q170 X171 => ?_)
                  unfold po_X12_looksAt_qm at q170
                  obtain ⟨q174, q175, q176, q177, q178, q179⟩ := q170
                  have F180 : Fr [(131, 15), (131, 16), (131, 4), (131, 11), (131, 12), (131, 13), (131, 14), (131, 18), (131, 20), (131, 21)] [134, 331, 336] τ t172 := Fr_call F151 q175 (by decide)
                  have e181 := congrArg Int32.toInt z155
                  have e182 := congrArg Int32.toInt ((q175 131 11 (by decide)).trans z155)
                  refine r_if_ne (tgt := 213) S dX12_line_208 (by decide) (fun c183 => ?_) (fun c183 => ?_)
                  ·
                    have r184 : R (1) (1) v173 := ⟨by omega, by omega⟩
                    have p185 := q177 (by omega)
                    obtain ⟨v186, z187⟩ : ∃ x, t172 131 18 = x := ⟨_, rfl⟩
                    rw [z187] at p185
                    have p188 := (QM_1 q179) (by omega)
                    obtain ⟨g189, e190, hP191⟩ := p188
                    refine r_aload_n S dX12_line_213 rfl (lv_at hl 2 rfl) ?_
                    refine r_geti (K := 38) S X171 (Nat.le_of_ble_eq_true rfl) rfl lk12_193_10 (fun _ => ⟨_, rfl, rfl⟩) z187 dX12_line_214 ?_
                    have e192 : v186.toInt = g189 := by rw [← z187]; exact hP191.1
                    have e193 := sLook_x e190
                    refine r_iload_n S dX12_line_217 rfl (lv_at hl 0 rfl) ?_
                    refine r_icmp_eq (tgt := 244) S dX12_line_218 (by decide) (fun c194 => ?_) (fun c194 => ?_)
                    ·
                      refine r_aload_n S dX12_line_244 rfl (lv_at hl 2 rfl) ?_
                      refine r_iconst S dX12_line_245 (by decide) (fun v195 z196 => ?_)
                      have r197 := R_eq z196
                      refine r_ki (q_V (As := [.int v195]) (rest := []) (K := 38) (ci := 10) S X171 (c_X12_bad_q l G t172 q174 v195 (R_of (lo := -2147483648) (hi := 2147483647) r197 rfl)) ck12_183 (Nat.le_of_ble_eq_true rfl) rfl (fun _ => ⟨_, rfl⟩) ⟨_, _, rfl⟩ ⟨Nat.le_of_ble_eq_true rfl, Nat.le_of_ble_eq_true rfl⟩ rfl hl.1 rfl (Nat.le_of_ble_eq_true rfl) dX12_line_246 ⟨Nat.le_refl 0, Nat.le_refl 0⟩) X171 (fun v201 t200 H lc q198 X199 => ?_)
                      unfold po_X12_bad_q at q198
                      obtain ⟨q202, q203, q204, q205⟩ := q198
                      have F206 : Fr [(131, 15), (131, 16), (131, 4), (131, 11), (131, 12), (131, 13), (131, 14), (131, 18), (131, 20), (131, 21)] [134, 331, 336] τ t200 := Fr_call F180 q203 (by decide)
                      exact r_ret S hr hlk X199 ⟨q202, F206, (R_of q204 rfl), (by rw [((q203 131 4 (by decide)).trans ((q175 131 4 (by decide)).trans z153))]; exact R_of q146 rfl), (by rw [((q203 131 11 (by decide)).trans ((q175 131 11 (by decide)).trans z155))]; exact R_of q147 rfl), (by have h1_0 := congrArg Int32.toInt ((q203 131 4 (by decide)).trans ((q175 131 4 (by decide)).trans z153)); have h2_0 := congrArg Int32.toInt z2; omega), (by have h1_0 := congrArg Int32.toInt ((q203 131 4 (by decide)).trans ((q175 131 4 (by decide)).trans z153)); have h2_0 := congrArg Int32.toInt z2; omega), (QM_b ((sLine_6 p22 p34 p46 p58 p70).trans (sChild_b2 e122 (fun h => absurd (ho138.mpr h) (by omega)) e190 (by omega))) (by omega) (by rw [q205.1]; omega) (by rw [q205.2]; exact RM_at hP191.2))⟩ (nr_bool (R_of (lo := 0) (hi := 1) q204 rfl)) dX12_line_249
                    ·
                      refine r_iload_n S dX12_line_221 rfl (lv_at hl 1 rfl) ?_
                      refine r_if_ne (tgt := 250) S dX12_line_222 (by decide) (fun c207 => ?_) (fun c207 => ?_)
                      ·
                        refine r_iload_n S dX12_line_250 rfl (lv_at hl 1 rfl) ?_
                        refine r_if_eq (tgt := 272) S dX12_line_251 (by decide) (fun c208 => ?_) (fun c208 => ?_)
                        ·
                          exfalso; omega
                        ·
                          refine r_aload_n S dX12_line_254 rfl (lv_at hl 2 rfl) ?_
                          refine r_get (K := 38) (v := .ref (G.2.2.2.1 134)) S X171 (Nat.le_of_ble_eq_true rfl) rfl lk12_37_10 (fun _ => ⟨_, rfl, rfl⟩) dX12_line_255 ?_
                          refine r_bipush S dX12_line_258 (by decide) (fun v209 z210 => ?_)
                          have r211 := R_eq z210
                          refine r_iload_n S dX12_line_260 rfl (lv_at hl 0 rfl) ?_
                          refine r_iadd S dX12_line_261 (fun v212 z213 => ?_)
                          obtain ⟨e214, r215⟩ := i_add (lo := 105) (hi := 114) z213 r211 p117 rfl
                          refine r_aload_n S dX12_line_262 rfl (lv_at hl 2 rfl) ?_
                          refine r_geti (K := 38) S X171 (Nat.le_of_ble_eq_true rfl) rfl lk12_193_10 (fun _ => ⟨_, rfl, rfl⟩) z187 dX12_line_263 ?_
                          refine r_iconst S dX12_line_266 (by decide) (fun v216 z217 => ?_)
                          have r218 := R_eq z217
                          refine r_iadd S dX12_line_267 (fun v219 z220 => ?_)
                          obtain ⟨e221, r222⟩ := i_add (lo := 1) (hi := 10) z220 p185 r218 rfl
                          refine r_ast (n := 125) (K := 41) S X171 (Nat.le_of_ble_eq_true rfl) rfl (fun _ _ => rfl) (ix_of r215 rfl) dX12_line_268 (fun t223 H lc M224 X225 => ?_)
                          have I226 := Inv_mu q174 M224 (show Rg (kd 134) _ v219 from wrs (K := 41) (a := 105) (n := 10) (R_of r215 rfl) (R_of (lo := 0) (hi := 10) r222 rfl) (by decide +kernel))
                          have F227 : Fr [(131, 15), (131, 16), (131, 4), (131, 11), (131, 12), (131, 13), (131, 14), (131, 18), (131, 20), (131, 21)] [134, 331, 336] τ t223 := Fr_cell F180 M224 (by decide)
                          have hR228 : RM bb nb t223 ((stp bb nb (stp bb nb fs)).1, upa fs.2 g121) := ⟨MT_fr hP191.2.1 ((M224.2 131 3 (Or.inl (by decide))).trans rfl) ((M224.2 131 4 (Or.inl (by decide))).trans rfl) ((M224.2 131 5 (Or.inl (by decide))).trans rfl) ((M224.2 131 11 (Or.inl (by decide))).trans rfl) ((M224.2 131 12 (Or.inl (by decide))).trans rfl) ((M224.2 131 14 (Or.inl (by decide))).trans rfl) (fun j => ((M224.2 132 j (Or.inl (by decide))).trans rfl)) (fun j => ((M224.2 331 j (Or.inl (by decide))).trans rfl)), RH_pa (s := fs.2) hP191.2.2.1 M224 (by have c : v212.toNatClampNeg = v212.toInt.toNat := rfl; omega) (by omega) (by omega), RS_fr hP191.2.2.2 (fun j => ((M224.2 337 j (Or.inl (by decide))).trans rfl))⟩
                          refine r_goto (tgt := 318) S dX12_line_269 (by decide) ?_
                          refine r_aload_n S dX12_line_318 rfl (lv_at hl 2 rfl) ?_
                          refine r_kv (q_V (As := []) (rest := []) (K := 38) (ci := 10) S X225 (c_X12_skip_q l G t223 I226 bb nb 900 ((stp bb nb (stp bb nb fs)).1, upa fs.2 g121).1.2.2 (MT_st hR228.1 (Or.inl (sLook_n e190).1)).1 (MT_st hR228.1 (Or.inl (sLook_n e190).1)).2.1 (MT_st hR228.1 (Or.inl (sLook_n e190).1)).2.2) ck12_186 (Nat.le_of_ble_eq_true rfl) rfl (fun _ => ⟨_, rfl⟩) ⟨_, _, rfl⟩ ⟨Nat.le_of_ble_eq_true rfl, Nat.le_of_ble_eq_true rfl⟩ rfl hl.1 rfl (Nat.le_of_ble_eq_true rfl) dX12_line_319 ⟨Nat.le_refl 0, Nat.le_refl 0⟩) X225 (fun t231 H lc q229 X230 => ?_)
                          unfold po_X12_skip_q at q229
                          obtain ⟨q232, q233, q234, q235, q236, q237, q238⟩ := q229
                          have F239 : Fr [(131, 15), (131, 16), (131, 4), (131, 11), (131, 12), (131, 13), (131, 14), (131, 18), (131, 20), (131, 21)] [134, 331, 336] τ t231 := Fr_call F227 q233 (by decide)
                          obtain ⟨v240, z241⟩ : ∃ x, t231 131 4 = x := ⟨_, rfl⟩
                          rw [z241] at q234
                          obtain ⟨v242, z243⟩ : ∃ x, t231 131 11 = x := ⟨_, rfl⟩
                          rw [z243] at q235
                          have e244 := congrArg Int32.toInt ((M224.2 131 4 (Or.inl (by decide))).trans ((q175 131 4 (by decide)).trans z153))
                          have e245 := congrArg Int32.toInt z241
                          have e246 := congrArg Int32.toInt ((M224.2 131 4 (Or.inl (by decide))).trans ((q175 131 4 (by decide)).trans z153))
                          have e247 := congrArg Int32.toInt z241
                          have e248 := congrArg Int32.toInt ((M224.2 131 11 (Or.inl (by decide))).trans ((q175 131 11 (by decide)).trans z155))
                          have e249 := congrArg Int32.toInt z243
                          have hR250 : RM bb nb t231 (stp bb nb ((stp bb nb (stp bb nb fs)).1, upa fs.2 g121)) := ⟨q238, RH_fr hR228.2.1 ((q233 131 20 (by decide)).trans rfl) (fun j _ => ((q233 134 j (by simp [fz])).trans rfl)) (fun j => ((q233 336 j (by simp [fz])).trans rfl)), RS_fr hR228.2.2 (fun j => ((q233 337 j (by simp [fz])).trans rfl))⟩
                          refine r_iconst S dX12_line_322 (by decide) (fun v251 z252 => ?_)
                          have r253 := R_eq z252
                          exact r_ret S hr hlk X230 ⟨q232, F239, (R_of r253 rfl), (by rw [z241]; exact R_of q234 rfl), (by rw [z243]; exact R_of q235 rfl), (by have h1_0 := congrArg Int32.toInt z241; have h2_0 := congrArg Int32.toInt z2; omega), (by have h1_0 := congrArg Int32.toInt z241; have h2_0 := congrArg Int32.toInt z2; omega), (QM_r ((sLine_6 p22 p34 p46 p58 p70).trans (sChild_r e122 (fun h => absurd (ho138.mpr h) (by omega)) e190 (by omega))) (by omega) hR250)⟩ (nr_bool (R_of (lo := 0) (hi := 1) r253 rfl)) dX12_line_323
                      ·
                        exfalso; omega
                  ·
                    have r254 : R (0) (0) v173 := ⟨by omega, by omega⟩
                    have p255 := (QM_0 q179) (by omega)
                    obtain ⟨q256, e257, h258, h259⟩ := p255
                    refine r_iconst S dX12_line_211 (by decide) (fun v260 z261 => ?_)
                    have r262 := R_eq z261
                    exact r_ret S hr hlk X171 ⟨q174, F180, (R_of r262 rfl), (by rw [((q175 131 4 (by decide)).trans z153)]; exact R_of q146 rfl), (by rw [((q175 131 11 (by decide)).trans z155)]; exact R_of q147 rfl), (by have h1_0 := congrArg Int32.toInt ((q175 131 4 (by decide)).trans z153); have h2_0 := congrArg Int32.toInt z2; omega), (by have h1_0 := congrArg Int32.toInt ((q175 131 4 (by decide)).trans z153); have h2_0 := congrArg Int32.toInt z2; omega), (QM_l ((sLine_6 p22 p34 p46 p58 p70).trans (sChild_l2 e122 (fun h => absurd (ho138.mpr h) (by omega)) e257)) (by omega) h258 h259)⟩ (nr_bool (R_of (lo := 0) (hi := 1) r262 rfl)) dX12_line_212
                ·
                  have r263 : R (1) (10) v134 := ⟨by omega, by omega⟩
                  refine r_aload_n S dX12_line_186 rfl (lv_at hl 2 rfl) ?_
                  refine r_iconst S dX12_line_187 (by decide) (fun v264 z265 => ?_)
                  have r266 := R_eq z265
                  refine r_ki (q_V (As := [.int v264]) (rest := []) (K := 38) (ci := 10) S X103 (c_X12_bad_q l G t104 q106 v264 (R_of (lo := -2147483648) (hi := 2147483647) r266 rfl)) ck12_183 (Nat.le_of_ble_eq_true rfl) rfl (fun _ => ⟨_, rfl⟩) ⟨_, _, rfl⟩ ⟨Nat.le_of_ble_eq_true rfl, Nat.le_of_ble_eq_true rfl⟩ rfl hl.1 rfl (Nat.le_of_ble_eq_true rfl) dX12_line_188 ⟨Nat.le_refl 0, Nat.le_refl 0⟩) X103 (fun v270 t269 H lc q267 X268 => ?_)
                  unfold po_X12_bad_q at q267
                  obtain ⟨q271, q272, q273, q274⟩ := q267
                  have F275 : Fr [(131, 15), (131, 16), (131, 4), (131, 11), (131, 12), (131, 13), (131, 14), (131, 18), (131, 20), (131, 21)] [134, 331, 336] τ t269 := Fr_call F112 q272 (by decide)
                  exact r_ret S hr hlk X268 ⟨q271, F275, (R_of q273 rfl), (by rw [((q272 131 4 (by decide)).trans ((q107 131 4 (by decide)).trans z83))]; exact R_of q76 rfl), (by rw [((q272 131 11 (by decide)).trans ((q107 131 11 (by decide)).trans z85))]; exact R_of q77 rfl), (by have h1_0 := congrArg Int32.toInt ((q272 131 4 (by decide)).trans ((q107 131 4 (by decide)).trans z83)); have h2_0 := congrArg Int32.toInt z2; omega), (by have h1_0 := congrArg Int32.toInt ((q272 131 4 (by decide)).trans ((q107 131 4 (by decide)).trans z83)); have h2_0 := congrArg Int32.toInt z2; omega), (QM_b ((sLine_6 p22 p34 p46 p58 p70).trans (sChild_b1 e122 (ho138.mp (by omega)))) (by omega) (by rw [q274.1]; omega) (by rw [q274.2]; exact RM_at hP123.2))⟩ (nr_bool (R_of (lo := 0) (hi := 1) q273 rfl)) dX12_line_191
            ·
              have r276 : R (0) (0) v105 := ⟨by omega, by omega⟩
              have p277 := (QM_0 q111) (by omega)
              obtain ⟨q278, e279, h280, h281⟩ := p277
              refine r_iconst S dX12_line_163 (by decide) (fun v282 z283 => ?_)
              have r284 := R_eq z283
              exact r_ret S hr hlk X103 ⟨q106, F112, (R_of r284 rfl), (by rw [((q107 131 4 (by decide)).trans z83)]; exact R_of q76 rfl), (by rw [((q107 131 11 (by decide)).trans z85)]; exact R_of q77 rfl), (by have h1_0 := congrArg Int32.toInt ((q107 131 4 (by decide)).trans z83); have h2_0 := congrArg Int32.toInt z2; omega), (by have h1_0 := congrArg Int32.toInt ((q107 131 4 (by decide)).trans z83); have h2_0 := congrArg Int32.toInt z2; omega), (QM_l ((sLine_6 p22 p34 p46 p58 p70).trans (sChild_l1 e279)) (by omega) h280 h281)⟩ (nr_bool (R_of (lo := 0) (hi := 1) r284 rfl)) dX12_line_164
          ·
            have r285 : R (0) (0) v64 := ⟨by omega, by omega⟩
            have p286 := (iff_n q67) (by omega)
            refine r_aload_n S dX12_line_128 rfl (lv_at hl 1 rfl) ?_
            refine lv_ldc2 S.1.1 S.1.2.1 S.1.2.2.2.1 (S.1.2.2.2.2 _ kw34) dX12_line_129 ?_
            refine lv_topl (fun j287 z288 => ?_)
            refine r_ki (q_V (As := [.long j287]) (rest := []) (K := 38) (ci := 10) S X62 (c_X12_isWord_q l G τ hI j287 bb nb 900 fs.1 (kwl.getD 7 []) hR.1 (by rw [z288]; decide +kernel) (kwl_at (by decide))) ck12_208 (Nat.le_of_ble_eq_true rfl) rfl (fun _ => ⟨_, rfl⟩) ⟨_, _, rfl⟩ ⟨Nat.le_of_ble_eq_true rfl, Nat.le_of_ble_eq_true rfl⟩ rfl hl.1 rfl (Nat.le_of_ble_eq_true rfl) dX12_line_132 ⟨Nat.le_refl 0, Nat.le_refl 0⟩) X62 (fun v292 t291 H lc q289 X290 => ?_)
            unfold po_X12_isWord_q at q289
            obtain ⟨q293, q294, q295⟩ := q289
            rw [q293] at X290
            refine r_if_ne (tgt := 144) S dX12_line_135 (by decide) (fun c296 => ?_) (fun c296 => ?_)
            ·
              have r297 : R (1) (1) v292 := ⟨by omega, by omega⟩
              have p298 := (q295).mp (by omega)
              refine r_aload_n S dX12_line_144 rfl (lv_at hl 1 rfl) ?_
              refine r_kv (q_V (As := []) (rest := []) (K := 38) (ci := 10) S X290 (c_X12_skip_q l G τ hI bb nb 900 fs.1.2.2 (MT_st hR.1 (Or.inl p298.1)).1 (MT_st hR.1 (Or.inl p298.1)).2.1 (MT_st hR.1 (Or.inl p298.1)).2.2) ck12_186 (Nat.le_of_ble_eq_true rfl) rfl (fun _ => ⟨_, rfl⟩) ⟨_, _, rfl⟩ ⟨Nat.le_of_ble_eq_true rfl, Nat.le_of_ble_eq_true rfl⟩ rfl hl.1 rfl (Nat.le_of_ble_eq_true rfl) dX12_line_145 ⟨Nat.le_refl 0, Nat.le_refl 0⟩) X290 (fun t301 H lc q299 X300 => ?_)
              unfold po_X12_skip_q at q299
              obtain ⟨q302, q303, q304, q305, q306, q307, q308⟩ := q299
              have F309 : Fr [(131, 15), (131, 16), (131, 4), (131, 11), (131, 12), (131, 13), (131, 14), (131, 18), (131, 20), (131, 21)] [134, 331, 336] τ t301 := Fr_call Fr_rfl q303 (by decide)
              obtain ⟨v310, z311⟩ : ∃ x, t301 131 4 = x := ⟨_, rfl⟩
              rw [z311] at q304
              obtain ⟨v312, z313⟩ : ∃ x, t301 131 11 = x := ⟨_, rfl⟩
              rw [z313] at q305
              have e314 := congrArg Int32.toInt z2
              have e315 := congrArg Int32.toInt z311
              have e316 := congrArg Int32.toInt z2
              have e317 := congrArg Int32.toInt z311
              have e318 := congrArg Int32.toInt z5
              have e319 := congrArg Int32.toInt z313
              have hR320 : RM bb nb t301 (stp bb nb fs) := ⟨q308, RH_fr hR.2.1 ((q303 131 20 (by decide)).trans rfl) (fun j _ => ((q303 134 j (by simp [fz])).trans rfl)) (fun j => ((q303 336 j (by simp [fz])).trans rfl)), RS_fr hR.2.2 (fun j => ((q303 337 j (by simp [fz])).trans rfl))⟩
              refine r_aload_n S dX12_line_148 rfl (lv_at hl 1 rfl) ?_
              refine r_bipush S dX12_line_149 (by decide) (fun v321 z322 => ?_)
              have r323 := R_eq z322
              refine r_aload_n S dX12_line_151 rfl (lv_at hl 1 rfl) ?_
              refine r_get (K := 38) (v := .ref (G.2.2.2.1 134)) S X300 (Nat.le_of_ble_eq_true rfl) rfl lk12_37_10 (fun _ => ⟨_, rfl, rfl⟩) dX12_line_152 ?_
              refine r_iconst S dX12_line_155 (by decide) (fun v324 z325 => ?_)
              have r326 := R_eq z325
              refine r_aldn (n := 125) (K := 41) S X300 (Nat.le_of_ble_eq_true rfl) rfl (fun _ => rfl) (ix_of r326 rfl) dX12_line_156 (fun v327 z328 => ?_)
              have r329 : R (0) (10) v327 := rds (K := 41) (a := 1) (n := 1) q302 rfl z328 (R_of r326 rfl) (by decide +kernel)
              refine r_ki (q_V (As := [.int v321, .int v327]) (rest := []) (K := 38) (ci := 10) S X300 (c_X12_looksAt_qm l G t301 q302 v321 v327 r323 r329 bb nb (stp bb nb fs) hR320 (by have q := hR320.2.1.2.2.2.2.2.2.1.1; rw [(zc (n := 1) (by omega) z328)] at q; exact q)) ck12_204 (Nat.le_of_ble_eq_true rfl) rfl (fun _ => ⟨_, rfl⟩) ⟨_, _, rfl⟩ ⟨Nat.le_of_ble_eq_true rfl, Nat.le_of_ble_eq_true rfl⟩ rfl hl.1 rfl (Nat.le_of_ble_eq_true rfl) dX12_line_157 ⟨Nat.le_refl 0, Nat.le_refl 0⟩) X300 (fun v333 t332 H lc q330 X331 => ?_)
              unfold po_X12_looksAt_qm at q330
              obtain ⟨q334, q335, q336, q337, q338, q339⟩ := q330
              have F340 : Fr [(131, 15), (131, 16), (131, 4), (131, 11), (131, 12), (131, 13), (131, 14), (131, 18), (131, 20), (131, 21)] [134, 331, 336] τ t332 := Fr_call F309 q335 (by decide)
              have e341 := congrArg Int32.toInt z313
              have e342 := congrArg Int32.toInt ((q335 131 11 (by decide)).trans z313)
              refine r_if_ne (tgt := 165) S dX12_line_160 (by decide) (fun c343 => ?_) (fun c343 => ?_)
              ·
                have r344 : R (1) (1) v333 := ⟨by omega, by omega⟩
                have p345 := q337 (by omega)
                obtain ⟨v346, z347⟩ : ∃ x, t332 131 18 = x := ⟨_, rfl⟩
                rw [z347] at p345
                have p348 := (QM_1 q339) (by omega)
                obtain ⟨g349, e350, hP351⟩ := p348
                refine r_aload_n S dX12_line_165 rfl (lv_at hl 1 rfl) ?_
                refine r_geti (K := 38) S X331 (Nat.le_of_ble_eq_true rfl) rfl lk12_193_10 (fun _ => ⟨_, rfl, rfl⟩) z347 dX12_line_166 ?_
                have e352 : v346.toInt = g349 := by rw [← z347]; exact hP351.1
                have e353 := sLook_x e350
                refine r_istore_n (lv' := [(2, .int v346), (1, .int v64), (0, .ref (G.2.2.2.1 131))]) S dX12_line_169 rfl hl (by decide) rfl (fun ls hl => ?_)
                refine r_iload_n S dX12_line_170 rfl (lv_at hl 1 rfl) ?_
                refine r_if_eq (tgt := 192) S dX12_line_171 (by decide) (fun c354 => ?_) (fun c354 => ?_)
                ·
                  refine r_aload_n S dX12_line_192 rfl (lv_at hl 2 rfl) ?_
                  refine r_kv (q_V (As := []) (rest := []) (K := 38) (ci := 10) S X331 (c_X12_skip_q l G t332 q334 bb nb 900 (stp bb nb fs).1.2.2 (MT_st hP351.2.1 (Or.inl (sLook_n e350).1)).1 (MT_st hP351.2.1 (Or.inl (sLook_n e350).1)).2.1 (MT_st hP351.2.1 (Or.inl (sLook_n e350).1)).2.2) ck12_186 (Nat.le_of_ble_eq_true rfl) rfl (fun _ => ⟨_, rfl⟩) ⟨_, _, rfl⟩ ⟨Nat.le_of_ble_eq_true rfl, Nat.le_of_ble_eq_true rfl⟩ rfl hl.1 rfl (Nat.le_of_ble_eq_true rfl) dX12_line_193 ⟨Nat.le_refl 0, Nat.le_refl 0⟩) X331 (fun t357 H lc q355 X356 => ?_)
                  unfold po_X12_skip_q at q355
                  obtain ⟨q358, q359, q360, q361, q362, q363, q364⟩ := q355
                  have F365 : Fr [(131, 15), (131, 16), (131, 4), (131, 11), (131, 12), (131, 13), (131, 14), (131, 18), (131, 20), (131, 21)] [134, 331, 336] τ t357 := Fr_call F340 q359 (by decide)
                  obtain ⟨v366, z367⟩ : ∃ x, t357 131 4 = x := ⟨_, rfl⟩
                  rw [z367] at q360
                  obtain ⟨v368, z369⟩ : ∃ x, t357 131 11 = x := ⟨_, rfl⟩
                  rw [z369] at q361
                  have e370 := congrArg Int32.toInt ((q335 131 4 (by decide)).trans z311)
                  have e371 := congrArg Int32.toInt z367
                  have e372 := congrArg Int32.toInt ((q335 131 4 (by decide)).trans z311)
                  have e373 := congrArg Int32.toInt z367
                  have e374 := congrArg Int32.toInt ((q335 131 11 (by decide)).trans z313)
                  have e375 := congrArg Int32.toInt z369
                  have hR376 : RM bb nb t357 (stp bb nb (stp bb nb fs)) := ⟨q364, RH_fr hP351.2.2.1 ((q359 131 20 (by decide)).trans rfl) (fun j _ => ((q359 134 j (by simp [fz])).trans rfl)) (fun j => ((q359 336 j (by simp [fz])).trans rfl)), RS_fr hP351.2.2.2 (fun j => ((q359 337 j (by simp [fz])).trans rfl))⟩
                  refine r_aload_n S dX12_line_196 rfl (lv_at hl 2 rfl) ?_
                  refine r_bipush S dX12_line_197 (by decide) (fun v377 z378 => ?_)
                  have r379 := R_eq z378
                  refine r_aload_n S dX12_line_199 rfl (lv_at hl 2 rfl) ?_
                  refine r_get (K := 38) (v := .ref (G.2.2.2.1 134)) S X356 (Nat.le_of_ble_eq_true rfl) rfl lk12_37_10 (fun _ => ⟨_, rfl, rfl⟩) dX12_line_200 ?_
                  refine r_iconst S dX12_line_203 (by decide) (fun v380 z381 => ?_)
                  have r382 := R_eq z381
                  refine r_aldi (x := v327) (n := 125) (K := 41) S X356 (Nat.le_of_ble_eq_true rfl) rfl (fun _ => rfl) (ix_of r382 rfl) (zc' (n := 1) (by omega) ((q359 134 1 (by decide)).trans ((q335 134 1 (by decide)).trans (zc (n := 1) (by omega) z328)))) dX12_line_204 ?_
                  refine r_ki (q_V (As := [.int v377, .int v327]) (rest := []) (K := 38) (ci := 10) S X356 (c_X12_looksAt_qm l G t357 q358 v377 v327 r379 r329 bb nb (stp bb nb (stp bb nb fs)) hR376 (by have q := hR376.2.1.2.2.2.2.2.2.1.1; rw [((q359 134 1 (by decide)).trans ((q335 134 1 (by decide)).trans (zc (n := 1) (by omega) z328)))] at q; exact q)) ck12_204 (Nat.le_of_ble_eq_true rfl) rfl (fun _ => ⟨_, rfl⟩) ⟨_, _, rfl⟩ ⟨Nat.le_of_ble_eq_true rfl, Nat.le_of_ble_eq_true rfl⟩ rfl hl.1 rfl (Nat.le_of_ble_eq_true rfl) dX12_line_205 ⟨Nat.le_refl 0, Nat.le_refl 0⟩) X356 (fun v387 t386 H lc q384 X385 => ?_)
                  unfold po_X12_looksAt_qm at q384
                  obtain ⟨q388, q389, q390, q391, q392, q393⟩ := q384
                  have F394 : Fr [(131, 15), (131, 16), (131, 4), (131, 11), (131, 12), (131, 13), (131, 14), (131, 18), (131, 20), (131, 21)] [134, 331, 336] τ t386 := Fr_call F365 q389 (by decide)
                  have e395 := congrArg Int32.toInt z369
                  have e396 := congrArg Int32.toInt ((q389 131 11 (by decide)).trans z369)
                  refine r_if_ne (tgt := 213) S dX12_line_208 (by decide) (fun c397 => ?_) (fun c397 => ?_)
                  ·
                    have r398 : R (1) (1) v387 := ⟨by omega, by omega⟩
                    have p399 := q391 (by omega)
                    obtain ⟨v400, z401⟩ : ∃ x, t386 131 18 = x := ⟨_, rfl⟩
                    rw [z401] at p399
                    have p402 := (QM_1 q393) (by omega)
                    obtain ⟨g403, e404, hP405⟩ := p402
                    refine r_aload_n S dX12_line_213 rfl (lv_at hl 2 rfl) ?_
                    refine r_geti (K := 38) S X385 (Nat.le_of_ble_eq_true rfl) rfl lk12_193_10 (fun _ => ⟨_, rfl, rfl⟩) z401 dX12_line_214 ?_
                    have e406 : v400.toInt = g403 := by rw [← z401]; exact hP405.1
                    have e407 := sLook_x e404
                    refine r_iload_n S dX12_line_217 rfl (lv_at hl 0 rfl) ?_
                    refine r_icmp_eq (tgt := 244) S dX12_line_218 (by decide) (fun c408 => ?_) (fun c408 => ?_)
                    ·
                      refine r_aload_n S dX12_line_244 rfl (lv_at hl 2 rfl) ?_
                      refine r_iconst S dX12_line_245 (by decide) (fun v409 z410 => ?_)
                      have r411 := R_eq z410
                      refine r_ki (q_V (As := [.int v409]) (rest := []) (K := 38) (ci := 10) S X385 (c_X12_bad_q l G t386 q388 v409 (R_of (lo := -2147483648) (hi := 2147483647) r411 rfl)) ck12_183 (Nat.le_of_ble_eq_true rfl) rfl (fun _ => ⟨_, rfl⟩) ⟨_, _, rfl⟩ ⟨Nat.le_of_ble_eq_true rfl, Nat.le_of_ble_eq_true rfl⟩ rfl hl.1 rfl (Nat.le_of_ble_eq_true rfl) dX12_line_246 ⟨Nat.le_refl 0, Nat.le_refl 0⟩) X385 (fun v415 t414 H lc q412 X413 => ?_)
                      unfold po_X12_bad_q at q412
                      obtain ⟨q416, q417, q418, q419⟩ := q412
                      have F420 : Fr [(131, 15), (131, 16), (131, 4), (131, 11), (131, 12), (131, 13), (131, 14), (131, 18), (131, 20), (131, 21)] [134, 331, 336] τ t414 := Fr_call F394 q417 (by decide)
                      exact r_ret S hr hlk X413 ⟨q416, F420, (R_of q418 rfl), (by rw [((q417 131 4 (by decide)).trans ((q389 131 4 (by decide)).trans z367))]; exact R_of q360 rfl), (by rw [((q417 131 11 (by decide)).trans ((q389 131 11 (by decide)).trans z369))]; exact R_of q361 rfl), (by have h1_0 := congrArg Int32.toInt ((q417 131 4 (by decide)).trans ((q389 131 4 (by decide)).trans z367)); have h2_0 := congrArg Int32.toInt z2; omega), (by have h1_0 := congrArg Int32.toInt ((q417 131 4 (by decide)).trans ((q389 131 4 (by decide)).trans z367)); have h2_0 := congrArg Int32.toInt z2; omega), (QM_b ((sLine_7 p22 p34 p46 p58 p286 p298).trans (sKin_b e350 e404 (Or.inl (by omega)))) (by omega) (by rw [q419.1]; omega) (by rw [q419.2]; exact RM_at hP405.2))⟩ (nr_bool (R_of (lo := 0) (hi := 1) q418 rfl)) dX12_line_249
                    ·
                      refine r_iload_n S dX12_line_221 rfl (lv_at hl 1 rfl) ?_
                      refine r_if_ne (tgt := 250) S dX12_line_222 (by decide) (fun c421 => ?_) (fun c421 => ?_)
                      ·
                        exfalso; omega
                      ·
                        refine r_aload_n S dX12_line_225 rfl (lv_at hl 2 rfl) ?_
                        refine r_get (K := 38) (v := .ref (G.2.2.2.1 134)) S X385 (Nat.le_of_ble_eq_true rfl) rfl lk12_37_10 (fun _ => ⟨_, rfl, rfl⟩) dX12_line_226 ?_
                        refine r_bipush S dX12_line_229 (by decide) (fun v422 z423 => ?_)
                        have r424 := R_eq z423
                        refine r_iload_n S dX12_line_231 rfl (lv_at hl 0 rfl) ?_
                        refine r_iadd S dX12_line_232 (fun v425 z426 => ?_)
                        obtain ⟨e427, r428⟩ := i_add (lo := 115) (hi := 124) z426 r424 p345 rfl
                        refine r_aldn (n := 125) (K := 41) S X385 (Nat.le_of_ble_eq_true rfl) rfl (fun _ => rfl) (ix_of r428 rfl) dX12_line_233 (fun v429 z430 => ?_)
                        have r431 : R (0) (1023) v429 := rds (K := 41) (a := 115) (n := 10) q388 rfl z430 (R_of r428 rfl) (by decide +kernel)
                        have g432 : Rg 41 v425.toNatClampNeg v429 := rd q388 rfl z430
                        refine r_aload_n S dX12_line_234 rfl (lv_at hl 2 rfl) ?_
                        refine r_geti (K := 38) S X385 (Nat.le_of_ble_eq_true rfl) rfl lk12_193_10 (fun _ => ⟨_, rfl, rfl⟩) z401 dX12_line_235 ?_
                        refine r_ki (q_S (As := [.int v429, .int v400]) (rest := []) S X385 (c_X12_bitOf_q l G t386 q388 v429 v400 (R_of (lo := -2147483648) (hi := 2147483647) r431 rfl) p399) ck12_221 ⟨Nat.le_of_ble_eq_true rfl, Nat.le_of_ble_eq_true rfl⟩ rfl hl.1 rfl (Nat.le_of_ble_eq_true rfl) dX12_line_238 ⟨Nat.le_refl 0, Nat.le_refl 0⟩) X385 (fun v436 t435 H lc q433 X434 => ?_)
                        unfold po_X12_bitOf_q at q433
                        obtain ⟨q437, q438, q439⟩ := q433
                        rw [q437] at X434
                        have ho440 : (kb v429 v400.toInt.toNat ↔ gki fs.2 g349 g403 = true) := by have q := hP405.2.2.1.2.2.2.2.2.2.2.2 g349 g403 (by omega) (by omega); rw [show 115 + g349 = v425.toNatClampNeg by (have c : v425.toNatClampNeg = v425.toInt.toNat := rfl; omega), z430] at q; rw [show v400.toInt.toNat = g403 by omega]; exact q
                        refine r_if_eq (tgt := 250) S dX12_line_241 (by decide) (fun c441 => ?_) (fun c441 => ?_)
                        ·
                          have r442 : R (0) (0) v436 := ⟨by omega, by omega⟩
                          have p443 := (iff_n q439) (by omega)
                          refine r_iload_n S dX12_line_250 rfl (lv_at hl 1 rfl) ?_
                          refine r_if_eq (tgt := 272) S dX12_line_251 (by decide) (fun c444 => ?_) (fun c444 => ?_)
                          ·
                            refine r_aload_n S dX12_line_272 rfl (lv_at hl 2 rfl) ?_
                            refine r_get (K := 38) (v := .ref (G.2.2.2.1 134)) S X434 (Nat.le_of_ble_eq_true rfl) rfl lk12_37_10 (fun _ => ⟨_, rfl, rfl⟩) dX12_line_273 ?_
                            refine r_bipush S dX12_line_276 (by decide) (fun v445 z446 => ?_)
                            have r447 := R_eq z446
                            refine r_iload_n S dX12_line_278 rfl (lv_at hl 0 rfl) ?_
                            refine r_iadd S dX12_line_279 (fun v448 z449 => ?_)
                            obtain ⟨e450, r451⟩ := i_add (lo := 115) (hi := 124) z449 r447 p345 rfl
                            refine r_dup2 S dX12_line_280 rfl rfl ?_
                            refine r_aldn (n := 125) (K := 41) S X434 (Nat.le_of_ble_eq_true rfl) rfl (fun _ => rfl) (ix_of r451 rfl) dX12_line_281 (fun v452 z453 => ?_)
                            have r454 : R (0) (1023) v452 := rds (K := 41) (a := 115) (n := 10) q388 rfl z453 (R_of r451 rfl) (by decide +kernel)
                            have g455 : Rg 41 v448.toNatClampNeg v452 := rd q388 rfl z453
                            refine r_iconst S dX12_line_282 (by decide) (fun v456 z457 => ?_)
                            have r458 := R_eq z457
                            refine r_aload_n S dX12_line_283 rfl (lv_at hl 2 rfl) ?_
                            refine r_geti (K := 38) S X434 (Nat.le_of_ble_eq_true rfl) rfl lk12_193_10 (fun _ => ⟨_, rfl, rfl⟩) z401 dX12_line_284 ?_
                            refine r_ishl S dX12_line_287 (fun v459 z460 => ?_)
                            have r462 : R (1) (512) v459 := i_shl z460 r458 p399 rfl
                            refine r_ior S dX12_line_288 (fun v463 z464 => ?_)
                            have r466 : R (0) (1023) v463 := i_or 10 z464 r454 r462 rfl
                            refine r_ast (n := 125) (K := 41) S X434 (Nat.le_of_ble_eq_true rfl) rfl (fun _ _ => rfl) (ix_of r451 rfl) dX12_line_289 (fun t467 H lc M468 X469 => ?_)
                            have I470 := Inv_mu q388 M468 (show Rg (kd 134) _ v463 from wrs (K := 41) (a := 115) (n := 10) (R_of r451 rfl) (R_of (lo := 0) (hi := 1023) r466 rfl) (by decide +kernel))
                            have F471 : Fr [(131, 15), (131, 16), (131, 4), (131, 11), (131, 12), (131, 13), (131, 14), (131, 18), (131, 20), (131, 21)] [134, 331, 336] τ t467 := Fr_cell F394 M468 (by decide)
                            refine r_aload_n S dX12_line_290 rfl (lv_at hl 2 rfl) ?_
                            refine r_get (K := 38) (v := .ref (G.2.2.2.1 134)) S X469 (Nat.le_of_ble_eq_true rfl) rfl lk12_37_10 (fun _ => ⟨_, rfl, rfl⟩) dX12_line_291 ?_
                            refine r_bipush S dX12_line_294 (by decide) (fun v472 z473 => ?_)
                            have r474 := R_eq z473
                            refine r_aload_n S dX12_line_296 rfl (lv_at hl 2 rfl) ?_
                            refine r_geti (K := 38) S X469 (Nat.le_of_ble_eq_true rfl) rfl lk12_193_10 (fun _ => ⟨_, rfl, rfl⟩) ((M468.2 131 18 (Or.inl (by decide))).trans z401) dX12_line_297 ?_
                            refine r_iadd S dX12_line_300 (fun v475 z476 => ?_)
                            obtain ⟨e477, r478⟩ := i_add (lo := 115) (hi := 124) z476 r474 p399 rfl
                            refine r_dup2 S dX12_line_301 rfl rfl ?_
                            refine r_aldn (n := 125) (K := 41) S X469 (Nat.le_of_ble_eq_true rfl) rfl (fun _ => rfl) (ix_of r478 rfl) dX12_line_302 (fun v479 z480 => ?_)
                            have r481 : R (0) (1023) v479 := rds (K := 41) (a := 115) (n := 10) I470 rfl z480 (R_of r478 rfl) (by decide +kernel)
                            have g482 : Rg 41 v475.toNatClampNeg v479 := rd I470 rfl z480
                            refine r_iconst S dX12_line_303 (by decide) (fun v483 z484 => ?_)
                            have r485 := R_eq z484
                            refine r_iload_n S dX12_line_304 rfl (lv_at hl 0 rfl) ?_
                            refine r_ishl S dX12_line_305 (fun v486 z487 => ?_)
                            have r489 : R (1) (512) v486 := i_shl z487 r485 p345 rfl
                            refine r_ior S dX12_line_306 (fun v490 z491 => ?_)
                            have r493 : R (0) (1023) v490 := i_or 10 z491 r481 r489 rfl
                            refine r_ast (n := 125) (K := 41) S X469 (Nat.le_of_ble_eq_true rfl) rfl (fun _ _ => rfl) (ix_of r478 rfl) dX12_line_307 (fun t494 H lc M495 X496 => ?_)
                            have I497 := Inv_mu I470 M495 (show Rg (kd 134) _ v490 from wrs (K := 41) (a := 115) (n := 10) (R_of r478 rfl) (R_of (lo := 0) (hi := 1023) r493 rfl) (by decide +kernel))
                            have F498 : Fr [(131, 15), (131, 16), (131, 4), (131, 11), (131, 12), (131, 13), (131, 14), (131, 18), (131, 20), (131, 21)] [134, 331, 336] τ t494 := Fr_cell F471 M495 (by decide)
                            refine r_aload_n S dX12_line_308 rfl (lv_at hl 2 rfl) ?_
                            refine r_get (K := 38) (v := .ref (G.2.2.2.1 134)) S X496 (Nat.le_of_ble_eq_true rfl) rfl lk12_37_10 (fun _ => ⟨_, rfl, rfl⟩) dX12_line_309 ?_
                            refine r_iconst S dX12_line_312 (by decide) (fun v499 z500 => ?_)
                            have r501 := R_eq z500
                            refine r_dup2 S dX12_line_313 rfl rfl ?_
                            refine r_aldn (n := 125) (K := 41) S X496 (Nat.le_of_ble_eq_true rfl) rfl (fun _ => rfl) (ix_of r501 rfl) dX12_line_314 (fun v502 z503 => ?_)
                            have r505 := R_any v502
                            refine r_iconst S dX12_line_315 (by decide) (fun v506 z507 => ?_)
                            have r508 := R_eq z507
                            refine r_iadd S dX12_line_316 (fun v509 z510 => ?_)
                            have r511 := R_any v509
                            refine r_ast (n := 125) (K := 41) S X496 (Nat.le_of_ble_eq_true rfl) rfl (fun _ _ => rfl) (ix_of r501 rfl) dX12_line_317 (fun t512 H lc M513 X514 => ?_)
                            have I515 := Inv_mu I497 M513 (show Rg (kd 134) _ v509 from wrs (K := 41) (a := 4) (n := 1) (R_of r501 rfl) (R_of (lo := -2147483648) (hi := 2147483647) r511 rfl) (by decide +kernel))
                            have F516 : Fr [(131, 15), (131, 16), (131, 4), (131, 11), (131, 12), (131, 13), (131, 14), (131, 18), (131, 20), (131, 21)] [134, 331, 336] τ t512 := Fr_cell F498 M513 (by decide)
                            have hR517 : RM bb nb t512 ((stp bb nb (stp bb nb fs)).1, uki fs.2 g349 g403) := ⟨MT_fr hP405.2.1 ((M513.2 131 3 (Or.inl (by decide))).trans ((M495.2 131 3 (Or.inl (by decide))).trans ((M468.2 131 3 (Or.inl (by decide))).trans rfl))) ((M513.2 131 4 (Or.inl (by decide))).trans ((M495.2 131 4 (Or.inl (by decide))).trans ((M468.2 131 4 (Or.inl (by decide))).trans rfl))) ((M513.2 131 5 (Or.inl (by decide))).trans ((M495.2 131 5 (Or.inl (by decide))).trans ((M468.2 131 5 (Or.inl (by decide))).trans rfl))) ((M513.2 131 11 (Or.inl (by decide))).trans ((M495.2 131 11 (Or.inl (by decide))).trans ((M468.2 131 11 (Or.inl (by decide))).trans rfl))) ((M513.2 131 12 (Or.inl (by decide))).trans ((M495.2 131 12 (Or.inl (by decide))).trans ((M468.2 131 12 (Or.inl (by decide))).trans rfl))) ((M513.2 131 14 (Or.inl (by decide))).trans ((M495.2 131 14 (Or.inl (by decide))).trans ((M468.2 131 14 (Or.inl (by decide))).trans rfl))) (fun j => ((M513.2 132 j (Or.inl (by decide))).trans ((M495.2 132 j (Or.inl (by decide))).trans ((M468.2 132 j (Or.inl (by decide))).trans rfl)))) (fun j => ((M513.2 331 j (Or.inl (by decide))).trans ((M495.2 331 j (Or.inl (by decide))).trans ((M468.2 331 j (Or.inl (by decide))).trans rfl)))), RH_ki (s := fs.2) (k1 := v346) (k2 := v400) hP405.2.2.1 (show R 0 9 v346 from ⟨by omega, by omega⟩) (show R 0 9 v400 from ⟨by omega, by omega⟩) (by omega) (by omega) (by omega) M468 M495 M513 (by have c : v448.toNatClampNeg = v448.toInt.toNat := rfl; omega) (by have c : v475.toNatClampNeg = v475.toInt.toNat := rfl; omega) (by have c : v499.toNatClampNeg = v499.toInt.toNat := rfl; omega) z453 z480 (by rw [z464, z460, show v456 = 1 from Int32.toInt_inj.mp (by show v456.toInt = 1; omega)]) (by rw [z491, z487, show v483 = 1 from Int32.toInt_inj.mp (by show v483.toInt = 1; omega)]) (by rw [z510, show v506 = 1 from Int32.toInt_inj.mp (by show v506.toInt = 1; omega), show v502 = Int32.ofNat (gkn fs.2) from (by rw [← z503, show v499.toNatClampNeg = 4 by (have c : v499.toNatClampNeg = v499.toInt.toNat := rfl; omega)]; exact (((M495.2 134 4 (Or.inr (ixne r478 rfl))).trans ((M468.2 134 4 (Or.inr (ixne r451 rfl))).trans rfl))).trans hP405.2.2.1.2.2.2.2.1)]; exact (i32_succ _).symm), RS_fr hP405.2.2.2 (fun j => ((M513.2 337 j (Or.inl (by decide))).trans ((M495.2 337 j (Or.inl (by decide))).trans ((M468.2 337 j (Or.inl (by decide))).trans rfl))))⟩
                            refine r_aload_n S dX12_line_318 rfl (lv_at hl 2 rfl) ?_
                            refine r_kv (q_V (As := []) (rest := []) (K := 38) (ci := 10) S X514 (c_X12_skip_q l G t512 I515 bb nb 900 ((stp bb nb (stp bb nb fs)).1, uki fs.2 g349 g403).1.2.2 (MT_st hR517.1 (Or.inl (sLook_n e404).1)).1 (MT_st hR517.1 (Or.inl (sLook_n e404).1)).2.1 (MT_st hR517.1 (Or.inl (sLook_n e404).1)).2.2) ck12_186 (Nat.le_of_ble_eq_true rfl) rfl (fun _ => ⟨_, rfl⟩) ⟨_, _, rfl⟩ ⟨Nat.le_of_ble_eq_true rfl, Nat.le_of_ble_eq_true rfl⟩ rfl hl.1 rfl (Nat.le_of_ble_eq_true rfl) dX12_line_319 ⟨Nat.le_refl 0, Nat.le_refl 0⟩) X514 (fun t520 H lc q518 X519 => ?_)
                            unfold po_X12_skip_q at q518
                            obtain ⟨q521, q522, q523, q524, q525, q526, q527⟩ := q518
                            have F528 : Fr [(131, 15), (131, 16), (131, 4), (131, 11), (131, 12), (131, 13), (131, 14), (131, 18), (131, 20), (131, 21)] [134, 331, 336] τ t520 := Fr_call F516 q522 (by decide)
                            obtain ⟨v529, z530⟩ : ∃ x, t520 131 4 = x := ⟨_, rfl⟩
                            rw [z530] at q523
                            obtain ⟨v531, z532⟩ : ∃ x, t520 131 11 = x := ⟨_, rfl⟩
                            rw [z532] at q524
                            have e533 := congrArg Int32.toInt ((M513.2 131 4 (Or.inl (by decide))).trans ((M495.2 131 4 (Or.inl (by decide))).trans ((M468.2 131 4 (Or.inl (by decide))).trans ((q389 131 4 (by decide)).trans z367))))
                            have e534 := congrArg Int32.toInt z530
                            have e535 := congrArg Int32.toInt ((M513.2 131 4 (Or.inl (by decide))).trans ((M495.2 131 4 (Or.inl (by decide))).trans ((M468.2 131 4 (Or.inl (by decide))).trans ((q389 131 4 (by decide)).trans z367))))
                            have e536 := congrArg Int32.toInt z530
                            have e537 := congrArg Int32.toInt ((M513.2 131 11 (Or.inl (by decide))).trans ((M495.2 131 11 (Or.inl (by decide))).trans ((M468.2 131 11 (Or.inl (by decide))).trans ((q389 131 11 (by decide)).trans z369))))
                            have e538 := congrArg Int32.toInt z532
                            have hR539 : RM bb nb t520 (stp bb nb ((stp bb nb (stp bb nb fs)).1, uki fs.2 g349 g403)) := ⟨q527, RH_fr hR517.2.1 ((q522 131 20 (by decide)).trans rfl) (fun j _ => ((q522 134 j (by simp [fz])).trans rfl)) (fun j => ((q522 336 j (by simp [fz])).trans rfl)), RS_fr hR517.2.2 (fun j => ((q522 337 j (by simp [fz])).trans rfl))⟩
                            refine r_iconst S dX12_line_322 (by decide) (fun v540 z541 => ?_)
                            have r542 := R_eq z541
                            exact r_ret S hr hlk X519 ⟨q521, F528, (R_of r542 rfl), (by rw [z530]; exact R_of q523 rfl), (by rw [z532]; exact R_of q524 rfl), (by have h1_0 := congrArg Int32.toInt z530; have h2_0 := congrArg Int32.toInt z2; omega), (by have h1_0 := congrArg Int32.toInt z530; have h2_0 := congrArg Int32.toInt z2; omega), (QM_r ((sLine_7 p22 p34 p46 p58 p286 p298).trans (sKin_r e350 e404 (fun h => h.elim (fun h => by omega) (fun h => p443 (ho440.mpr h))))) (by omega) hR539)⟩ (nr_bool (R_of (lo := 0) (hi := 1) r542 rfl)) dX12_line_323
                          ·
                            exfalso; omega
                        ·
                          have r543 : R (1) (1) v436 := ⟨by omega, by omega⟩
                          have p544 := (q439).mp (by omega)
                          refine r_aload_n S dX12_line_244 rfl (lv_at hl 2 rfl) ?_
                          refine r_iconst S dX12_line_245 (by decide) (fun v545 z546 => ?_)
                          have r547 := R_eq z546
                          refine r_ki (q_V (As := [.int v545]) (rest := []) (K := 38) (ci := 10) S X434 (c_X12_bad_q l G t386 q388 v545 (R_of (lo := -2147483648) (hi := 2147483647) r547 rfl)) ck12_183 (Nat.le_of_ble_eq_true rfl) rfl (fun _ => ⟨_, rfl⟩) ⟨_, _, rfl⟩ ⟨Nat.le_of_ble_eq_true rfl, Nat.le_of_ble_eq_true rfl⟩ rfl hl.1 rfl (Nat.le_of_ble_eq_true rfl) dX12_line_246 ⟨Nat.le_refl 0, Nat.le_refl 0⟩) X434 (fun v551 t550 H lc q548 X549 => ?_)
                          unfold po_X12_bad_q at q548
                          obtain ⟨q552, q553, q554, q555⟩ := q548
                          have F556 : Fr [(131, 15), (131, 16), (131, 4), (131, 11), (131, 12), (131, 13), (131, 14), (131, 18), (131, 20), (131, 21)] [134, 331, 336] τ t550 := Fr_call F394 q553 (by decide)
                          exact r_ret S hr hlk X549 ⟨q552, F556, (R_of q554 rfl), (by rw [((q553 131 4 (by decide)).trans ((q389 131 4 (by decide)).trans z367))]; exact R_of q360 rfl), (by rw [((q553 131 11 (by decide)).trans ((q389 131 11 (by decide)).trans z369))]; exact R_of q361 rfl), (by have h1_0 := congrArg Int32.toInt ((q553 131 4 (by decide)).trans ((q389 131 4 (by decide)).trans z367)); have h2_0 := congrArg Int32.toInt z2; omega), (by have h1_0 := congrArg Int32.toInt ((q553 131 4 (by decide)).trans ((q389 131 4 (by decide)).trans z367)); have h2_0 := congrArg Int32.toInt z2; omega), (QM_b ((sLine_7 p22 p34 p46 p58 p286 p298).trans (sKin_b e350 e404 (Or.inr (ho440.mp p544)))) (by omega) (by rw [q555.1]; omega) (by rw [q555.2]; exact RM_at hP405.2))⟩ (nr_bool (R_of (lo := 0) (hi := 1) q554 rfl)) dX12_line_249
                  ·
                    have r557 : R (0) (0) v387 := ⟨by omega, by omega⟩
                    have p558 := (QM_0 q393) (by omega)
                    obtain ⟨q559, e560, h561, h562⟩ := p558
                    refine r_iconst S dX12_line_211 (by decide) (fun v563 z564 => ?_)
                    have r565 := R_eq z564
                    exact r_ret S hr hlk X385 ⟨q388, F394, (R_of r565 rfl), (by rw [((q389 131 4 (by decide)).trans z367)]; exact R_of q360 rfl), (by rw [((q389 131 11 (by decide)).trans z369)]; exact R_of q361 rfl), (by have h1_0 := congrArg Int32.toInt ((q389 131 4 (by decide)).trans z367); have h2_0 := congrArg Int32.toInt z2; omega), (by have h1_0 := congrArg Int32.toInt ((q389 131 4 (by decide)).trans z367); have h2_0 := congrArg Int32.toInt z2; omega), (QM_l ((sLine_7 p22 p34 p46 p58 p286 p298).trans (sKin_l2 e350 e560)) (by omega) h561 h562)⟩ (nr_bool (R_of (lo := 0) (hi := 1) r565 rfl)) dX12_line_212
                ·
                  exfalso; omega
              ·
                have r566 : R (0) (0) v333 := ⟨by omega, by omega⟩
                have p567 := (QM_0 q339) (by omega)
                obtain ⟨q568, e569, h570, h571⟩ := p567
                refine r_iconst S dX12_line_163 (by decide) (fun v572 z573 => ?_)
                have r574 := R_eq z573
                exact r_ret S hr hlk X331 ⟨q334, F340, (R_of r574 rfl), (by rw [((q335 131 4 (by decide)).trans z311)]; exact R_of q304 rfl), (by rw [((q335 131 11 (by decide)).trans z313)]; exact R_of q305 rfl), (by have h1_0 := congrArg Int32.toInt ((q335 131 4 (by decide)).trans z311); have h2_0 := congrArg Int32.toInt z2; omega), (by have h1_0 := congrArg Int32.toInt ((q335 131 4 (by decide)).trans z311); have h2_0 := congrArg Int32.toInt z2; omega), (QM_l ((sLine_7 p22 p34 p46 p58 p286 p298).trans (sKin_l1 e569)) (by omega) h570 h571)⟩ (nr_bool (R_of (lo := 0) (hi := 1) r574 rfl)) dX12_line_164
            ·
              have r575 : R (0) (0) v292 := ⟨by omega, by omega⟩
              have p576 := (iff_n q295) (by omega)
              refine r_aload_n S dX12_line_138 rfl (lv_at hl 1 rfl) ?_
              refine r_iconst S dX12_line_139 (by decide) (fun v577 z578 => ?_)
              have r579 := R_eq z578
              refine r_ki (q_V (As := [.int v577]) (rest := []) (K := 38) (ci := 10) S X290 (c_X12_bad_q l G τ hI v577 (R_of (lo := -2147483648) (hi := 2147483647) r579 rfl)) ck12_183 (Nat.le_of_ble_eq_true rfl) rfl (fun _ => ⟨_, rfl⟩) ⟨_, _, rfl⟩ ⟨Nat.le_of_ble_eq_true rfl, Nat.le_of_ble_eq_true rfl⟩ rfl hl.1 rfl (Nat.le_of_ble_eq_true rfl) dX12_line_140 ⟨Nat.le_refl 0, Nat.le_refl 0⟩) X290 (fun v583 t582 H lc q580 X581 => ?_)
              unfold po_X12_bad_q at q580
              obtain ⟨q584, q585, q586, q587⟩ := q580
              have F588 : Fr [(131, 15), (131, 16), (131, 4), (131, 11), (131, 12), (131, 13), (131, 14), (131, 18), (131, 20), (131, 21)] [134, 331, 336] τ t582 := Fr_call Fr_rfl q585 (by decide)
              exact r_ret S hr hlk X581 ⟨q584, F588, (R_of q586 rfl), (by rw [((q585 131 4 (by decide)).trans z2)]; exact R_of r3 rfl), (by rw [((q585 131 11 (by decide)).trans z5)]; exact R_of r6 rfl), (by have h1_0 := congrArg Int32.toInt ((q585 131 4 (by decide)).trans z2); have h2_0 := congrArg Int32.toInt z2; omega), (by have h1_0 := congrArg Int32.toInt ((q585 131 4 (by decide)).trans z2); have h2_0 := congrArg Int32.toInt z2; omega), (QM_b (sLine_b p22 p34 p46 p58 p286 p576) (by omega) (by rw [q587.1]; omega) (by rw [q587.2]; exact RM_at hR))⟩ (nr_bool (R_of (lo := 0) (hi := 1) q586 rfl)) dX12_line_143
        ·
          have r589 : R (1) (1) v52 := ⟨by omega, by omega⟩
          have p590 := (q55).mp (by omega)
          refine r_aload_n S dX12_line_111 rfl (lv_at hl 0 rfl) ?_
          refine r_ki (q_V (As := []) (rest := []) (K := 38) (ci := 10) S X50 (c_X12_readMan_q l G τ hI bb nb fs hR p590.1) ck12_231 (Nat.le_of_ble_eq_true rfl) rfl (fun _ => ⟨_, rfl⟩) ⟨_, _, rfl⟩ ⟨Nat.le_of_ble_eq_true rfl, Nat.le_of_ble_eq_true rfl⟩ rfl hl.1 rfl (Nat.le_of_ble_eq_true rfl) dX12_line_112 ⟨Nat.le_refl 0, Nat.le_refl 0⟩) X50 (fun v594 t593 H lc q591 X592 => ?_)
          unfold po_X12_readMan_q at q591
          obtain ⟨q595, q596, q597, q598, q599, q600, q601, q602⟩ := q591
          have F603 : Fr [(131, 15), (131, 16), (131, 4), (131, 11), (131, 12), (131, 13), (131, 14), (131, 18), (131, 20), (131, 21)] [134, 331, 336] τ t593 := Fr_call Fr_rfl q596 (by decide)
          obtain ⟨v604, z605⟩ : ∃ x, t593 131 4 = x := ⟨_, rfl⟩
          rw [z605] at q598
          obtain ⟨v606, z607⟩ : ∃ x, t593 131 11 = x := ⟨_, rfl⟩
          rw [z607] at q599
          have e608 := congrArg Int32.toInt z2
          have e609 := congrArg Int32.toInt z605
          have e610 := congrArg Int32.toInt z2
          have e611 := congrArg Int32.toInt z605
          exact r_ret S hr hlk X592 ⟨q595, F603, q597, (by rw [z605]; exact R_of q598 rfl), (by rw [z607]; exact R_of q599 rfl), (by have h1_0 := congrArg Int32.toInt z605; have h2_0 := congrArg Int32.toInt z2; omega), (by have h1_0 := congrArg Int32.toInt z605; have h2_0 := congrArg Int32.toInt z2; omega), (by rw [(sLine_3 p22 p34 p46 p590)]; exact q602)⟩ (nr_bool (R_of (lo := 0) (hi := 1) q597 rfl)) dX12_line_115
      ·
        have r612 : R (1) (1) v40 := ⟨by omega, by omega⟩
        have p613 := (q43).mp (by omega)
        refine r_aload_n S dX12_line_50 rfl (lv_at hl 0 rfl) ?_
        refine r_get (K := 38) (v := .ref (G.2.2.2.1 134)) S X38 (Nat.le_of_ble_eq_true rfl) rfl lk12_37_10 (fun _ => ⟨_, rfl, rfl⟩) dX12_line_51 ?_
        refine r_iconst S dX12_line_54 (by decide) (fun v614 z615 => ?_)
        have r616 := R_eq z615
        refine r_aldn (n := 125) (K := 41) S X38 (Nat.le_of_ble_eq_true rfl) rfl (fun _ => rfl) (ix_of r616 rfl) dX12_line_55 (fun v617 z618 => ?_)
        have r619 : R (0) (9) v617 := rds (K := 41) (a := 0) (n := 1) hI rfl z618 (R_of r616 rfl) (by decide +kernel)
        refine r_bipush S dX12_line_56 (by decide) (fun v620 z621 => ?_)
        have r622 := R_eq z621
        have e623 := congrArg Int32.toInt (zc (n := 0) (by omega) z618)
        refine r_icmp_ne (tgt := 67) S dX12_line_58 (by decide) (fun c624 => ?_) (fun c624 => ?_)
        ·
          have r625 : R (0) (8) v617 := ⟨by omega, by omega⟩
          refine r_aload_n S dX12_line_67 rfl (lv_at hl 0 rfl) ?_
          refine r_kv (q_V (As := []) (rest := []) (K := 38) (ci := 10) S X38 (c_X12_skip_q l G τ hI bb nb 900 fs.1.2.2 (MT_st hR.1 (Or.inl p613.1)).1 (MT_st hR.1 (Or.inl p613.1)).2.1 (MT_st hR.1 (Or.inl p613.1)).2.2) ck12_186 (Nat.le_of_ble_eq_true rfl) rfl (fun _ => ⟨_, rfl⟩) ⟨_, _, rfl⟩ ⟨Nat.le_of_ble_eq_true rfl, Nat.le_of_ble_eq_true rfl⟩ rfl hl.1 rfl (Nat.le_of_ble_eq_true rfl) dX12_line_68 ⟨Nat.le_refl 0, Nat.le_refl 0⟩) X38 (fun t628 H lc q626 X627 => ?_)
          unfold po_X12_skip_q at q626
          obtain ⟨q629, q630, q631, q632, q633, q634, q635⟩ := q626
          have F636 : Fr [(131, 15), (131, 16), (131, 4), (131, 11), (131, 12), (131, 13), (131, 14), (131, 18), (131, 20), (131, 21)] [134, 331, 336] τ t628 := Fr_call Fr_rfl q630 (by decide)
          obtain ⟨v637, z638⟩ : ∃ x, t628 131 4 = x := ⟨_, rfl⟩
          rw [z638] at q631
          obtain ⟨v639, z640⟩ : ∃ x, t628 131 11 = x := ⟨_, rfl⟩
          rw [z640] at q632
          have e641 := congrArg Int32.toInt z2
          have e642 := congrArg Int32.toInt z638
          have e643 := congrArg Int32.toInt z2
          have e644 := congrArg Int32.toInt z638
          have e645 := congrArg Int32.toInt z5
          have e646 := congrArg Int32.toInt z640
          have hR647 : RM bb nb t628 (stp bb nb fs) := ⟨q635, RH_fr hR.2.1 ((q630 131 20 (by decide)).trans rfl) (fun j _ => ((q630 134 j (by simp [fz])).trans rfl)) (fun j => ((q630 336 j (by simp [fz])).trans rfl)), RS_fr hR.2.2 (fun j => ((q630 337 j (by simp [fz])).trans rfl))⟩
          refine r_aload_n S dX12_line_71 rfl (lv_at hl 0 rfl) ?_
          refine r_bipush S dX12_line_72 (by decide) (fun v648 z649 => ?_)
          have r650 := R_eq z649
          refine r_aload_n S dX12_line_74 rfl (lv_at hl 0 rfl) ?_
          refine r_get (K := 38) (v := .ref (G.2.2.2.1 134)) S X627 (Nat.le_of_ble_eq_true rfl) rfl lk12_37_10 (fun _ => ⟨_, rfl, rfl⟩) dX12_line_75 ?_
          refine r_iconst S dX12_line_78 (by decide) (fun v651 z652 => ?_)
          have r653 := R_eq z652
          refine r_aldi (x := v617) (n := 125) (K := 41) S X627 (Nat.le_of_ble_eq_true rfl) rfl (fun _ => rfl) (ix_of r653 rfl) (zc' (n := 0) (by omega) ((q630 134 0 (by decide)).trans (zc (n := 0) (by omega) z618))) dX12_line_79 ?_
          refine r_iadd S dX12_line_80 (fun v655 z656 => ?_)
          obtain ⟨e657, r658⟩ := i_add (lo := 19) (hi := 27) z656 r650 r625 rfl
          refine r_ki (q_V (As := [.int v655]) (rest := []) (K := 38) (ci := 10) S X627 (c_X12_fresh_q l G t628 q629 v655 (R_of (lo := 19) (hi := 37) r658 rfl) bb nb (stp bb nb fs) hR647 ⟨fun i hi => by have c : v655.toNatClampNeg = v655.toInt.toNat := rfl; have h9 : i < (gan fs.2).length := hi; omega, fun i hi => by have c : v655.toNatClampNeg = v655.toInt.toNat := rfl; have h9 : i < (gmn fs.2).length := hi; omega⟩) ck12_228 (Nat.le_of_ble_eq_true rfl) rfl (fun _ => ⟨_, rfl⟩) ⟨_, _, rfl⟩ ⟨Nat.le_of_ble_eq_true rfl, Nat.le_of_ble_eq_true rfl⟩ rfl hl.1 rfl (Nat.le_of_ble_eq_true rfl) dX12_line_81 ⟨Nat.le_refl 0, Nat.le_refl 0⟩) X627 (fun v662 t661 H lc q659 X660 => ?_)
          unfold po_X12_fresh_q at q659
          obtain ⟨q663, q664, q665, q666, q667, q668, q669, q670⟩ := q659
          have F671 : Fr [(131, 15), (131, 16), (131, 4), (131, 11), (131, 12), (131, 13), (131, 14), (131, 18), (131, 20), (131, 21)] [134, 331, 336] τ t661 := Fr_call F636 q664 (by decide)
          obtain ⟨v672, z673⟩ : ∃ x, t661 131 4 = x := ⟨_, rfl⟩
          rw [z673] at q666
          obtain ⟨v674, z675⟩ : ∃ x, t661 131 11 = x := ⟨_, rfl⟩
          rw [z675] at q667
          have e676 := congrArg Int32.toInt z638
          have e677 := congrArg Int32.toInt z673
          have e678 := congrArg Int32.toInt z640
          have e679 := congrArg Int32.toInt z675
          refine r_if_ne (tgt := 89) S dX12_line_84 (by decide) (fun c680 => ?_) (fun c680 => ?_)
          ·
            have r681 : R (1) (1) v662 := ⟨by omega, by omega⟩
            have p682 := (QM_1 q670) (by omega)
            obtain ⟨g683, e684, hP685⟩ := p682
            refine r_aload_n S dX12_line_89 rfl (lv_at hl 0 rfl) ?_
            refine r_get (K := 38) (v := .ref (G.2.2.2.1 134)) S X660 (Nat.le_of_ble_eq_true rfl) rfl lk12_37_10 (fun _ => ⟨_, rfl, rfl⟩) dX12_line_90 ?_
            refine r_iconst S dX12_line_93 (by decide) (fun v686 z687 => ?_)
            have r688 := R_eq z687
            refine r_dup2 S dX12_line_94 rfl rfl ?_
            refine r_aldi (x := v617) (n := 125) (K := 41) S X660 (Nat.le_of_ble_eq_true rfl) rfl (fun _ => rfl) (ix_of r688 rfl) (zc' (n := 0) (by omega) ((q664 134 0 (by decide)).trans ((q630 134 0 (by decide)).trans (zc (n := 0) (by omega) z618)))) dX12_line_95 ?_
            refine r_iconst S dX12_line_96 (by decide) (fun v690 z691 => ?_)
            have r692 := R_eq z691
            refine r_iadd S dX12_line_97 (fun v693 z694 => ?_)
            obtain ⟨e695, r696⟩ := i_add (lo := 1) (hi := 9) z694 r625 r692 rfl
            refine r_ast (n := 125) (K := 41) S X660 (Nat.le_of_ble_eq_true rfl) rfl (fun _ _ => rfl) (ix_of r688 rfl) dX12_line_98 (fun t697 H lc M698 X699 => ?_)
            have I700 := Inv_mu q663 M698 (show Rg (kd 134) _ v693 from wrs (K := 41) (a := 0) (n := 1) (R_of r688 rfl) (R_of (lo := 0) (hi := 9) r696 rfl) (by decide +kernel))
            have F701 : Fr [(131, 15), (131, 16), (131, 4), (131, 11), (131, 12), (131, 13), (131, 14), (131, 18), (131, 20), (131, 21)] [134, 331, 336] τ t697 := Fr_cell F671 M698 (by decide)
            have hR702 : RM bb nb t697 ((stp bb nb (stp bb nb fs)).1, uan fs.2 (wrd bb (stp bb nb fs).1)) := ⟨MT_fr hP685.1.1 ((M698.2 131 3 (Or.inl (by decide))).trans rfl) ((M698.2 131 4 (Or.inl (by decide))).trans rfl) ((M698.2 131 5 (Or.inl (by decide))).trans rfl) ((M698.2 131 11 (Or.inl (by decide))).trans rfl) ((M698.2 131 12 (Or.inl (by decide))).trans rfl) ((M698.2 131 14 (Or.inl (by decide))).trans rfl) (fun j => ((M698.2 132 j (Or.inl (by decide))).trans rfl)) (fun j => ((M698.2 331 j (Or.inl (by decide))).trans rfl)), RH_an (s := fs.2) hP685.1.2.1 M698 (by have c : v686.toNatClampNeg = v686.toInt.toNat := rfl; omega) (by rw [show 19 + (gan fs.2).length = v655.toInt.toNat by omega]; exact hP685.2.1) (MT_low hR647.1 (hP685.2.2).1).1 (by omega), RS_fr hP685.1.2.2 (fun j => ((M698.2 337 j (Or.inl (by decide))).trans rfl))⟩
            refine r_iconst S dX12_line_99 (by decide) (fun v703 z704 => ?_)
            have r705 := R_eq z704
            exact r_ret S hr hlk X699 ⟨I700, F701, (R_of r705 rfl), (by rw [((M698.2 131 4 (Or.inl (by decide))).trans z673)]; exact R_of q666 rfl), (by rw [((M698.2 131 11 (Or.inl (by decide))).trans z675)]; exact R_of q667 rfl), (by have h1_0 := congrArg Int32.toInt ((M698.2 131 4 (Or.inl (by decide))).trans z673); have h2_0 := congrArg Int32.toInt z2; omega), (by have h1_0 := congrArg Int32.toInt ((M698.2 131 4 (Or.inl (by decide))).trans z673); have h2_0 := congrArg Int32.toInt z2; omega), (QM_r ((sLine_2 p22 p34 p613).trans (sAsk_r (by omega) e684)) (by omega) hR702)⟩ (nr_bool (R_of (lo := 0) (hi := 1) r705 rfl)) dX12_line_100
          ·
            have r706 : R (0) (0) v662 := ⟨by omega, by omega⟩
            have p707 := (QM_0 q670) (by omega)
            obtain ⟨q708, e709, h710, h711⟩ := p707
            refine r_iconst S dX12_line_87 (by decide) (fun v712 z713 => ?_)
            have r714 := R_eq z713
            exact r_ret S hr hlk X660 ⟨q663, F671, (R_of r714 rfl), (by rw [z673]; exact R_of q666 rfl), (by rw [z675]; exact R_of q667 rfl), (by have h1_0 := congrArg Int32.toInt z673; have h2_0 := congrArg Int32.toInt z2; omega), (by have h1_0 := congrArg Int32.toInt z673; have h2_0 := congrArg Int32.toInt z2; omega), (QM_l ((sLine_2 p22 p34 p613).trans (sAsk_l (by omega) e709)) (by omega) h710 h711)⟩ (nr_bool (R_of (lo := 0) (hi := 1) r714 rfl)) dX12_line_88
        ·
          have r715 : R (9) (9) v617 := ⟨by omega, by omega⟩
          refine r_aload_n S dX12_line_61 rfl (lv_at hl 0 rfl) ?_
          refine r_iconst S dX12_line_62 (by decide) (fun v716 z717 => ?_)
          have r718 := R_eq z717
          refine r_ki (q_V (As := [.int v716]) (rest := []) (K := 38) (ci := 10) S X38 (c_X12_bad_q l G τ hI v716 (R_of (lo := -2147483648) (hi := 2147483647) r718 rfl)) ck12_183 (Nat.le_of_ble_eq_true rfl) rfl (fun _ => ⟨_, rfl⟩) ⟨_, _, rfl⟩ ⟨Nat.le_of_ble_eq_true rfl, Nat.le_of_ble_eq_true rfl⟩ rfl hl.1 rfl (Nat.le_of_ble_eq_true rfl) dX12_line_63 ⟨Nat.le_refl 0, Nat.le_refl 0⟩) X38 (fun v722 t721 H lc q719 X720 => ?_)
          unfold po_X12_bad_q at q719
          obtain ⟨q723, q724, q725, q726⟩ := q719
          have F727 : Fr [(131, 15), (131, 16), (131, 4), (131, 11), (131, 12), (131, 13), (131, 14), (131, 18), (131, 20), (131, 21)] [134, 331, 336] τ t721 := Fr_call Fr_rfl q724 (by decide)
          exact r_ret S hr hlk X720 ⟨q723, F727, (R_of q725 rfl), (by rw [((q724 131 4 (by decide)).trans z2)]; exact R_of r3 rfl), (by rw [((q724 131 11 (by decide)).trans z5)]; exact R_of r6 rfl), (by have h1_0 := congrArg Int32.toInt ((q724 131 4 (by decide)).trans z2); have h2_0 := congrArg Int32.toInt z2; omega), (by have h1_0 := congrArg Int32.toInt ((q724 131 4 (by decide)).trans z2); have h2_0 := congrArg Int32.toInt z2; omega), (QM_b ((sLine_2 p22 p34 p613).trans (sAsk_b (by omega))) (by omega) (by rw [q726.1]; omega) (by rw [q726.2]; exact RM_at hR))⟩ (nr_bool (R_of (lo := 0) (hi := 1) q725 rfl)) dX12_line_66
    ·
      have r728 : R (1) (1) v28 := ⟨by omega, by omega⟩
      have p729 := (q31).mp (by omega)
      refine r_aload_n S dX12_line_30 rfl (lv_at hl 0 rfl) ?_
      refine r_iconst S dX12_line_31 (by decide) (fun v730 z731 => ?_)
      have r732 := R_eq z731
      refine r_iconst S dX12_line_32 (by decide) (fun v733 z734 => ?_)
      have r735 := R_eq z734
      refine r_iconst S dX12_line_33 (by decide) (fun v736 z737 => ?_)
      have r738 := R_eq z737
      refine r_bipush S dX12_line_34 (by decide) (fun v739 z740 => ?_)
      have r741 := R_eq z740
      refine r_ki (q_V (As := [.int v730, .int v733, .int v736, .int v739]) (rest := []) (K := 38) (ci := 10) S X26 (c_X12_once_q1 l G τ hI v730 v733 v736 v739 r732 r735 r738 r741 bb nb fs hR p729) ck12_224 (Nat.le_of_ble_eq_true rfl) rfl (fun _ => ⟨_, rfl⟩) ⟨_, _, rfl⟩ ⟨Nat.le_of_ble_eq_true rfl, Nat.le_of_ble_eq_true rfl⟩ rfl hl.1 rfl (Nat.le_of_ble_eq_true rfl) dX12_line_36 ⟨Nat.le_refl 0, Nat.le_refl 0⟩) X26 (fun v745 t744 H lc q742 X743 => ?_)
      unfold po_X12_once_q1 at q742
      obtain ⟨q746, q747, q748, q749, q750, q751, q752, q753⟩ := q742
      have F754 : Fr [(131, 15), (131, 16), (131, 4), (131, 11), (131, 12), (131, 13), (131, 14), (131, 18), (131, 20), (131, 21)] [134, 331, 336] τ t744 := Fr_call Fr_rfl q747 (by decide)
      obtain ⟨v755, z756⟩ : ∃ x, t744 131 4 = x := ⟨_, rfl⟩
      rw [z756] at q749
      obtain ⟨v757, z758⟩ : ∃ x, t744 131 11 = x := ⟨_, rfl⟩
      rw [z758] at q750
      have e759 := congrArg Int32.toInt z2
      have e760 := congrArg Int32.toInt z756
      have e761 := congrArg Int32.toInt z2
      have e762 := congrArg Int32.toInt z756
      exact r_ret S hr hlk X743 ⟨q746, F754, q748, (by rw [z756]; exact R_of q749 rfl), (by rw [z758]; exact R_of q750 rfl), (by have h1_0 := congrArg Int32.toInt z756; have h2_0 := congrArg Int32.toInt z2; omega), (by have h1_0 := congrArg Int32.toInt z756; have h2_0 := congrArg Int32.toInt z2; omega), (by rw [(sLine_1 p22 p729)]; exact q753)⟩ (nr_bool (R_of (lo := 0) (hi := 1) q748 rfl)) dX12_line_39
  ·
    have r763 : R (1) (1) v16 := ⟨by omega, by omega⟩
    have p764 := (q19).mp (by omega)
    refine r_aload_n S dX12_line_10 rfl (lv_at hl 0 rfl) ?_
    refine r_iconst S dX12_line_11 (by decide) (fun v765 z766 => ?_)
    have r767 := R_eq z766
    refine r_iconst S dX12_line_12 (by decide) (fun v768 z769 => ?_)
    have r770 := R_eq z769
    refine r_iconst S dX12_line_13 (by decide) (fun v771 z772 => ?_)
    have r773 := R_eq z772
    refine r_bipush S dX12_line_14 (by decide) (fun v774 z775 => ?_)
    have r776 := R_eq z775
    refine r_ki (q_V (As := [.int v765, .int v768, .int v771, .int v774]) (rest := []) (K := 38) (ci := 10) S X14 (c_X12_once_q0 l G τ hI v765 v768 v771 v774 r767 r770 r773 r776 bb nb fs hR p764) ck12_224 (Nat.le_of_ble_eq_true rfl) rfl (fun _ => ⟨_, rfl⟩) ⟨_, _, rfl⟩ ⟨Nat.le_of_ble_eq_true rfl, Nat.le_of_ble_eq_true rfl⟩ rfl hl.1 rfl (Nat.le_of_ble_eq_true rfl) dX12_line_16 ⟨Nat.le_refl 0, Nat.le_refl 0⟩) X14 (fun v780 t779 H lc q777 X778 => ?_)
    unfold po_X12_once_q0 at q777
    obtain ⟨q781, q782, q783, q784, q785, q786, q787, q788⟩ := q777
    have F789 : Fr [(131, 15), (131, 16), (131, 4), (131, 11), (131, 12), (131, 13), (131, 14), (131, 18), (131, 20), (131, 21)] [134, 331, 336] τ t779 := Fr_call Fr_rfl q782 (by decide)
    obtain ⟨v790, z791⟩ : ∃ x, t779 131 4 = x := ⟨_, rfl⟩
    rw [z791] at q784
    obtain ⟨v792, z793⟩ : ∃ x, t779 131 11 = x := ⟨_, rfl⟩
    rw [z793] at q785
    have e794 := congrArg Int32.toInt z2
    have e795 := congrArg Int32.toInt z791
    have e796 := congrArg Int32.toInt z2
    have e797 := congrArg Int32.toInt z791
    exact r_ret S hr hlk X778 ⟨q781, F789, q783, (by rw [z791]; exact R_of q784 rfl), (by rw [z793]; exact R_of q785 rfl), (by have h1_0 := congrArg Int32.toInt z791; have h2_0 := congrArg Int32.toInt z2; omega), (by have h1_0 := congrArg Int32.toInt z791; have h2_0 := congrArg Int32.toInt z2; omega), (by rw [(sLine_0  p764)]; exact q788)⟩ (nr_bool (R_of (lo := 0) (hi := 1) q783 rfl)) dX12_line_19
