def po_X12_readMan_q (τ : Tau)    (bb : Nat → Int) (nb : Nat) (fs : FS) (r : Int32) (u : Tau) : Prop := Inv u ∧ Fr [(131, 15), (131, 16), (131, 4), (131, 11), (131, 12), (131, 13), (131, 14), (131, 18), (131, 21)] [134, 331, 336] τ u ∧ R (0) (1) r ∧ R (0) (940) (u 131 4) ∧ R (0) (4) (u 131 11) ∧ (τ 131 4).toInt ≤ (u 131 4).toInt ∧ (r.toInt = 1 → (τ 131 4).toInt < (u 131 4).toInt) ∧ QM (sMan bb nb fs) r u (fun g => RM bb nb u g)
set_option maxHeartbeats 4000000 in
set_option maxRecDepth 100000 in
theorem c_X12_readMan_q (l : Launch) (G : Gx) (τ : Tau) (hI : Inv τ) (bb : Nat → Int) (nb : Nat) (fs : FS) (hR : RM bb nb τ fs) (hW : fs.1.1 = 1) : Ci l G yX12_readMan cX12_readMan 3 (some .boolean) 4 87 [.ref (G.2.2.2.1 131)] τ (po_X12_readMan_q τ    bb nb fs) := by
  unfold Ci
  refine C_of (own := RX12) (by decide) rfl (Nat.le_of_ble_eq_true rfl) ?_
  intro p e s m below meth c ls S hr hlk X hl
  have hl : lv_has ls 3 [(0, .ref (G.2.2.2.1 131))] := hl
  obtain ⟨v1, z2⟩ : ∃ x, τ 131 4 = x := ⟨_, rfl⟩
  have r3 : R (0) (940) v1 := rd hI rfl z2
  obtain ⟨v4, z5⟩ : ∃ x, τ 131 11 = x := ⟨_, rfl⟩
  have r6 : R (0) (4) v4 := rd hI rfl z5
  have e7 : (τ 134 0).toInt = (((gan fs.2).length : Nat) : Int) := hR.2.1.2.2.2.2.2.1.1
  have e8 : (τ 134 1).toInt = (((gmn fs.2).length : Nat) : Int) := hR.2.1.2.2.2.2.2.2.1.1
  have ra9 : R 0 9 (τ 134 0) := rd (K := 41) hI rfl rfl
  have ra10 : R 0 10 (τ 134 1) := rd (K := 41) hI rfl rfl
  refine r_aload_n S dX12_readMan_0 rfl (lv_at hl 0 rfl) ?_
  refine r_get (K := 38) (v := .ref (G.2.2.2.1 134)) S X (Nat.le_of_ble_eq_true rfl) rfl lk12_37_10 (fun _ => ⟨_, rfl, rfl⟩) dX12_readMan_1 ?_
  refine r_iconst S dX12_readMan_4 (by decide) (fun v11 z12 => ?_)
  have r13 := R_eq z12
  refine r_aldn (n := 125) (K := 41) S X (Nat.le_of_ble_eq_true rfl) rfl (fun _ => rfl) (ix_of r13 rfl) dX12_readMan_5 (fun v14 z15 => ?_)
  have r16 : R (0) (10) v14 := rds (K := 41) (a := 1) (n := 1) hI rfl z15 (R_of r13 rfl) (by decide +kernel)
  refine r_istore_n (lv' := [(1, .int v14), (0, .ref (G.2.2.2.1 131))]) S dX12_readMan_6 rfl hl (by decide) rfl (fun ls hl => ?_)
  refine r_iload_n S dX12_readMan_7 rfl (lv_at hl 0 rfl) ?_
  refine r_bipush S dX12_readMan_8 (by decide) (fun v17 z18 => ?_)
  have r19 := R_eq z18
  have e20 := congrArg Int32.toInt (zc (n := 1) (by omega) z15)
  refine r_icmp_ne (tgt := 19) S dX12_readMan_10 (by decide) (fun c21 => ?_) (fun c21 => ?_)
  ·
    have r22 : R (0) (9) v14 := ⟨by omega, by omega⟩
    refine r_aload_n S dX12_readMan_19 rfl (lv_at hl 1 rfl) ?_
    refine r_kv (q_V (As := []) (rest := []) (K := 38) (ci := 10) S X (c_X12_skip_q l G τ hI bb nb 900 fs.1.2.2 (MT_st hR.1 (Or.inl hW)).1 (MT_st hR.1 (Or.inl hW)).2.1 (MT_st hR.1 (Or.inl hW)).2.2) ck12_186 (Nat.le_of_ble_eq_true rfl) rfl (fun _ => ⟨_, rfl⟩) ⟨_, _, rfl⟩ ⟨Nat.le_of_ble_eq_true rfl, Nat.le_of_ble_eq_true rfl⟩ rfl hl.1 rfl (Nat.le_of_ble_eq_true rfl) dX12_readMan_20 ⟨Nat.le_refl 0, Nat.le_refl 0⟩) X (fun t25 H lc q23 X24 => ?_)
    unfold po_X12_skip_q at q23
    obtain ⟨q26, q27, q28, q29, q30, q31, q32⟩ := q23
    have F33 : Fr [(131, 15), (131, 16), (131, 4), (131, 11), (131, 12), (131, 13), (131, 14), (131, 18), (131, 21)] [134, 331, 336] τ t25 := Fr_call Fr_rfl q27 (by decide)
    obtain ⟨v34, z35⟩ : ∃ x, t25 131 4 = x := ⟨_, rfl⟩
    rw [z35] at q28
    obtain ⟨v36, z37⟩ : ∃ x, t25 131 11 = x := ⟨_, rfl⟩
    rw [z37] at q29
    have e38 := congrArg Int32.toInt z2
    have e39 := congrArg Int32.toInt z35
    have e40 := congrArg Int32.toInt z2
    have e41 := congrArg Int32.toInt z35
    have e42 := congrArg Int32.toInt z5
    have e43 := congrArg Int32.toInt z37
    have hR44 : RM bb nb t25 (stp bb nb fs) := ⟨q32, RH_fr hR.2.1 ((q27 131 20 (by decide)).trans rfl) (fun j _ => ((q27 134 j (by simp [fz])).trans rfl)) (fun j => ((q27 336 j (by simp [fz])).trans rfl)), RS_fr hR.2.2 (fun j => ((q27 337 j (by simp [fz])).trans rfl))⟩
    refine r_aload_n S dX12_readMan_23 rfl (lv_at hl 1 rfl) ?_
    refine r_bipush S dX12_readMan_24 (by decide) (fun v45 z46 => ?_)
    have r47 := R_eq z46
    refine r_iload_n S dX12_readMan_26 rfl (lv_at hl 0 rfl) ?_
    refine r_iadd S dX12_readMan_27 (fun v48 z49 => ?_)
    obtain ⟨e50, r51⟩ := i_add (lo := 28) (hi := 37) z49 r47 r22 rfl
    refine r_ki (q_V (As := [.int v48]) (rest := []) (K := 38) (ci := 10) S X24 (c_X12_fresh_q l G t25 q26 v48 (R_of (lo := 19) (hi := 37) r51 rfl) bb nb (stp bb nb fs) hR44 ⟨fun i hi => by have c : v48.toNatClampNeg = v48.toInt.toNat := rfl; have h9 : i < (gan fs.2).length := hi; omega, fun i hi => by have c : v48.toNatClampNeg = v48.toInt.toNat := rfl; have h9 : i < (gmn fs.2).length := hi; omega⟩) ck12_228 (Nat.le_of_ble_eq_true rfl) rfl (fun _ => ⟨_, rfl⟩) ⟨_, _, rfl⟩ ⟨Nat.le_of_ble_eq_true rfl, Nat.le_of_ble_eq_true rfl⟩ rfl hl.1 rfl (Nat.le_of_ble_eq_true rfl) dX12_readMan_28 ⟨Nat.le_refl 0, Nat.le_refl 0⟩) X24 (fun v55 t54 H lc q52 X53 => ?_)
    unfold po_X12_fresh_q at q52
    obtain ⟨q56, q57, q58, q59, q60, q61, q62, q63⟩ := q52
    have F64 : Fr [(131, 15), (131, 16), (131, 4), (131, 11), (131, 12), (131, 13), (131, 14), (131, 18), (131, 21)] [134, 331, 336] τ t54 := Fr_call F33 q57 (by decide)
    obtain ⟨v65, z66⟩ : ∃ x, t54 131 4 = x := ⟨_, rfl⟩
    rw [z66] at q59
    obtain ⟨v67, z68⟩ : ∃ x, t54 131 11 = x := ⟨_, rfl⟩
    rw [z68] at q60
    have e69 := congrArg Int32.toInt z35
    have e70 := congrArg Int32.toInt z66
    have e71 := congrArg Int32.toInt z37
    have e72 := congrArg Int32.toInt z68
    refine r_if_eq (tgt := 44) S dX12_readMan_31 (by decide) (fun c73 => ?_) (fun c73 => ?_)
    ·
      have r74 : R (0) (0) v55 := ⟨by omega, by omega⟩
      have p75 := (QM_0 q63) (by omega)
      obtain ⟨q76, e77, h78, h79⟩ := p75
      refine r_iconst S dX12_readMan_44 (by decide) (fun v80 z81 => ?_)
      have r82 := R_eq z81
      exact r_ret S hr hlk X53 ⟨q56, F64, (R_of r82 rfl), (by rw [z66]; exact R_of q59 rfl), (by rw [z68]; exact R_of q60 rfl), (by have h1_0 := congrArg Int32.toInt z66; have h2_0 := congrArg Int32.toInt z2; omega), (by have h1_0 := congrArg Int32.toInt z66; have h2_0 := congrArg Int32.toInt z2; omega), (QM_l (sMan_l1 (by omega) e77) (by omega) h78 h79)⟩ (nr_bool (R_of (lo := 0) (hi := 1) r82 rfl)) dX12_readMan_45
    ·
      have r83 : R (1) (1) v55 := ⟨by omega, by omega⟩
      have p84 := (QM_1 q63) (by omega)
      obtain ⟨g85, e86, hP87⟩ := p84
      refine r_aload_n S dX12_readMan_34 rfl (lv_at hl 1 rfl) ?_
      refine r_iconst S dX12_readMan_35 (by decide) (fun v88 z89 => ?_)
      have r90 := R_eq z89
      refine r_bipush S dX12_readMan_36 (by decide) (fun v91 z92 => ?_)
      have r93 := R_eq z92
      refine r_ki (q_V (As := [.int v88, .int v91]) (rest := []) (K := 38) (ci := 10) S X53 (c_X12_takes_q_0_20 l G t54 q56 v88 v91 r90 r93 bb nb (stp bb nb (stp bb nb fs)) hP87.1 ) ck12_212 (Nat.le_of_ble_eq_true rfl) rfl (fun _ => ⟨_, rfl⟩) ⟨_, _, rfl⟩ ⟨Nat.le_of_ble_eq_true rfl, Nat.le_of_ble_eq_true rfl⟩ rfl hl.1 rfl (Nat.le_of_ble_eq_true rfl) dX12_readMan_38 ⟨Nat.le_refl 0, Nat.le_refl 0⟩) X53 (fun v97 t96 H lc q94 X95 => ?_)
      unfold po_X12_takes_q_0_20 at q94
      obtain ⟨q98, q99, q100, q101, q102, q103, q104, q105, q106⟩ := q94
      have F107 : Fr [(131, 15), (131, 16), (131, 4), (131, 11), (131, 12), (131, 13), (131, 14), (131, 18), (131, 21)] [134, 331, 336] τ t96 := Fr_call F64 q99 (by decide)
      obtain ⟨v108, z109⟩ : ∃ x, t96 131 4 = x := ⟨_, rfl⟩
      rw [z109] at q102
      obtain ⟨v110, z111⟩ : ∃ x, t96 131 11 = x := ⟨_, rfl⟩
      rw [z111] at q103
      have e112 := congrArg Int32.toInt z66
      have e113 := congrArg Int32.toInt z109
      have e114 := congrArg Int32.toInt z68
      have e115 := congrArg Int32.toInt z111
      refine r_if_ne (tgt := 46) S dX12_readMan_41 (by decide) (fun c116 => ?_) (fun c116 => ?_)
      ·
        have r117 : R (1) (1) v97 := ⟨by omega, by omega⟩
        have p118 := q101 (by omega)
        obtain ⟨v119, z120⟩ : ∃ x, t96 131 18 = x := ⟨_, rfl⟩
        rw [z120] at p118
        have p121 := (QM_1 q106) (by omega)
        obtain ⟨g122, e123, hP124⟩ := p121
        refine r_aload_n S dX12_readMan_46 rfl (lv_at hl 1 rfl) ?_
        refine r_get (K := 38) (v := .ref (G.2.2.2.1 134)) S X95 (Nat.le_of_ble_eq_true rfl) rfl lk12_37_10 (fun _ => ⟨_, rfl, rfl⟩) dX12_readMan_47 ?_
        refine r_iconst S dX12_readMan_50 (by decide) (fun v125 z126 => ?_)
        have r127 := R_eq z126
        refine r_iload_n S dX12_readMan_51 rfl (lv_at hl 0 rfl) ?_
        refine r_iadd S dX12_readMan_52 (fun v128 z129 => ?_)
        obtain ⟨e130, r131⟩ := i_add (lo := 5) (hi := 14) z129 r127 r22 rfl
        refine r_aload_n S dX12_readMan_53 rfl (lv_at hl 1 rfl) ?_
        refine r_geti (K := 38) S X95 (Nat.le_of_ble_eq_true rfl) rfl lk12_193_10 (fun _ => ⟨_, rfl, rfl⟩) z120 dX12_readMan_54 ?_
        refine r_ast (n := 125) (K := 41) S X95 (Nat.le_of_ble_eq_true rfl) rfl (fun _ _ => rfl) (ix_of r131 rfl) dX12_readMan_57 (fun t132 H lc M133 X134 => ?_)
        have I135 := Inv_mu q98 M133 (show Rg (kd 134) _ v119 from wrs (K := 41) (a := 5) (n := 10) (R_of r131 rfl) (R_of (lo := 0) (hi := 20) p118 rfl) (by decide +kernel))
        have F136 : Fr [(131, 15), (131, 16), (131, 4), (131, 11), (131, 12), (131, 13), (131, 14), (131, 18), (131, 21)] [134, 331, 336] τ t132 := Fr_cell F107 M133 (by decide)
        have hR137 : RM bb nb t132 g122.2 := ⟨MT_fr hP124.2.1 ((M133.2 131 3 (Or.inl (by decide))).trans rfl) ((M133.2 131 4 (Or.inl (by decide))).trans rfl) ((M133.2 131 5 (Or.inl (by decide))).trans rfl) ((M133.2 131 11 (Or.inl (by decide))).trans rfl) ((M133.2 131 12 (Or.inl (by decide))).trans rfl) ((M133.2 131 14 (Or.inl (by decide))).trans rfl) (fun j => ((M133.2 132 j (Or.inl (by decide))).trans rfl)) (fun j => ((M133.2 331 j (Or.inl (by decide))).trans rfl)), RH_mu hP124.2.2.1 M133 (by have c : v128.toNatClampNeg = v128.toInt.toNat := rfl; omega), RS_fr hP124.2.2.2 (fun j => ((M133.2 337 j (Or.inl (by decide))).trans rfl))⟩
        refine r_iconst S dX12_readMan_58 (by decide) (fun v138 z139 => ?_)
        have r140 := R_eq z139
        refine r_istore_n (lv' := [(2, .int v138), (1, .int v14), (0, .ref (G.2.2.2.1 131))]) S dX12_readMan_59 rfl hl (by decide) rfl (fun ls hl => ?_)
        have L475 : ∀ (n : Nat) (t467 : Tau) (H : Heap) (lc : List Loc) (ls : Array Slot) (i465 : Int32), Xd G s H lc t467 → Inv t467 → Fr [(131, 15), (131, 16), (131, 4), (131, 11), (131, 12), (131, 13), (131, 14), (131, 18), (131, 21)] [134, 331, 336] τ t467 → R (0) (9) i465 → t467 134 1 = v14 → t467 131 4 = v108 → t467 131 11 = v110 → t467 131 18 = v119 → (∀ j : Nat, (j : Int) < (i465).toInt → (t467 134 (15 + 9 * v14.toInt.toNat + j)).toInt = 0) → (∀ j : Nat, (j < 5 ∨ 105 ≤ j) → t467 134 j = t132 134 j) → (∀ j : Nat, t467 132 j = t132 132 j) → (∀ j : Nat, t467 331 j = t132 331 j) → (∀ j : Nat, t467 336 j = t132 336 j) → (∀ j : Nat, t467 337 j = t132 337 j) → t467 131 3 = t132 131 3 → t467 131 4 = t132 131 4 → t467 131 5 = t132 131 5 → t467 131 11 = t132 131 11 → t467 131 12 = t132 131 12 → t467 131 14 = t132 131 14 → t467 131 20 = t132 131 20 → lv_has ls 3 [(0, .ref (G.2.2.2.1 131)), (1, .int v14), (2, .int i465)] → (9 - i465.toInt).toNat < n → W p l e (Rm 4 87) s m ([.ref (G.2.2.2.1 131)] : List Value).toArray below meth c H lc 0 0 (MQ below (va_Qi (po_X12_readMan_q τ    bb nb fs) (Bs G) G.2.2.2.2) ([.ref (G.2.2.2.1 131)] : List Value).toArray s 0 0 G.2.2.2.2) (F0 m 60 ls []) := by
          intro n
          induction n with
          | zero => intros; omega
          | succ n ih489 =>
            intro t467 H lc ls i465 X470 I468 F469 r466 z471 z472 z473 z474 x476 x477 kp478 kp479 kp480 kp481 kp482 kp483 kp484 kp485 kp486 kp487 kp488 hl hm
            refine r_iload_n S dX12_readMan_60 rfl (lv_at hl 2 rfl) ?_
            refine r_bipush S dX12_readMan_61 (by decide) (fun v490 z491 => ?_)
            have r492 := R_eq z491
            refine r_icmp_ge (tgt := 87) S dX12_readMan_63 (by decide) (fun c493 => ?_) (fun c493 => ?_)
            ·
              have r494 : R (9) (9) i465 := ⟨by omega, by omega⟩
              have L982 : ∀ (n : Nat) (t971 : Tau) (H : Heap) (lc : List Loc) (ls : Array Slot) (f976 : Int32) (f979 : Int32), Xd G s H lc t971 → Inv t971 → Fr [(131, 15), (131, 16), (131, 4), (131, 11), (131, 12), (131, 13), (131, 14), (131, 18), (131, 21)] [134, 331, 336] τ t971 → t971 134 1 = v14 → t971 131 4 = f976 → R (0) (940) f976 → t971 131 11 = f979 → R (0) (4) f979 → (∃ (fc : FS) (op : Nat → Bool), RM bb nb t971 fc ∧ fc.2 = fs.2 ∧ (qof t971 136 (28 + (gmn fs.2).length)).toInt = e256 (wrd bb (stp bb nb fs).1) ∧ RQ t971 v14.toInt.toNat op ∧ thn (sOps bb nb (10 - cnt op) op fc) (fun g => .inr (g.1, umn fs.2 (wrd bb (stp bb nb fs).1))) = sMan bb nb fs) → v1.toInt < f976.toInt → lv_has ls 3 [(0, .ref (G.2.2.2.1 131)), (1, .int v14)] → (940 - f976.toInt).toNat < n → W p l e (Rm 4 87) s m ([.ref (G.2.2.2.1 131)] : List Value).toArray below meth c H lc 0 0 (MQ below (va_Qi (po_X12_readMan_q τ    bb nb fs) (Bs G) G.2.2.2.2) ([.ref (G.2.2.2.1 131)] : List Value).toArray s 0 0 G.2.2.2.2) (F0 m 87 ls []) := by
                intro n
                induction n with
                | zero => intros; omega
                | succ n ih985 =>
                  intro t971 H lc ls f976 f979 X974 I972 F973 z975 z978 r977 z981 r980 x983 x984 hl hm
                  obtain ⟨fc986, op987, hR988, hf989, hq990, hO991, he992⟩ := x983
                  refine r_aload_n S dX12_readMan_87 rfl (lv_at hl 0 rfl) ?_
                  refine r_bipush S dX12_readMan_88 (by decide) (fun v993 z994 => ?_)
                  have r995 := R_eq z994
                  refine r_ki (q_V (As := [.int v993]) (rest := []) (K := 38) (ci := 10) S X974 (c_X12_isSign_q l G t971 I972 v993 (R_of (lo := -2147483648) (hi := 2147483647) r995 rfl) bb nb 900 fc986.1 hR988.1) ck12_180 (Nat.le_of_ble_eq_true rfl) rfl (fun _ => ⟨_, rfl⟩) ⟨_, _, rfl⟩ ⟨Nat.le_of_ble_eq_true rfl, Nat.le_of_ble_eq_true rfl⟩ rfl hl.1 rfl (Nat.le_of_ble_eq_true rfl) dX12_readMan_90 ⟨Nat.le_refl 0, Nat.le_refl 0⟩) X974 (fun v999 t998 H lc q996 X997 => ?_)
                  unfold po_X12_isSign_q at q996
                  obtain ⟨q1000, q1001, q1002⟩ := q996
                  rw [q1000] at X997
                  refine r_if_ne (tgt := 168) S dX12_readMan_93 (by decide) (fun c1003 => ?_) (fun c1003 => ?_)
                  ·
                    have r1004 : R (1) (1) v999 := ⟨by omega, by omega⟩
                    have p1005 := (q1002).mp (by omega)
                    refine r_aload_n S dX12_readMan_168 rfl (lv_at hl 0 rfl) ?_
                    refine r_get (K := 38) (v := .ref (G.2.2.2.1 134)) S X997 (Nat.le_of_ble_eq_true rfl) rfl lk12_37_10 (fun _ => ⟨_, rfl, rfl⟩) dX12_readMan_169 ?_
                    refine r_iconst S dX12_readMan_172 (by decide) (fun v1006 z1007 => ?_)
                    have r1008 := R_eq z1007
                    refine r_dup2 S dX12_readMan_173 rfl rfl ?_
                    refine r_aldi (x := v14) (n := 125) (K := 41) S X997 (Nat.le_of_ble_eq_true rfl) rfl (fun _ => rfl) (ix_of r1008 rfl) (zc' (n := 1) (by omega) z975) dX12_readMan_174 ?_
                    refine r_iconst S dX12_readMan_175 (by decide) (fun v1010 z1011 => ?_)
                    have r1012 := R_eq z1011
                    refine r_iadd S dX12_readMan_176 (fun v1013 z1014 => ?_)
                    obtain ⟨e1015, r1016⟩ := i_add (lo := 1) (hi := 10) z1014 r22 r1012 rfl
                    refine r_ast (n := 125) (K := 41) S X997 (Nat.le_of_ble_eq_true rfl) rfl (fun _ _ => rfl) (ix_of r1008 rfl) dX12_readMan_177 (fun t1017 H lc M1018 X1019 => ?_)
                    have I1020 := Inv_mu I972 M1018 (show Rg (kd 134) _ v1013 from wrs (K := 41) (a := 1) (n := 1) (R_of r1008 rfl) (R_of (lo := 0) (hi := 10) r1016 rfl) (by decide +kernel))
                    have F1021 : Fr [(131, 15), (131, 16), (131, 4), (131, 11), (131, 12), (131, 13), (131, 14), (131, 18), (131, 21)] [134, 331, 336] τ t1017 := Fr_cell F973 M1018 (by decide)
                    have hR1022 : RM bb nb t1017 (fc986.1, umn fs.2 (wrd bb (stp bb nb fs).1)) := ⟨MT_fr hR988.1 ((M1018.2 131 3 (Or.inl (by decide))).trans rfl) ((M1018.2 131 4 (Or.inl (by decide))).trans rfl) ((M1018.2 131 5 (Or.inl (by decide))).trans rfl) ((M1018.2 131 11 (Or.inl (by decide))).trans rfl) ((M1018.2 131 12 (Or.inl (by decide))).trans rfl) ((M1018.2 131 14 (Or.inl (by decide))).trans rfl) (fun j => ((M1018.2 132 j (Or.inl (by decide))).trans rfl)) (fun j => ((M1018.2 331 j (Or.inl (by decide))).trans rfl)), RH_mn (hf989 ▸ hR988.2.1) M1018 (by rfl) hq990 (MT_low hR44.1 (hP87.2.2).1).1 (by omega), RS_fr hR988.2.2 (fun j => ((M1018.2 337 j (Or.inl (by decide))).trans rfl))⟩
                    refine r_iconst S dX12_readMan_178 (by decide) (fun v1023 z1024 => ?_)
                    have r1025 := R_eq z1024
                    exact r_ret S hr hlk X1019 ⟨I1020, F1021, (R_of r1025 rfl), (by rw [((M1018.2 131 4 (Or.inl (by decide))).trans z978)]; exact R_of r977 rfl), (by rw [((M1018.2 131 11 (Or.inl (by decide))).trans z981)]; exact R_of r980 rfl), (by have h1_0 := congrArg Int32.toInt ((M1018.2 131 4 (Or.inl (by decide))).trans z978); have h2_0 := congrArg Int32.toInt z2; omega), (by have h1_0 := congrArg Int32.toInt ((M1018.2 131 4 (Or.inl (by decide))).trans z978); have h2_0 := congrArg Int32.toInt z2; omega), (QM_r (by rw [← he992]; exact thn_r (sOps_e ⟨p1005.1, by have q := p1005.2; omega⟩)) (by omega) hR1022)⟩ (nr_bool (R_of (lo := 0) (hi := 1) r1025 rfl)) dX12_readMan_179
                  ·
                    have r1026 : R (0) (0) v999 := ⟨by omega, by omega⟩
                    have p1027 := (iff_n q1002) (by omega)
                    refine r_aload_n S dX12_readMan_96 rfl (lv_at hl 0 rfl) ?_
                    refine r_bipush S dX12_readMan_97 (by decide) (fun v1028 z1029 => ?_)
                    have r1030 := R_eq z1029
                    refine r_aload_n S dX12_readMan_99 rfl (lv_at hl 0 rfl) ?_
                    refine r_get (K := 38) (v := .ref (G.2.2.2.1 134)) S X997 (Nat.le_of_ble_eq_true rfl) rfl lk12_37_10 (fun _ => ⟨_, rfl, rfl⟩) dX12_readMan_100 ?_
                    refine r_iconst S dX12_readMan_103 (by decide) (fun v1031 z1032 => ?_)
                    have r1033 := R_eq z1032
                    refine r_aldn (n := 125) (K := 41) S X997 (Nat.le_of_ble_eq_true rfl) rfl (fun _ => rfl) (ix_of r1033 rfl) dX12_readMan_104 (fun v1034 z1035 => ?_)
                    have r1036 : R (0) (9) v1034 := rds (K := 41) (a := 0) (n := 1) I972 rfl z1035 (R_of r1033 rfl) (by decide +kernel)
                    refine r_ki (q_V (As := [.int v1028, .int v1034]) (rest := []) (K := 38) (ci := 10) S X997 (c_X12_looksAt_qa l G t971 I972 v1028 v1034 r1030 r1036 bb nb fc986 hR988 (by have q := hR988.2.1.2.2.2.2.2.1.1; rw [(zc (n := 0) (by omega) z1035)] at q; exact q)) ck12_204 (Nat.le_of_ble_eq_true rfl) rfl (fun _ => ⟨_, rfl⟩) ⟨_, _, rfl⟩ ⟨Nat.le_of_ble_eq_true rfl, Nat.le_of_ble_eq_true rfl⟩ rfl hl.1 rfl (Nat.le_of_ble_eq_true rfl) dX12_readMan_105 ⟨Nat.le_refl 0, Nat.le_refl 0⟩) X997 (fun v1040 t1039 H lc q1037 X1038 => ?_)
                    unfold po_X12_looksAt_qa at q1037
                    obtain ⟨q1041, q1042, q1043, q1044, q1045, q1046⟩ := q1037
                    have F1047 : Fr [(131, 15), (131, 16), (131, 4), (131, 11), (131, 12), (131, 13), (131, 14), (131, 18), (131, 21)] [134, 331, 336] τ t1039 := Fr_call F973 q1042 (by decide)
                    have e1048 := congrArg Int32.toInt z981
                    have e1049 := congrArg Int32.toInt ((q1042 131 11 (by decide)).trans z981)
                    refine r_if_ne (tgt := 113) S dX12_readMan_108 (by decide) (fun c1050 => ?_) (fun c1050 => ?_)
                    ·
                      have r1051 : R (1) (1) v1040 := ⟨by omega, by omega⟩
                      have p1052 := q1044 (by omega)
                      obtain ⟨v1053, z1054⟩ : ∃ x, t1039 131 18 = x := ⟨_, rfl⟩
                      rw [z1054] at p1052
                      have p1055 := (QM_1 q1046) (by omega)
                      obtain ⟨g1056, e1057, hP1058⟩ := p1055
                      refine r_bipush S dX12_readMan_113 (by decide) (fun v1059 z1060 => ?_)
                      have r1061 := R_eq z1060
                      refine r_bipush S dX12_readMan_115 (by decide) (fun v1062 z1063 => ?_)
                      have r1064 := R_eq z1063
                      refine r_iload_n S dX12_readMan_117 rfl (lv_at hl 1 rfl) ?_
                      refine r_imul S dX12_readMan_118 (fun v1065 z1066 => ?_)
                      obtain ⟨e1067, r1068⟩ := i_mul (lo := 0) (hi := 81) z1066 r1064 r22 rfl rfl
                      have e1069 : v1065.toInt = 9 * v14.toInt := by rw [e1067, show v1062.toInt = 9 by omega]
                      refine r_iadd S dX12_readMan_119 (fun v1070 z1071 => ?_)
                      obtain ⟨e1072, r1073⟩ := i_add (lo := 15) (hi := 96) z1071 r1061 r1068 rfl
                      refine r_aload_n S dX12_readMan_120 rfl (lv_at hl 0 rfl) ?_
                      refine r_geti (K := 38) S X1038 (Nat.le_of_ble_eq_true rfl) rfl lk12_193_10 (fun _ => ⟨_, rfl, rfl⟩) z1054 dX12_readMan_121 ?_
                      refine r_iadd S dX12_readMan_124 (fun v1074 z1075 => ?_)
                      obtain ⟨e1076, r1077⟩ := i_add (lo := 15) (hi := 104) z1075 r1073 p1052 rfl
                      refine r_istore_n (lv' := [(2, .int v1074), (0, .ref (G.2.2.2.1 131)), (1, .int v14)]) S dX12_readMan_125 rfl hl (by decide) rfl (fun ls hl => ?_)
                      refine r_aload_n S dX12_readMan_126 rfl (lv_at hl 1 rfl) ?_
                      refine r_get (K := 38) (v := .ref (G.2.2.2.1 134)) S X1038 (Nat.le_of_ble_eq_true rfl) rfl lk12_37_10 (fun _ => ⟨_, rfl, rfl⟩) dX12_readMan_127 ?_
                      refine r_iload_n S dX12_readMan_130 rfl (lv_at hl 0 rfl) ?_
                      refine r_aldn (n := 125) (K := 41) S X1038 (Nat.le_of_ble_eq_true rfl) rfl (fun _ => rfl) (ix_of r1077 rfl) dX12_readMan_131 (fun v1078 z1079 => ?_)
                      have r1080 : R (-9) (9) v1078 := rds (K := 41) (a := 15) (n := 90) q1041 rfl z1079 (R_of r1077 rfl) (by decide +kernel)
                      have g1081 : Rg 41 v1074.toNatClampNeg v1078 := rd q1041 rfl z1079
                      have e1083 : v1053.toInt = g1056 := by rw [← z1054]; exact hP1058.1
                      have ho1082 : (v1078.toInt ≠ 0 ↔ op987 g1056 = true) := by have q := hO991 g1056 (by omega); rw [show 15 + 9 * v14.toInt.toNat + g1056 = v1074.toNatClampNeg by (have c : v1074.toNatClampNeg = v1074.toInt.toNat := rfl; omega), ← (((q1042 134 v1074.toNatClampNeg (by simp [fz])).trans rfl) : t1039 134 v1074.toNatClampNeg = t971 134 v1074.toNatClampNeg), z1079] at q; exact q
                      refine r_if_eq (tgt := 141) S dX12_readMan_132 (by decide) (fun c1084 => ?_) (fun c1084 => ?_)
                      ·
                        have r1085 : R (0) (0) v1078 := ⟨by omega, by omega⟩
                        refine r_aload_n S dX12_readMan_141 rfl (lv_at hl 1 rfl) ?_
                        refine r_kv (q_V (As := []) (rest := []) (K := 38) (ci := 10) S X1038 (c_X12_skip_q l G t1039 q1041 bb nb 900 fc986.1.2.2 (MT_st hP1058.2.1 (Or.inl (sLook_n e1057).1)).1 (MT_st hP1058.2.1 (Or.inl (sLook_n e1057).1)).2.1 (MT_st hP1058.2.1 (Or.inl (sLook_n e1057).1)).2.2) ck12_186 (Nat.le_of_ble_eq_true rfl) rfl (fun _ => ⟨_, rfl⟩) ⟨_, _, rfl⟩ ⟨Nat.le_of_ble_eq_true rfl, Nat.le_of_ble_eq_true rfl⟩ rfl hl.1 rfl (Nat.le_of_ble_eq_true rfl) dX12_readMan_142 ⟨Nat.le_refl 0, Nat.le_refl 0⟩) X1038 (fun t1088 H lc q1086 X1087 => ?_)
                        unfold po_X12_skip_q at q1086
                        obtain ⟨q1089, q1090, q1091, q1092, q1093, q1094, q1095⟩ := q1086
                        have F1096 : Fr [(131, 15), (131, 16), (131, 4), (131, 11), (131, 12), (131, 13), (131, 14), (131, 18), (131, 21)] [134, 331, 336] τ t1088 := Fr_call F1047 q1090 (by decide)
                        obtain ⟨v1097, z1098⟩ : ∃ x, t1088 131 4 = x := ⟨_, rfl⟩
                        rw [z1098] at q1091
                        obtain ⟨v1099, z1100⟩ : ∃ x, t1088 131 11 = x := ⟨_, rfl⟩
                        rw [z1100] at q1092
                        have e1101 := congrArg Int32.toInt ((q1042 131 4 (by decide)).trans z978)
                        have e1102 := congrArg Int32.toInt z1098
                        have e1103 := congrArg Int32.toInt ((q1042 131 4 (by decide)).trans z978)
                        have e1104 := congrArg Int32.toInt z1098
                        have e1105 := congrArg Int32.toInt ((q1042 131 11 (by decide)).trans z981)
                        have e1106 := congrArg Int32.toInt z1100
                        have hR1107 : RM bb nb t1088 (stp bb nb fc986) := ⟨q1095, RH_fr hP1058.2.2.1 ((q1090 131 20 (by decide)).trans rfl) (fun j _ => ((q1090 134 j (by simp [fz])).trans rfl)) (fun j => ((q1090 336 j (by simp [fz])).trans rfl)), RS_fr hP1058.2.2.2 (fun j => ((q1090 337 j (by simp [fz])).trans rfl))⟩
                        refine r_aload_n S dX12_readMan_145 rfl (lv_at hl 1 rfl) ?_
                        refine r_iconst S dX12_readMan_146 (by decide) (fun v1108 z1109 => ?_)
                        have r1110 := R_eq z1109
                        refine r_ki (q_V (As := [.int v1108]) (rest := []) (K := 38) (ci := 10) S X1087 (c_X12_takesMind_q l G t1088 q1089 v1108 r1110 bb nb (stp bb nb fc986) hR1107 ) ck12_234 (Nat.le_of_ble_eq_true rfl) rfl (fun _ => ⟨_, rfl⟩) ⟨_, _, rfl⟩ ⟨Nat.le_of_ble_eq_true rfl, Nat.le_of_ble_eq_true rfl⟩ rfl hl.1 rfl (Nat.le_of_ble_eq_true rfl) dX12_readMan_147 ⟨Nat.le_refl 0, Nat.le_refl 0⟩) X1087 (fun v1114 t1113 H lc q1111 X1112 => ?_)
                        unfold po_X12_takesMind_q at q1111
                        obtain ⟨q1115, q1116, q1117, q1118, q1119, q1120, q1121, q1122⟩ := q1111
                        have F1123 : Fr [(131, 15), (131, 16), (131, 4), (131, 11), (131, 12), (131, 13), (131, 14), (131, 18), (131, 21)] [134, 331, 336] τ t1113 := Fr_call F1096 q1116 (by decide)
                        obtain ⟨v1124, z1125⟩ : ∃ x, t1113 131 4 = x := ⟨_, rfl⟩
                        rw [z1125] at q1118
                        obtain ⟨v1126, z1127⟩ : ∃ x, t1113 131 11 = x := ⟨_, rfl⟩
                        rw [z1127] at q1119
                        have e1128 := congrArg Int32.toInt z1098
                        have e1129 := congrArg Int32.toInt z1125
                        have e1130 := congrArg Int32.toInt z1098
                        have e1131 := congrArg Int32.toInt z1125
                        refine r_if_ne (tgt := 155) S dX12_readMan_150 (by decide) (fun c1132 => ?_) (fun c1132 => ?_)
                        ·
                          have r1133 : R (1) (1) v1114 := ⟨by omega, by omega⟩
                          have p1134 := (QM_1 q1122) (by omega)
                          obtain ⟨g1135, e1136, hP1137⟩ := p1134
                          refine r_aload_n S dX12_readMan_155 rfl (lv_at hl 1 rfl) ?_
                          refine r_get (K := 38) (v := .ref (G.2.2.2.1 134)) S X1112 (Nat.le_of_ble_eq_true rfl) rfl lk12_37_10 (fun _ => ⟨_, rfl, rfl⟩) dX12_readMan_156 ?_
                          refine r_iload_n S dX12_readMan_159 rfl (lv_at hl 0 rfl) ?_
                          refine r_aload_n S dX12_readMan_160 rfl (lv_at hl 1 rfl) ?_
                          refine r_getn (K := 38) S X1112 (Nat.le_of_ble_eq_true rfl) rfl lk12_215_10 (fun _ => ⟨_, rfl, rfl⟩) dX12_readMan_161 (fun v1138 z1139 => ?_)
                          have r1140 : R (-9) (9) v1138 := rd q1115 rfl z1139
                          refine r_ast (n := 125) (K := 41) S X1112 (Nat.le_of_ble_eq_true rfl) rfl (fun _ _ => rfl) (ix_of r1077 rfl) dX12_readMan_164 (fun t1141 H lc M1142 X1143 => ?_)
                          have I1144 := Inv_mu q1115 M1142 (show Rg (kd 134) _ v1138 from wrs (K := 41) (a := 15) (n := 90) (R_of r1077 rfl) (R_of (lo := -9) (hi := 9) r1140 rfl) (by decide +kernel))
                          have F1145 : Fr [(131, 15), (131, 16), (131, 4), (131, 11), (131, 12), (131, 13), (131, 14), (131, 18), (131, 21)] [134, 331, 336] τ t1141 := Fr_cell F1123 M1142 (by decide)
                          refine r_goto (tgt := 87) S dX12_readMan_165 (by decide) ?_
                          exact ih985 t1141 _ _ _ v1124 v1126 X1143 I1144 F1145 ((M1142.2 134 1 (Or.inr (ixne r1077 rfl))).trans ((q1116 134 1 (by decide)).trans ((q1090 134 1 (by decide)).trans ((q1042 134 1 (by decide)).trans z975)))) ((M1142.2 131 4 (Or.inl (by decide))).trans z1125) ⟨by omega, by omega⟩ ((M1142.2 131 11 (Or.inl (by decide))).trans z1127) ⟨by omega, by omega⟩ ⟨g1135.2, (fun j => op987 j || j == g1056), ⟨MT_fr hP1137.2.1 ((M1142.2 131 3 (Or.inl (by decide))).trans rfl) ((M1142.2 131 4 (Or.inl (by decide))).trans rfl) ((M1142.2 131 5 (Or.inl (by decide))).trans rfl) ((M1142.2 131 11 (Or.inl (by decide))).trans rfl) ((M1142.2 131 12 (Or.inl (by decide))).trans rfl) ((M1142.2 131 14 (Or.inl (by decide))).trans rfl) (fun j => ((M1142.2 132 j (Or.inl (by decide))).trans rfl)) (fun j => ((M1142.2 331 j (Or.inl (by decide))).trans rfl)), RH_mu hP1137.2.2.1 M1142 (by have c : v1074.toNatClampNeg = v1074.toInt.toNat := rfl; omega), RS_fr hP1137.2.2.2 (fun j => ((M1142.2 337 j (Or.inl (by decide))).trans rfl))⟩, (by rw [sMd_s e1136]; exact hf989), (by rw [qof_of (k := 136) (fun j => ((M1142.2 336 j (Or.inl (by decide))).trans ((q1116 336 j (by simp [fz])).trans ((q1090 336 j (by simp [fz])).trans ((q1042 336 j (by simp [fz])).trans rfl))))) _]; exact hq990), RQ_put (RQ_eq hO991 (fun j => ((q1116 134 j (by simp [fz])).trans ((q1090 134 j (by simp [fz])).trans ((q1042 134 j (by simp [fz])).trans rfl))))) M1142 (by have c : v1074.toNatClampNeg = v1074.toInt.toNat := rfl; omega) (by omega) (by rw [← z1139]; exact hP1137.1), (by rw [← he992, show 10 - cnt op987 = (10 - cnt (fun j => op987 j || j == g1056)) + 1 by (have q := cnt_up (op := op987) (i := g1056) (by omega) (fun h => absurd (ho1082.mpr h) (by omega)); have q2 := cnt_le (fun j => op987 j || j == g1056); omega)]; exact congrArg (fun z => thn z _) (sOps_r (fun h => p1027 ⟨h.1, by have q := h.2; omega⟩) ((sOp_md e1057 (fun h => absurd (ho1082.mpr h) (by omega))).trans (thn_r e1136))).symm)⟩ (by omega) (lv_sub hl [1, 2] rfl) (by omega)
                        ·
                          have r1146 : R (0) (0) v1114 := ⟨by omega, by omega⟩
                          have p1147 := (QM_0 q1122) (by omega)
                          obtain ⟨q1148, e1149, h1150, h1151⟩ := p1147
                          refine r_iconst S dX12_readMan_153 (by decide) (fun v1152 z1153 => ?_)
                          have r1154 := R_eq z1153
                          exact r_ret S hr hlk X1112 ⟨q1115, F1123, (R_of r1154 rfl), (by rw [z1125]; exact R_of q1118 rfl), (by rw [z1127]; exact R_of q1119 rfl), (by have h1_0 := congrArg Int32.toInt z1125; have h2_0 := congrArg Int32.toInt z2; omega), (by have h1_0 := congrArg Int32.toInt z1125; have h2_0 := congrArg Int32.toInt z2; omega), (QM_l (by rw [← he992, show 10 - cnt op987 = (9 - cnt op987) + 1 by (have q := cnt_le op987; omega)]; exact thn_l (sOps_l (fun h => p1027 ⟨h.1, by have q := h.2; omega⟩) ((sOp_md e1057 (fun h => absurd (ho1082.mpr h) (by omega))).trans (thn_l e1149)))) (by omega) h1150 h1151)⟩ (nr_bool (R_of (lo := 0) (hi := 1) r1154 rfl)) dX12_readMan_154
                      ·
                        refine r_aload_n S dX12_readMan_135 rfl (lv_at hl 1 rfl) ?_
                        refine r_iconst S dX12_readMan_136 (by decide) (fun v1155 z1156 => ?_)
                        have r1157 := R_eq z1156
                        refine r_ki (q_V (As := [.int v1155]) (rest := []) (K := 38) (ci := 10) S X1038 (c_X12_bad_q l G t1039 q1041 v1155 (R_of (lo := -2147483648) (hi := 2147483647) r1157 rfl)) ck12_183 (Nat.le_of_ble_eq_true rfl) rfl (fun _ => ⟨_, rfl⟩) ⟨_, _, rfl⟩ ⟨Nat.le_of_ble_eq_true rfl, Nat.le_of_ble_eq_true rfl⟩ rfl hl.1 rfl (Nat.le_of_ble_eq_true rfl) dX12_readMan_137 ⟨Nat.le_refl 0, Nat.le_refl 0⟩) X1038 (fun v1161 t1160 H lc q1158 X1159 => ?_)
                        unfold po_X12_bad_q at q1158
                        obtain ⟨q1162, q1163, q1164, q1165⟩ := q1158
                        have F1166 : Fr [(131, 15), (131, 16), (131, 4), (131, 11), (131, 12), (131, 13), (131, 14), (131, 18), (131, 21)] [134, 331, 336] τ t1160 := Fr_call F1047 q1163 (by decide)
                        exact r_ret S hr hlk X1159 ⟨q1162, F1166, (R_of q1164 rfl), (by rw [((q1163 131 4 (by decide)).trans ((q1042 131 4 (by decide)).trans z978))]; exact R_of r977 rfl), (by rw [((q1163 131 11 (by decide)).trans ((q1042 131 11 (by decide)).trans z981))]; exact R_of r980 rfl), (by have h1_0 := congrArg Int32.toInt ((q1163 131 4 (by decide)).trans ((q1042 131 4 (by decide)).trans z978)); have h2_0 := congrArg Int32.toInt z2; omega), (by have h1_0 := congrArg Int32.toInt ((q1163 131 4 (by decide)).trans ((q1042 131 4 (by decide)).trans z978)); have h2_0 := congrArg Int32.toInt z2; omega), (QM_b (by rw [← he992, show 10 - cnt op987 = (9 - cnt op987) + 1 by (have q := cnt_le op987; omega)]; exact thn_l (sOps_l (fun h => p1027 ⟨h.1, by have q := h.2; omega⟩) (sOp_b e1057 (ho1082.mp (by omega))))) (by omega) (by rw [q1165.1]; omega) (by rw [q1165.2]; exact RM_at hP1058.2))⟩ (nr_bool (R_of (lo := 0) (hi := 1) q1164 rfl)) dX12_readMan_140
                    ·
                      have r1167 : R (0) (0) v1040 := ⟨by omega, by omega⟩
                      have p1168 := (QM_0 q1046) (by omega)
                      obtain ⟨q1169, e1170, h1171, h1172⟩ := p1168
                      refine r_iconst S dX12_readMan_111 (by decide) (fun v1173 z1174 => ?_)
                      have r1175 := R_eq z1174
                      exact r_ret S hr hlk X1038 ⟨q1041, F1047, (R_of r1175 rfl), (by rw [((q1042 131 4 (by decide)).trans z978)]; exact R_of r977 rfl), (by rw [((q1042 131 11 (by decide)).trans z981)]; exact R_of r980 rfl), (by have h1_0 := congrArg Int32.toInt ((q1042 131 4 (by decide)).trans z978); have h2_0 := congrArg Int32.toInt z2; omega), (by have h1_0 := congrArg Int32.toInt ((q1042 131 4 (by decide)).trans z978); have h2_0 := congrArg Int32.toInt z2; omega), (QM_l (by rw [← he992, show 10 - cnt op987 = (9 - cnt op987) + 1 by (have q := cnt_le op987; omega)]; exact thn_l (sOps_l (fun h => p1027 ⟨h.1, by have q := h.2; omega⟩) (sOp_l1 e1170))) (by omega) h1171 h1172)⟩ (nr_bool (R_of (lo := 0) (hi := 1) r1175 rfl)) dX12_readMan_112
              exact L982 _ t467 _ _ _ v108 v110 X470 I468 F469 z471 z472 ⟨by omega, by omega⟩ z473 ⟨by omega, by omega⟩ ⟨g122.2, (fun _ => false), ⟨MT_fr hR137.1 ((kp482).trans rfl) ((kp483).trans rfl) ((kp484).trans rfl) ((kp485).trans rfl) ((kp486).trans rfl) ((kp487).trans rfl) (fun j => ((kp478 j).trans rfl)) (fun j => ((kp479 j).trans rfl)), RH_fr hR137.2.1 ((kp488).trans rfl) x477 (fun j => ((kp480 j).trans rfl)), RS_fr hR137.2.2 (fun j => ((kp481 j).trans rfl))⟩, (by rw [sNum_s e123]; rfl), (by rw [show qof t467 136 (28 + (gmn fs.2).length) = qof t54 136 v48.toInt.toNat from by rw [show v48.toInt.toNat = 28 + (gmn fs.2).length by omega]; exact (qof_of (k := 136) (fun j => ((kp480 j).trans ((M133.2 336 j (Or.inl (by decide))).trans ((q99 336 j (by simp [fz])).trans rfl)))) _)]; exact hP87.2.1), RQ_0 (fun a ha => x476 a (by omega)), (by rw [sMan_m (by omega) e86, thn_r e123]; rfl)⟩ (by omega) (lv_sub hl [0, 1] rfl) (Nat.lt_succ_self _)
            ·
              have r1176 : R (0) (8) i465 := ⟨by omega, by omega⟩
              refine r_aload_n S dX12_readMan_66 rfl (lv_at hl 0 rfl) ?_
              refine r_get (K := 38) (v := .ref (G.2.2.2.1 134)) S X470 (Nat.le_of_ble_eq_true rfl) rfl lk12_37_10 (fun _ => ⟨_, rfl, rfl⟩) dX12_readMan_67 ?_
              refine r_bipush S dX12_readMan_70 (by decide) (fun v1177 z1178 => ?_)
              have r1179 := R_eq z1178
              refine r_bipush S dX12_readMan_72 (by decide) (fun v1180 z1181 => ?_)
              have r1182 := R_eq z1181
              refine r_iload_n S dX12_readMan_74 rfl (lv_at hl 1 rfl) ?_
              refine r_imul S dX12_readMan_75 (fun v1183 z1184 => ?_)
              obtain ⟨e1185, r1186⟩ := i_mul (lo := 0) (hi := 81) z1184 r1182 r22 rfl rfl
              have e1187 : v1183.toInt = 9 * v14.toInt := by rw [e1185, show v1180.toInt = 9 by omega]
              refine r_iadd S dX12_readMan_76 (fun v1188 z1189 => ?_)
              obtain ⟨e1190, r1191⟩ := i_add (lo := 15) (hi := 96) z1189 r1179 r1186 rfl
              refine r_iload_n S dX12_readMan_77 rfl (lv_at hl 2 rfl) ?_
              refine r_iadd S dX12_readMan_78 (fun v1192 z1193 => ?_)
              obtain ⟨e1194, r1195⟩ := i_add (lo := 15) (hi := 104) z1193 r1191 r1176 rfl
              refine r_iconst S dX12_readMan_79 (by decide) (fun v1196 z1197 => ?_)
              have r1198 := R_eq z1197
              refine r_ast (n := 125) (K := 41) S X470 (Nat.le_of_ble_eq_true rfl) rfl (fun _ _ => rfl) (ix_of r1195 rfl) dX12_readMan_80 (fun t1199 H lc M1200 X1201 => ?_)
              have I1202 := Inv_mu I468 M1200 (show Rg (kd 134) _ v1196 from wrs (K := 41) (a := 15) (n := 90) (R_of r1195 rfl) (R_of (lo := -9) (hi := 9) r1198 rfl) (by decide +kernel))
              have F1203 : Fr [(131, 15), (131, 16), (131, 4), (131, 11), (131, 12), (131, 13), (131, 14), (131, 18), (131, 21)] [134, 331, 336] τ t1199 := Fr_cell F469 M1200 (by decide)
              refine r_iinc (k := 2) S dX12_readMan_81 hl rfl (by decide) (by decide) (fun v1204 d1205 ls z1206 z1207 hl => ?_)
              obtain ⟨e1208, r1209⟩ := i_add (lo := 1) (hi := 9) z1206 r1176 (R_eq z1207) rfl
              have hl : lv_has ls 3 [(2, .int v1204), (0, .ref (G.2.2.2.1 131)), (1, .int v14)] := hl
              refine r_goto (tgt := 60) S dX12_readMan_84 (by decide) ?_
              exact ih489 t1199 _ _ _ v1204 X1201 I1202 F1203 (R_of r1209 rfl) ((M1200.2 134 1 (Or.inr (ixne r1195 rfl))).trans z471) ((M1200.2 131 4 (Or.inl (by decide))).trans z472) ((M1200.2 131 11 (Or.inl (by decide))).trans z473) ((M1200.2 131 18 (Or.inl (by decide))).trans z474) (fun j hj => by by_cases e : 15 + 9 * v14.toInt.toNat + j = v1192.toNatClampNeg; (rw [e, M1200.1]; omega); (rw [M1200.2 134 _ (Or.inr e)]; exact x476 j (by have c : v1192.toNatClampNeg = v1192.toInt.toNat := rfl; omega))) (fun j hj => (M1200.2 134 j (Or.inr (by have c : v1192.toNatClampNeg = v1192.toInt.toNat := rfl; omega))).trans (x477 j hj)) (fun j => ((M1200.2 132 j (Or.inl (by decide))).trans ((kp478 j).trans rfl))) (fun j => ((M1200.2 331 j (Or.inl (by decide))).trans ((kp479 j).trans rfl))) (fun j => ((M1200.2 336 j (Or.inl (by decide))).trans ((kp480 j).trans rfl))) (fun j => ((M1200.2 337 j (Or.inl (by decide))).trans ((kp481 j).trans rfl))) ((M1200.2 131 3 (Or.inl (by decide))).trans ((kp482).trans rfl)) ((M1200.2 131 4 (Or.inl (by decide))).trans ((kp483).trans rfl)) ((M1200.2 131 5 (Or.inl (by decide))).trans ((kp484).trans rfl)) ((M1200.2 131 11 (Or.inl (by decide))).trans ((kp485).trans rfl)) ((M1200.2 131 12 (Or.inl (by decide))).trans ((kp486).trans rfl)) ((M1200.2 131 14 (Or.inl (by decide))).trans ((kp487).trans rfl)) ((M1200.2 131 20 (Or.inl (by decide))).trans ((kp488).trans rfl)) (lv_sub hl [1, 2, 0] rfl) (by omega)
        exact L475 _ t132 _ _ _ v138 X134 I135 F136 (R_of r140 rfl) ((M133.2 134 1 (Or.inr (ixne r131 rfl))).trans ((q99 134 1 (by decide)).trans ((q57 134 1 (by decide)).trans ((q27 134 1 (by decide)).trans (zc (n := 1) (by omega) z15))))) ((M133.2 131 4 (Or.inl (by decide))).trans z109) ((M133.2 131 11 (Or.inl (by decide))).trans z111) ((M133.2 131 18 (Or.inl (by decide))).trans z120) (fun j hj => by exfalso; omega) (fun j _ => rfl) (fun j => rfl) (fun j => rfl) (fun j => rfl) (fun j => rfl) rfl rfl rfl rfl rfl rfl rfl (lv_sub hl [2, 1, 0] rfl) (Nat.lt_succ_self _)
      ·
        have r1210 : R (0) (0) v97 := ⟨by omega, by omega⟩
        have p1211 := (QM_0 q106) (by omega)
        obtain ⟨q1212, e1213, h1214, h1215⟩ := p1211
        refine r_iconst S dX12_readMan_44 (by decide) (fun v1216 z1217 => ?_)
        have r1218 := R_eq z1217
        exact r_ret S hr hlk X95 ⟨q98, F107, (R_of r1218 rfl), (by rw [z109]; exact R_of q102 rfl), (by rw [z111]; exact R_of q103 rfl), (by have h1_0 := congrArg Int32.toInt z109; have h2_0 := congrArg Int32.toInt z2; omega), (by have h1_0 := congrArg Int32.toInt z109; have h2_0 := congrArg Int32.toInt z2; omega), (QM_l ((sMan_m (by omega) e86).trans (thn_l e1213)) (by omega) h1214 h1215)⟩ (nr_bool (R_of (lo := 0) (hi := 1) r1218 rfl)) dX12_readMan_45
  ·
    have r1219 : R (10) (10) v14 := ⟨by omega, by omega⟩
    refine r_aload_n S dX12_readMan_13 rfl (lv_at hl 1 rfl) ?_
    refine r_iconst S dX12_readMan_14 (by decide) (fun v1220 z1221 => ?_)
    have r1222 := R_eq z1221
    refine r_ki (q_V (As := [.int v1220]) (rest := []) (K := 38) (ci := 10) S X (c_X12_bad_q l G τ hI v1220 (R_of (lo := -2147483648) (hi := 2147483647) r1222 rfl)) ck12_183 (Nat.le_of_ble_eq_true rfl) rfl (fun _ => ⟨_, rfl⟩) ⟨_, _, rfl⟩ ⟨Nat.le_of_ble_eq_true rfl, Nat.le_of_ble_eq_true rfl⟩ rfl hl.1 rfl (Nat.le_of_ble_eq_true rfl) dX12_readMan_15 ⟨Nat.le_refl 0, Nat.le_refl 0⟩) X (fun v1226 t1225 H lc q1223 X1224 => ?_)
    unfold po_X12_bad_q at q1223
    obtain ⟨q1227, q1228, q1229, q1230⟩ := q1223
    have F1231 : Fr [(131, 15), (131, 16), (131, 4), (131, 11), (131, 12), (131, 13), (131, 14), (131, 18), (131, 21)] [134, 331, 336] τ t1225 := Fr_call Fr_rfl q1228 (by decide)
    exact r_ret S hr hlk X1224 ⟨q1227, F1231, (R_of q1229 rfl), (by rw [((q1228 131 4 (by decide)).trans z2)]; exact R_of r3 rfl), (by rw [((q1228 131 11 (by decide)).trans z5)]; exact R_of r6 rfl), (by have h1_0 := congrArg Int32.toInt ((q1228 131 4 (by decide)).trans z2); have h2_0 := congrArg Int32.toInt z2; omega), (by have h1_0 := congrArg Int32.toInt ((q1228 131 4 (by decide)).trans z2); have h2_0 := congrArg Int32.toInt z2; omega), (QM_b (sMan_b (by omega)) (by omega) (by rw [q1230.1]; omega) (by rw [q1230.2]; exact RM_at hR))⟩ (nr_bool (R_of (lo := 0) (hi := 1) q1229 rfl)) dX12_readMan_18
