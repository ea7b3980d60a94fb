def po_X6_firstMeasure (τ : Tau)     (r : Int32) (u : Tau) : Prop := u = τ ∧ R (0) (24) r
set_option maxHeartbeats 4000000 in
set_option maxRecDepth 100000 in
theorem c_X6_firstMeasure (l : Launch) (G : Gx) (τ : Tau) (hI : Inv τ) : Cw l G yX6_firstMeasure cX6_firstMeasure 1 (some (.object "OpinionFerry$Word")) 1 21 [.ref (G.2.2.2.1 16)] τ (po_X6_firstMeasure τ    ) := by
  unfold Cw
  refine C_of (own := RX6) (by decide) rfl (Nat.le_of_ble_eq_true rfl) ?_
  intro p e s m below meth c ls S hr hlk X hl
  have hl : lv_has ls 1 [(0, .ref (G.2.2.2.1 16))] := hl
  refine r_aload_n S dX6_firstMeasure_0 rfl (lv_at hl 0 rfl) ?_
  refine r_get (K := 16) (v := .ref (G.2.2.2.1 1)) S X (Nat.le_of_ble_eq_true rfl) rfl lk6_39_6 (fun _ => ⟨_, rfl, rfl⟩) dX6_firstMeasure_1 ?_
  refine r_wst (i := 20) S X (by decide) kw70 dX6_firstMeasure_4 ?_
  refine r_ki (q_V (As := [.ref (G.2.2.1 20)]) (rest := []) (K := 1) (ci := 7) S X (c_X7_is l G τ hI 20 (by decide)) ck6_60 (Nat.le_of_ble_eq_true rfl) rfl (fun _ => ⟨_, rfl⟩) ⟨_, _, rfl⟩ ⟨Nat.le_of_ble_eq_true rfl, Nat.le_of_ble_eq_true rfl⟩ rfl hl.1 rfl (Nat.le_of_ble_eq_true rfl) dX6_firstMeasure_7 ⟨Nat.le_refl 0, Nat.le_refl 0⟩) X (fun v4 t3 H lc q1 X2 => ?_)
  unfold po_X7_is at q1
  obtain ⟨q5, q6⟩ := q1
  rw [q5] at X2
  refine r_if_eq (tgt := 17) S dX6_firstMeasure_10 (by decide) (fun c7 => ?_) (fun c7 => ?_)
  ·
    have r8 : R (0) (0) v4 := ⟨by omega, by omega⟩
    refine r_aload_n S dX6_firstMeasure_17 rfl (lv_at hl 0 rfl) ?_
    refine r_get (K := 16) (v := .ref (G.2.2.2.1 1)) S X2 (Nat.le_of_ble_eq_true rfl) rfl lk6_39_6 (fun _ => ⟨_, rfl, rfl⟩) dX6_firstMeasure_18 ?_
    refine r_wst (i := 21) S X2 (by decide) kw71 dX6_firstMeasure_21 ?_
    refine r_ki (q_V (As := [.ref (G.2.2.1 21)]) (rest := []) (K := 1) (ci := 7) S X2 (c_X7_is l G τ hI 21 (by decide)) ck6_60 (Nat.le_of_ble_eq_true rfl) rfl (fun _ => ⟨_, rfl⟩) ⟨_, _, rfl⟩ ⟨Nat.le_of_ble_eq_true rfl, Nat.le_of_ble_eq_true rfl⟩ rfl hl.1 rfl (Nat.le_of_ble_eq_true rfl) dX6_firstMeasure_24 ⟨Nat.le_refl 0, Nat.le_refl 0⟩) X2 (fun v12 t11 H lc q9 X10 => ?_)
    unfold po_X7_is at q9
    obtain ⟨q13, q14⟩ := q9
    rw [q13] at X10
    refine r_if_eq (tgt := 34) S dX6_firstMeasure_27 (by decide) (fun c15 => ?_) (fun c15 => ?_)
    ·
      have r16 : R (0) (0) v12 := ⟨by omega, by omega⟩
      refine r_aload_n S dX6_firstMeasure_34 rfl (lv_at hl 0 rfl) ?_
      refine r_get (K := 16) (v := .ref (G.2.2.2.1 1)) S X10 (Nat.le_of_ble_eq_true rfl) rfl lk6_39_6 (fun _ => ⟨_, rfl, rfl⟩) dX6_firstMeasure_35 ?_
      refine r_wst (i := 22) S X10 (by decide) kw72 dX6_firstMeasure_38 ?_
      refine r_ki (q_V (As := [.ref (G.2.2.1 22)]) (rest := []) (K := 1) (ci := 7) S X10 (c_X7_is l G τ hI 22 (by decide)) ck6_60 (Nat.le_of_ble_eq_true rfl) rfl (fun _ => ⟨_, rfl⟩) ⟨_, _, rfl⟩ ⟨Nat.le_of_ble_eq_true rfl, Nat.le_of_ble_eq_true rfl⟩ rfl hl.1 rfl (Nat.le_of_ble_eq_true rfl) dX6_firstMeasure_41 ⟨Nat.le_refl 0, Nat.le_refl 0⟩) X10 (fun v20 t19 H lc q17 X18 => ?_)
      unfold po_X7_is at q17
      obtain ⟨q21, q22⟩ := q17
      rw [q21] at X18
      refine r_if_eq (tgt := 51) S dX6_firstMeasure_44 (by decide) (fun c23 => ?_) (fun c23 => ?_)
      ·
        have r24 : R (0) (0) v20 := ⟨by omega, by omega⟩
        refine r_aload_n S dX6_firstMeasure_51 rfl (lv_at hl 0 rfl) ?_
        refine r_get (K := 16) (v := .ref (G.2.2.2.1 1)) S X18 (Nat.le_of_ble_eq_true rfl) rfl lk6_39_6 (fun _ => ⟨_, rfl, rfl⟩) dX6_firstMeasure_52 ?_
        refine r_wst (i := 23) S X18 (by decide) kw73 dX6_firstMeasure_55 ?_
        refine r_ki (q_V (As := [.ref (G.2.2.1 23)]) (rest := []) (K := 1) (ci := 7) S X18 (c_X7_is l G τ hI 23 (by decide)) ck6_60 (Nat.le_of_ble_eq_true rfl) rfl (fun _ => ⟨_, rfl⟩) ⟨_, _, rfl⟩ ⟨Nat.le_of_ble_eq_true rfl, Nat.le_of_ble_eq_true rfl⟩ rfl hl.1 rfl (Nat.le_of_ble_eq_true rfl) dX6_firstMeasure_58 ⟨Nat.le_refl 0, Nat.le_refl 0⟩) X18 (fun v28 t27 H lc q25 X26 => ?_)
        unfold po_X7_is at q25
        obtain ⟨q29, q30⟩ := q25
        rw [q29] at X26
        refine r_if_eq (tgt := 70) S dX6_firstMeasure_61 (by decide) (fun c31 => ?_) (fun c31 => ?_)
        ·
          have r32 : R (0) (0) v28 := ⟨by omega, by omega⟩
          refine lv_null S.1.1 S.1.2.1 dX6_firstMeasure_70 ?_
          obtain ⟨y33, h34, r35⟩ := wx_0
          exact r_cretn (x := y33) S hr hlk X26 ⟨rfl, r35⟩ h34 dX6_firstMeasure_71
        ·
          have r36 : R (1) (1) v28 := ⟨by omega, by omega⟩
          refine r_wst (i := 23) S X26 (by decide) kw73 dX6_firstMeasure_64 ?_
          refine r_goto (tgt := 71) S dX6_firstMeasure_67 (by decide) ?_
          obtain ⟨y37, h38, r39⟩ := wx_c 23 (by decide)
          exact r_cretc (x := y37) S hr hlk X26 ⟨rfl, r39⟩ h38 dX6_firstMeasure_71
      ·
        have r40 : R (1) (1) v20 := ⟨by omega, by omega⟩
        refine r_wst (i := 22) S X18 (by decide) kw72 dX6_firstMeasure_47 ?_
        obtain ⟨y41, h42, r43⟩ := wx_c 22 (by decide)
        exact r_cretc (x := y41) S hr hlk X18 ⟨rfl, r43⟩ h42 dX6_firstMeasure_50
    ·
      have r44 : R (1) (1) v12 := ⟨by omega, by omega⟩
      refine r_wst (i := 21) S X10 (by decide) kw71 dX6_firstMeasure_30 ?_
      obtain ⟨y45, h46, r47⟩ := wx_c 21 (by decide)
      exact r_cretc (x := y45) S hr hlk X10 ⟨rfl, r47⟩ h46 dX6_firstMeasure_33
  ·
    have r48 : R (1) (1) v4 := ⟨by omega, by omega⟩
    refine r_wst (i := 20) S X2 (by decide) kw70 dX6_firstMeasure_13 ?_
    obtain ⟨y49, h50, r51⟩ := wx_c 20 (by decide)
    exact r_cretc (x := y49) S hr hlk X2 ⟨rfl, r51⟩ h50 dX6_firstMeasure_16
def po_X6_firstWord (τ : Tau)     (r : Int32) (u : Tau) : Prop := u = τ ∧ R (0) (24) r
set_option maxHeartbeats 4000000 in
set_option maxRecDepth 100000 in
theorem c_X6_firstWord (l : Launch) (G : Gx) (τ : Tau) (hI : Inv τ) : Cw l G yX6_firstWord cX6_firstWord 1 (some (.object "OpinionFerry$Word")) 2 41 [.ref (G.2.2.2.1 16)] τ (po_X6_firstWord τ    ) := by
  unfold Cw
  refine C_of (own := RX6) (by decide) rfl (Nat.le_of_ble_eq_true rfl) ?_
  intro p e s m below meth c ls S hr hlk X hl
  have hl : lv_has ls 1 [(0, .ref (G.2.2.2.1 16))] := hl
  refine r_aload_n S dX6_firstWord_0 rfl (lv_at hl 0 rfl) ?_
  refine r_get (K := 16) (v := .ref (G.2.2.2.1 1)) S X (Nat.le_of_ble_eq_true rfl) rfl lk6_39_6 (fun _ => ⟨_, rfl, rfl⟩) dX6_firstWord_1 ?_
  refine r_wst (i := 15) S X (by decide) kw74 dX6_firstWord_4 ?_
  refine r_ki (q_V (As := [.ref (G.2.2.1 15)]) (rest := []) (K := 1) (ci := 7) S X (c_X7_is l G τ hI 15 (by decide)) ck6_60 (Nat.le_of_ble_eq_true rfl) rfl (fun _ => ⟨_, rfl⟩) ⟨_, _, rfl⟩ ⟨Nat.le_of_ble_eq_true rfl, Nat.le_of_ble_eq_true rfl⟩ rfl hl.1 rfl (Nat.le_of_ble_eq_true rfl) dX6_firstWord_7 ⟨Nat.le_refl 0, Nat.le_refl 0⟩) X (fun v4 t3 H lc q1 X2 => ?_)
  unfold po_X7_is at q1
  obtain ⟨q5, q6⟩ := q1
  rw [q5] at X2
  refine r_if_eq (tgt := 17) S dX6_firstWord_10 (by decide) (fun c7 => ?_) (fun c7 => ?_)
  ·
    have r8 : R (0) (0) v4 := ⟨by omega, by omega⟩
    refine r_aload_n S dX6_firstWord_17 rfl (lv_at hl 0 rfl) ?_
    refine r_get (K := 16) (v := .ref (G.2.2.2.1 1)) S X2 (Nat.le_of_ble_eq_true rfl) rfl lk6_39_6 (fun _ => ⟨_, rfl, rfl⟩) dX6_firstWord_18 ?_
    refine r_wst (i := 16) S X2 (by decide) kw75 dX6_firstWord_21 ?_
    refine r_ki (q_V (As := [.ref (G.2.2.1 16)]) (rest := []) (K := 1) (ci := 7) S X2 (c_X7_is l G τ hI 16 (by decide)) ck6_60 (Nat.le_of_ble_eq_true rfl) rfl (fun _ => ⟨_, rfl⟩) ⟨_, _, rfl⟩ ⟨Nat.le_of_ble_eq_true rfl, Nat.le_of_ble_eq_true rfl⟩ rfl hl.1 rfl (Nat.le_of_ble_eq_true rfl) dX6_firstWord_24 ⟨Nat.le_refl 0, Nat.le_refl 0⟩) X2 (fun v12 t11 H lc q9 X10 => ?_)
    unfold po_X7_is at q9
    obtain ⟨q13, q14⟩ := q9
    rw [q13] at X10
    refine r_if_eq (tgt := 34) S dX6_firstWord_27 (by decide) (fun c15 => ?_) (fun c15 => ?_)
    ·
      have r16 : R (0) (0) v12 := ⟨by omega, by omega⟩
      refine r_aload_n S dX6_firstWord_34 rfl (lv_at hl 0 rfl) ?_
      refine r_get (K := 16) (v := .ref (G.2.2.2.1 1)) S X10 (Nat.le_of_ble_eq_true rfl) rfl lk6_39_6 (fun _ => ⟨_, rfl, rfl⟩) dX6_firstWord_35 ?_
      refine r_wst (i := 17) S X10 (by decide) kw76 dX6_firstWord_38 ?_
      refine r_ki (q_V (As := [.ref (G.2.2.1 17)]) (rest := []) (K := 1) (ci := 7) S X10 (c_X7_is l G τ hI 17 (by decide)) ck6_60 (Nat.le_of_ble_eq_true rfl) rfl (fun _ => ⟨_, rfl⟩) ⟨_, _, rfl⟩ ⟨Nat.le_of_ble_eq_true rfl, Nat.le_of_ble_eq_true rfl⟩ rfl hl.1 rfl (Nat.le_of_ble_eq_true rfl) dX6_firstWord_41 ⟨Nat.le_refl 0, Nat.le_refl 0⟩) X10 (fun v20 t19 H lc q17 X18 => ?_)
      unfold po_X7_is at q17
      obtain ⟨q21, q22⟩ := q17
      rw [q21] at X18
      refine r_if_eq (tgt := 51) S dX6_firstWord_44 (by decide) (fun c23 => ?_) (fun c23 => ?_)
      ·
        have r24 : R (0) (0) v20 := ⟨by omega, by omega⟩
        refine r_aload_n S dX6_firstWord_51 rfl (lv_at hl 0 rfl) ?_
        refine r_get (K := 16) (v := .ref (G.2.2.2.1 1)) S X18 (Nat.le_of_ble_eq_true rfl) rfl lk6_39_6 (fun _ => ⟨_, rfl, rfl⟩) dX6_firstWord_52 ?_
        refine r_wst (i := 18) S X18 (by decide) kw77 dX6_firstWord_55 ?_
        refine r_ki (q_V (As := [.ref (G.2.2.1 18)]) (rest := []) (K := 1) (ci := 7) S X18 (c_X7_is l G τ hI 18 (by decide)) ck6_60 (Nat.le_of_ble_eq_true rfl) rfl (fun _ => ⟨_, rfl⟩) ⟨_, _, rfl⟩ ⟨Nat.le_of_ble_eq_true rfl, Nat.le_of_ble_eq_true rfl⟩ rfl hl.1 rfl (Nat.le_of_ble_eq_true rfl) dX6_firstWord_58 ⟨Nat.le_refl 0, Nat.le_refl 0⟩) X18 (fun v28 t27 H lc q25 X26 => ?_)
        unfold po_X7_is at q25
        obtain ⟨q29, q30⟩ := q25
        rw [q29] at X26
        refine r_if_eq (tgt := 68) S dX6_firstWord_61 (by decide) (fun c31 => ?_) (fun c31 => ?_)
        ·
          have r32 : R (0) (0) v28 := ⟨by omega, by omega⟩
          refine r_aload_n S dX6_firstWord_68 rfl (lv_at hl 0 rfl) ?_
          refine r_get (K := 16) (v := .ref (G.2.2.2.1 1)) S X26 (Nat.le_of_ble_eq_true rfl) rfl lk6_39_6 (fun _ => ⟨_, rfl, rfl⟩) dX6_firstWord_69 ?_
          refine r_wst (i := 19) S X26 (by decide) kw78 dX6_firstWord_72 ?_
          refine r_ki (q_V (As := [.ref (G.2.2.1 19)]) (rest := []) (K := 1) (ci := 7) S X26 (c_X7_is l G τ hI 19 (by decide)) ck6_60 (Nat.le_of_ble_eq_true rfl) rfl (fun _ => ⟨_, rfl⟩) ⟨_, _, rfl⟩ ⟨Nat.le_of_ble_eq_true rfl, Nat.le_of_ble_eq_true rfl⟩ rfl hl.1 rfl (Nat.le_of_ble_eq_true rfl) dX6_firstWord_75 ⟨Nat.le_refl 0, Nat.le_refl 0⟩) X26 (fun v36 t35 H lc q33 X34 => ?_)
          unfold po_X7_is at q33
          obtain ⟨q37, q38⟩ := q33
          rw [q37] at X34
          refine r_if_eq (tgt := 85) S dX6_firstWord_78 (by decide) (fun c39 => ?_) (fun c39 => ?_)
          ·
            have r40 : R (0) (0) v36 := ⟨by omega, by omega⟩
            refine r_aload_n S dX6_firstWord_85 rfl (lv_at hl 0 rfl) ?_
            refine r_get (K := 16) (v := .ref (G.2.2.2.1 1)) S X34 (Nat.le_of_ble_eq_true rfl) rfl lk6_39_6 (fun _ => ⟨_, rfl, rfl⟩) dX6_firstWord_86 ?_
            refine r_wst (i := 4) S X34 (by decide) kw79 dX6_firstWord_89 ?_
            refine r_ki (q_V (As := [.ref (G.2.2.1 4)]) (rest := []) (K := 1) (ci := 7) S X34 (c_X7_is l G τ hI 4 (by decide)) ck6_60 (Nat.le_of_ble_eq_true rfl) rfl (fun _ => ⟨_, rfl⟩) ⟨_, _, rfl⟩ ⟨Nat.le_of_ble_eq_true rfl, Nat.le_of_ble_eq_true rfl⟩ rfl hl.1 rfl (Nat.le_of_ble_eq_true rfl) dX6_firstWord_92 ⟨Nat.le_refl 0, Nat.le_refl 0⟩) X34 (fun v44 t43 H lc q41 X42 => ?_)
            unfold po_X7_is at q41
            obtain ⟨q45, q46⟩ := q41
            rw [q45] at X42
            refine r_if_eq (tgt := 102) S dX6_firstWord_95 (by decide) (fun c47 => ?_) (fun c47 => ?_)
            ·
              have r48 : R (0) (0) v44 := ⟨by omega, by omega⟩
              refine r_aload_n S dX6_firstWord_102 rfl (lv_at hl 0 rfl) ?_
              refine r_get (K := 16) (v := .ref (G.2.2.2.1 1)) S X42 (Nat.le_of_ble_eq_true rfl) rfl lk6_39_6 (fun _ => ⟨_, rfl, rfl⟩) dX6_firstWord_103 ?_
              refine r_wst (i := 5) S X42 (by decide) kw80 dX6_firstWord_106 ?_
              refine r_ki (q_V (As := [.ref (G.2.2.1 5)]) (rest := []) (K := 1) (ci := 7) S X42 (c_X7_is l G τ hI 5 (by decide)) ck6_60 (Nat.le_of_ble_eq_true rfl) rfl (fun _ => ⟨_, rfl⟩) ⟨_, _, rfl⟩ ⟨Nat.le_of_ble_eq_true rfl, Nat.le_of_ble_eq_true rfl⟩ rfl hl.1 rfl (Nat.le_of_ble_eq_true rfl) dX6_firstWord_109 ⟨Nat.le_refl 0, Nat.le_refl 0⟩) X42 (fun v52 t51 H lc q49 X50 => ?_)
              unfold po_X7_is at q49
              obtain ⟨q53, q54⟩ := q49
              rw [q53] at X50
              refine r_if_eq (tgt := 121) S dX6_firstWord_112 (by decide) (fun c55 => ?_) (fun c55 => ?_)
              ·
                have r56 : R (0) (0) v52 := ⟨by omega, by omega⟩
                refine r_aload_n S dX6_firstWord_121 rfl (lv_at hl 0 rfl) ?_
                refine r_kw2 (q_V (As := []) (rest := []) (K := 16) (ci := 6) S X50 (c_X6_firstMeasure l G τ hI ) ck6_112 (Nat.le_of_ble_eq_true rfl) rfl (fun _ => ⟨_, rfl⟩) ⟨_, _, rfl⟩ ⟨Nat.le_of_ble_eq_true rfl, Nat.le_of_ble_eq_true rfl⟩ rfl hl.1 rfl (Nat.le_of_ble_eq_true rfl) dX6_firstWord_122 ⟨Nat.le_refl 0, Nat.le_refl 0⟩) X50 (fun _ _ h => h.2) (fun y60 t59 H lc q57 X58 h61 => ?_) (fun y60 t59 H lc w62 q57 X58 h_w62 e63 => ?_)
                ·
                  unfold po_X6_firstMeasure at q57
                  obtain ⟨q64, q65⟩ := q57
                  rw [q64] at X58
                  have r66 : R 0 24 y60 := ⟨by omega, by omega⟩
                  exact r_cretn (x := y60) S hr hlk X58 ⟨rfl, r66⟩ h61 dX6_firstWord_125
                ·
                  unfold po_X6_firstMeasure at q57
                  obtain ⟨q67, q68⟩ := q57
                  rw [q67] at X58
                  have r69 : R 0 24 y60 := ⟨by omega, by omega⟩
                  exact r_cretc (x := y60) S hr hlk X58 ⟨rfl, r69⟩ e63 dX6_firstWord_125
              ·
                have r70 : R (1) (1) v52 := ⟨by omega, by omega⟩
                refine r_wst (i := 5) S X50 (by decide) kw80 dX6_firstWord_115 ?_
                refine r_goto (tgt := 125) S dX6_firstWord_118 (by decide) ?_
                obtain ⟨y71, h72, r73⟩ := wx_c 5 (by decide)
                exact r_cretc (x := y71) S hr hlk X50 ⟨rfl, r73⟩ h72 dX6_firstWord_125
            ·
              have r74 : R (1) (1) v44 := ⟨by omega, by omega⟩
              refine r_wst (i := 4) S X42 (by decide) kw79 dX6_firstWord_98 ?_
              obtain ⟨y75, h76, r77⟩ := wx_c 4 (by decide)
              exact r_cretc (x := y75) S hr hlk X42 ⟨rfl, r77⟩ h76 dX6_firstWord_101
          ·
            have r78 : R (1) (1) v36 := ⟨by omega, by omega⟩
            refine r_wst (i := 19) S X34 (by decide) kw78 dX6_firstWord_81 ?_
            obtain ⟨y79, h80, r81⟩ := wx_c 19 (by decide)
            exact r_cretc (x := y79) S hr hlk X34 ⟨rfl, r81⟩ h80 dX6_firstWord_84
        ·
          have r82 : R (1) (1) v28 := ⟨by omega, by omega⟩
          refine r_wst (i := 18) S X26 (by decide) kw77 dX6_firstWord_64 ?_
          obtain ⟨y83, h84, r85⟩ := wx_c 18 (by decide)
          exact r_cretc (x := y83) S hr hlk X26 ⟨rfl, r85⟩ h84 dX6_firstWord_67
      ·
        have r86 : R (1) (1) v20 := ⟨by omega, by omega⟩
        refine r_wst (i := 17) S X18 (by decide) kw76 dX6_firstWord_47 ?_
        obtain ⟨y87, h88, r89⟩ := wx_c 17 (by decide)
        exact r_cretc (x := y87) S hr hlk X18 ⟨rfl, r89⟩ h88 dX6_firstWord_50
    ·
      have r90 : R (1) (1) v12 := ⟨by omega, by omega⟩
      refine r_wst (i := 16) S X10 (by decide) kw75 dX6_firstWord_30 ?_
      obtain ⟨y91, h92, r93⟩ := wx_c 16 (by decide)
      exact r_cretc (x := y91) S hr hlk X10 ⟨rfl, r93⟩ h92 dX6_firstWord_33
  ·
    have r94 : R (1) (1) v4 := ⟨by omega, by omega⟩
    refine r_wst (i := 15) S X2 (by decide) kw74 dX6_firstWord_13 ?_
    obtain ⟨y95, h96, r97⟩ := wx_c 15 (by decide)
    exact r_cretc (x := y95) S hr hlk X2 ⟨rfl, r97⟩ h96 dX6_firstWord_16
def po_X6_readPlainOne (τ : Tau)     (r : Int32) (u : Tau) : Prop := Inv u ∧ Fr [(16, 1), (16, 2), (17, 4), (1, 3), (1, 4), (1, 5), (1, 7), (1, 8)] [18, 19, 20, 201] τ u ∧ YT u ∧ R (0) (1) r
set_option maxHeartbeats 4000000 in
set_option maxRecDepth 100000 in
theorem c_X6_readPlainOne (l : Launch) (G : Gx) (τ : Tau) (hI : Inv τ) (a0 : Nat) (h_a0 : a0 < 24) (hf_0 : R (1) (1) (τ 16 5)) (hYT : YT τ) : Ci l G yX6_readPlainOne cX6_readPlainOne 4 (some .boolean) 2 46 [.ref (G.2.2.2.1 16), .ref (G.2.2.1 a0)] τ (po_X6_readPlainOne τ    ) := by
  unfold Ci
  refine C_of (own := RX6) (by decide) rfl (Nat.le_of_ble_eq_true rfl) ?_
  intro p e s m below meth c ls S hr hlk X hl
  have hl : lv_has ls 4 [(0, .ref (G.2.2.2.1 16)), (1, .ref (G.2.2.1 a0))] := hl
  obtain ⟨v1, z2⟩ : ∃ x, τ 16 5 = x := ⟨_, rfl⟩
  rw [z2] at hf_0
  refine r_iconst S dX6_readPlainOne_0 (by decide) (fun v3 z4 => ?_)
  have r5 := R_eq z4
  refine r_istore_n (lv' := [(2, .int v3), (0, .ref (G.2.2.2.1 16)), (1, .ref (G.2.2.1 a0))]) S dX6_readPlainOne_1 rfl hl (by decide) rfl (fun ls hl => ?_)
  refine r_aload_n S dX6_readPlainOne_2 rfl (lv_at hl 1 rfl) ?_
  refine r_iconst S dX6_readPlainOne_3 (by decide) (fun v6 z7 => ?_)
  have r8 := R_eq z7
  refine r_put (K := 16) (ty := .int) S X (Nat.le_of_ble_eq_true rfl) rfl lk6_127_6 (fun _ => ⟨_, rfl, Nat.le_of_ble_eq_true rfl, rfl⟩) (fun _ _ _ h => by cases h; exact ⟨rfl, rfl⟩) rfl rfl dX6_readPlainOne_4 (fun t9 H lc M10 X11 => ?_)
  have I12 := Inv_mu hI M10 (R_any v6)
  have F13 : Fr [(16, 1), (16, 2), (17, 4), (1, 3), (1, 4), (1, 5), (1, 7), (1, 8)] [18, 19, 20, 201] τ t9 := Fr_mu Fr_rfl M10 (by decide)
  refine r_aload_n S dX6_readPlainOne_7 rfl (lv_at hl 2 rfl) ?_
  refine r_wst (i := 19) S X11 (by decide) kw78 dX6_readPlainOne_8 ?_
  refine r_cacmp_eq (tgt := 28) S h_a0 (by decide) dX6_readPlainOne_11 (by decide) (fun c14 => ?_) (fun c14 => ?_)
  ·
    refine r_aload_n S dX6_readPlainOne_28 rfl (lv_at hl 2 rfl) ?_
    refine r_wst (i := 19) S X11 (by decide) kw78 dX6_readPlainOne_29 ?_
    refine r_cacmp_ne (tgt := 46) S h_a0 (by decide) dX6_readPlainOne_32 (by decide) (fun c15 => ?_) (fun c15 => ?_)
    ·
      refine r_aload_n S dX6_readPlainOne_46 rfl (lv_at hl 1 rfl) ?_
      refine r_aload_n S dX6_readPlainOne_47 rfl (lv_at hl 1 rfl) ?_
      refine r_getP S X11 lk6_20_6 ((M10.2 16 5 (Or.inr (by decide))).trans z2) (by omega) dX6_readPlainOne_48 ?_
      refine r_ki (q_U (As := [.ref (G.2.2.2.1 23)]) (rest := []) (K := 16) (ci := 6) S X11 (c_X8_seeAsk_16 l G t9 I12 ) ck6_134_6 (Nat.le_of_ble_eq_true rfl) rfl (fun _ => ⟨_, rfl⟩) ⟨_, _, rfl⟩ ⟨Nat.le_of_ble_eq_true rfl, Nat.le_of_ble_eq_true rfl⟩ rfl hl.1 rfl (Nat.le_of_ble_eq_true rfl) dX6_readPlainOne_51 ⟨Nat.le_refl 0, Nat.le_refl 0⟩) X11 (fun v19 t18 H lc q16 X17 => ?_)
      unfold po_X8_seeAsk_16 at q16
      obtain ⟨q20, q21, q22, q23⟩ := q16
      have F24 : Fr [(16, 1), (16, 2), (17, 4), (1, 3), (1, 4), (1, 5), (1, 7), (1, 8)] [18, 19, 20, 201] τ t18 := Fr_call F13 q21 (by decide)
      refine r_istore_n (lv' := [(3, .int v19), (2, .int v3), (0, .ref (G.2.2.2.1 16)), (1, .ref (G.2.2.1 a0))]) S dX6_readPlainOne_54 rfl hl (by decide) rfl (fun ls hl => ?_)
      refine r_iload_n S dX6_readPlainOne_55 rfl (lv_at hl 0 rfl) ?_
      refine r_if_ne (tgt := 61) S dX6_readPlainOne_56 (by decide) (fun c25 => ?_) (fun c25 => ?_)
      ·
        have r26 : R (1) (1) v19 := ⟨by omega, by omega⟩
        have p27 := q23 (by omega)
        obtain ⟨v28, z29⟩ : ∃ x, t18 16 2 = x := ⟨_, rfl⟩
        rw [z29] at p27
        refine r_aload_n S dX6_readPlainOne_61 rfl (lv_at hl 2 rfl) ?_
        refine r_get (K := 16) (v := .ref (G.2.2.2.1 1)) S X17 (Nat.le_of_ble_eq_true rfl) rfl lk6_39_6 (fun _ => ⟨_, rfl, rfl⟩) dX6_readPlainOne_62 ?_
        refine r_kv (q_V (As := []) (rest := []) (K := 1) (ci := 7) S X17 (c_X7_step l G t18 q20 ) ck6_64 (Nat.le_of_ble_eq_true rfl) rfl (fun _ => ⟨_, rfl⟩) ⟨_, _, rfl⟩ ⟨Nat.le_of_ble_eq_true rfl, Nat.le_of_ble_eq_true rfl⟩ rfl hl.1 rfl (Nat.le_of_ble_eq_true rfl) dX6_readPlainOne_65 ⟨Nat.le_refl 0, Nat.le_refl 0⟩) X17 (fun t32 H lc q30 X31 => ?_)
        unfold po_X7_step at q30
        obtain ⟨q33, q34⟩ := q30
        have F35 : Fr [(16, 1), (16, 2), (17, 4), (1, 3), (1, 4), (1, 5), (1, 7), (1, 8)] [18, 19, 20, 201] τ t32 := Fr_call F24 q34 (by decide)
        refine r_goto (tgt := 161) S dX6_readPlainOne_68 (by decide) ?_
        refine r_aload_n S dX6_readPlainOne_161 rfl (lv_at hl 2 rfl) ?_
        refine r_get (K := 16) (v := .ref (G.2.2.2.1 17)) S X31 (Nat.le_of_ble_eq_true rfl) rfl lk6_14_6 (fun _ => ⟨_, rfl, rfl⟩) dX6_readPlainOne_162 ?_
        refine r_aload_n S dX6_readPlainOne_165 rfl (lv_at hl 3 rfl) ?_
        refine r_iload_n S dX6_readPlainOne_166 rfl (lv_at hl 1 rfl) ?_
        refine r_aload_n S dX6_readPlainOne_167 rfl (lv_at hl 2 rfl) ?_
        refine r_geti (K := 16) S X31 (Nat.le_of_ble_eq_true rfl) rfl lk6_127_6 (fun _ => ⟨_, rfl, rfl⟩) ((q34 16 2 (by decide)).trans z29) dX6_readPlainOne_168 ?_
        refine r_kv (q_V (As := [.ref (G.2.2.1 a0), .int v3, .int v28]) (rest := []) (K := 17) (ci := 5) S X31 (c_X5_add l G t32 q33 a0 h_a0 v3 v28 (R_of (lo := -2147483648) (hi := 2147483647) r5 rfl) (R_of (lo := 0) (hi := 99) p27 rfl) (YT_eq hYT (fun j => ((q34 18 j (by simp [fz])).trans ((q21 18 j (by simp [fz])).trans ((M10.2 18 j (Or.inl (by decide))).trans rfl)))) (fun j => ((q34 19 j (by simp [fz])).trans ((q21 19 j (by simp [fz])).trans ((M10.2 19 j (Or.inl (by decide))).trans rfl))))) (by omega)) ck6_67 (Nat.le_of_ble_eq_true rfl) rfl (fun _ => ⟨_, rfl⟩) ⟨_, _, rfl⟩ ⟨Nat.le_of_ble_eq_true rfl, Nat.le_of_ble_eq_true rfl⟩ rfl hl.1 rfl (Nat.le_of_ble_eq_true rfl) dX6_readPlainOne_171 ⟨Nat.le_refl 0, Nat.le_refl 0⟩) X31 (fun t38 H lc q36 X37 => ?_)
        unfold po_X5_add at q36
        obtain ⟨q39, q40, q41⟩ := q36
        have F42 : Fr [(16, 1), (16, 2), (17, 4), (1, 3), (1, 4), (1, 5), (1, 7), (1, 8)] [18, 19, 20, 201] τ t38 := Fr_call F35 q40 (by decide)
        refine r_iconst S dX6_readPlainOne_174 (by decide) (fun v43 z44 => ?_)
        have r45 := R_eq z44
        exact r_ret S hr hlk X37 ⟨q39, F42, q41, (R_of r45 rfl)⟩ (nr_bool (R_of (lo := 0) (hi := 1) r45 rfl)) dX6_readPlainOne_175
      ·
        have r46 : R (0) (0) v19 := ⟨by omega, by omega⟩
        refine r_iconst S dX6_readPlainOne_59 (by decide) (fun v47 z48 => ?_)
        have r49 := R_eq z48
        exact r_ret S hr hlk X17 ⟨q20, F24, (YT_eq hYT (fun j => ((q21 18 j (by simp [fz])).trans ((M10.2 18 j (Or.inl (by decide))).trans rfl))) (fun j => ((q21 19 j (by simp [fz])).trans ((M10.2 19 j (Or.inl (by decide))).trans rfl)))), (R_of r49 rfl)⟩ (nr_bool (R_of (lo := 0) (hi := 1) r49 rfl)) dX6_readPlainOne_60
    ·
      refine r_aload_n S dX6_readPlainOne_35 rfl (lv_at hl 1 rfl) ?_
      refine r_aload_n S dX6_readPlainOne_36 rfl (lv_at hl 1 rfl) ?_
      refine r_getP S X11 lk6_20_6 ((M10.2 16 5 (Or.inr (by decide))).trans z2) (by omega) dX6_readPlainOne_37 ?_
      refine r_ki (q_U (As := [.ref (G.2.2.2.1 23)]) (rest := []) (K := 16) (ci := 6) S X11 (c_X8_seeMan_16 l G t9 I12 ) ck6_130_6 (Nat.le_of_ble_eq_true rfl) rfl (fun _ => ⟨_, rfl⟩) ⟨_, _, rfl⟩ ⟨Nat.le_of_ble_eq_true rfl, Nat.le_of_ble_eq_true rfl⟩ rfl hl.1 rfl (Nat.le_of_ble_eq_true rfl) dX6_readPlainOne_40 ⟨Nat.le_refl 0, Nat.le_refl 0⟩) X11 (fun v53 t52 H lc q50 X51 => ?_)
      unfold po_X8_seeMan_16 at q50
      obtain ⟨q54, q55, q56, q57⟩ := q50
      have F58 : Fr [(16, 1), (16, 2), (17, 4), (1, 3), (1, 4), (1, 5), (1, 7), (1, 8)] [18, 19, 20, 201] τ t52 := Fr_call F13 q55 (by decide)
      refine r_goto (tgt := 54) S dX6_readPlainOne_43 (by decide) ?_
      refine r_istore_n (lv' := [(3, .int v53), (2, .int v3), (0, .ref (G.2.2.2.1 16)), (1, .ref (G.2.2.1 a0))]) S dX6_readPlainOne_54 rfl hl (by decide) rfl (fun ls hl => ?_)
      refine r_iload_n S dX6_readPlainOne_55 rfl (lv_at hl 0 rfl) ?_
      refine r_if_ne (tgt := 61) S dX6_readPlainOne_56 (by decide) (fun c59 => ?_) (fun c59 => ?_)
      ·
        have r60 : R (1) (1) v53 := ⟨by omega, by omega⟩
        have p61 := q57 (by omega)
        obtain ⟨v62, z63⟩ : ∃ x, t52 16 2 = x := ⟨_, rfl⟩
        rw [z63] at p61
        refine r_aload_n S dX6_readPlainOne_61 rfl (lv_at hl 2 rfl) ?_
        refine r_get (K := 16) (v := .ref (G.2.2.2.1 1)) S X51 (Nat.le_of_ble_eq_true rfl) rfl lk6_39_6 (fun _ => ⟨_, rfl, rfl⟩) dX6_readPlainOne_62 ?_
        refine r_kv (q_V (As := []) (rest := []) (K := 1) (ci := 7) S X51 (c_X7_step l G t52 q54 ) ck6_64 (Nat.le_of_ble_eq_true rfl) rfl (fun _ => ⟨_, rfl⟩) ⟨_, _, rfl⟩ ⟨Nat.le_of_ble_eq_true rfl, Nat.le_of_ble_eq_true rfl⟩ rfl hl.1 rfl (Nat.le_of_ble_eq_true rfl) dX6_readPlainOne_65 ⟨Nat.le_refl 0, Nat.le_refl 0⟩) X51 (fun t66 H lc q64 X65 => ?_)
        unfold po_X7_step at q64
        obtain ⟨q67, q68⟩ := q64
        have F69 : Fr [(16, 1), (16, 2), (17, 4), (1, 3), (1, 4), (1, 5), (1, 7), (1, 8)] [18, 19, 20, 201] τ t66 := Fr_call F58 q68 (by decide)
        refine r_goto (tgt := 161) S dX6_readPlainOne_68 (by decide) ?_
        refine r_aload_n S dX6_readPlainOne_161 rfl (lv_at hl 2 rfl) ?_
        refine r_get (K := 16) (v := .ref (G.2.2.2.1 17)) S X65 (Nat.le_of_ble_eq_true rfl) rfl lk6_14_6 (fun _ => ⟨_, rfl, rfl⟩) dX6_readPlainOne_162 ?_
        refine r_aload_n S dX6_readPlainOne_165 rfl (lv_at hl 3 rfl) ?_
        refine r_iload_n S dX6_readPlainOne_166 rfl (lv_at hl 1 rfl) ?_
        refine r_aload_n S dX6_readPlainOne_167 rfl (lv_at hl 2 rfl) ?_
        refine r_geti (K := 16) S X65 (Nat.le_of_ble_eq_true rfl) rfl lk6_127_6 (fun _ => ⟨_, rfl, rfl⟩) ((q68 16 2 (by decide)).trans z63) dX6_readPlainOne_168 ?_
        refine r_kv (q_V (As := [.ref (G.2.2.1 a0), .int v3, .int v62]) (rest := []) (K := 17) (ci := 5) S X65 (c_X5_add l G t66 q67 a0 h_a0 v3 v62 (R_of (lo := -2147483648) (hi := 2147483647) r5 rfl) (R_of (lo := 0) (hi := 99) p61 rfl) (YT_eq hYT (fun j => ((q68 18 j (by simp [fz])).trans ((q55 18 j (by simp [fz])).trans ((M10.2 18 j (Or.inl (by decide))).trans rfl)))) (fun j => ((q68 19 j (by simp [fz])).trans ((q55 19 j (by simp [fz])).trans ((M10.2 19 j (Or.inl (by decide))).trans rfl))))) (by omega)) ck6_67 (Nat.le_of_ble_eq_true rfl) rfl (fun _ => ⟨_, rfl⟩) ⟨_, _, rfl⟩ ⟨Nat.le_of_ble_eq_true rfl, Nat.le_of_ble_eq_true rfl⟩ rfl hl.1 rfl (Nat.le_of_ble_eq_true rfl) dX6_readPlainOne_171 ⟨Nat.le_refl 0, Nat.le_refl 0⟩) X65 (fun t72 H lc q70 X71 => ?_)
        unfold po_X5_add at q70
        obtain ⟨q73, q74, q75⟩ := q70
        have F76 : Fr [(16, 1), (16, 2), (17, 4), (1, 3), (1, 4), (1, 5), (1, 7), (1, 8)] [18, 19, 20, 201] τ t72 := Fr_call F69 q74 (by decide)
        refine r_iconst S dX6_readPlainOne_174 (by decide) (fun v77 z78 => ?_)
        have r79 := R_eq z78
        exact r_ret S hr hlk X71 ⟨q73, F76, q75, (R_of r79 rfl)⟩ (nr_bool (R_of (lo := 0) (hi := 1) r79 rfl)) dX6_readPlainOne_175
      ·
        have r80 : R (0) (0) v53 := ⟨by omega, by omega⟩
        refine r_iconst S dX6_readPlainOne_59 (by decide) (fun v81 z82 => ?_)
        have r83 := R_eq z82
        exact r_ret S hr hlk X51 ⟨q54, F58, (YT_eq hYT (fun j => ((q55 18 j (by simp [fz])).trans ((M10.2 18 j (Or.inl (by decide))).trans rfl))) (fun j => ((q55 19 j (by simp [fz])).trans ((M10.2 19 j (Or.inl (by decide))).trans rfl)))), (R_of r83 rfl)⟩ (nr_bool (R_of (lo := 0) (hi := 1) r83 rfl)) dX6_readPlainOne_60
  ·
    refine r_aload_n S dX6_readPlainOne_14 rfl (lv_at hl 2 rfl) ?_
    refine r_wst (i := 4) S X11 (by decide) kw79 dX6_readPlainOne_15 ?_
    refine r_cacmp_eq (tgt := 28) S h_a0 (by decide) dX6_readPlainOne_18 (by decide) (fun c84 => ?_) (fun c84 => ?_)
    ·
      refine r_aload_n S dX6_readPlainOne_28 rfl (lv_at hl 2 rfl) ?_
      refine r_wst (i := 19) S X11 (by decide) kw78 dX6_readPlainOne_29 ?_
      refine r_cacmp_ne (tgt := 46) S h_a0 (by decide) dX6_readPlainOne_32 (by decide) (fun c85 => ?_) (fun c85 => ?_)
      ·
        refine r_aload_n S dX6_readPlainOne_46 rfl (lv_at hl 1 rfl) ?_
        refine r_aload_n S dX6_readPlainOne_47 rfl (lv_at hl 1 rfl) ?_
        refine r_getP S X11 lk6_20_6 ((M10.2 16 5 (Or.inr (by decide))).trans z2) (by omega) dX6_readPlainOne_48 ?_
        refine r_ki (q_U (As := [.ref (G.2.2.2.1 23)]) (rest := []) (K := 16) (ci := 6) S X11 (c_X8_seeAsk_16 l G t9 I12 ) ck6_134_6 (Nat.le_of_ble_eq_true rfl) rfl (fun _ => ⟨_, rfl⟩) ⟨_, _, rfl⟩ ⟨Nat.le_of_ble_eq_true rfl, Nat.le_of_ble_eq_true rfl⟩ rfl hl.1 rfl (Nat.le_of_ble_eq_true rfl) dX6_readPlainOne_51 ⟨Nat.le_refl 0, Nat.le_refl 0⟩) X11 (fun v89 t88 H lc q86 X87 => ?_)
        unfold po_X8_seeAsk_16 at q86
        obtain ⟨q90, q91, q92, q93⟩ := q86
        have F94 : Fr [(16, 1), (16, 2), (17, 4), (1, 3), (1, 4), (1, 5), (1, 7), (1, 8)] [18, 19, 20, 201] τ t88 := Fr_call F13 q91 (by decide)
        refine r_istore_n (lv' := [(3, .int v89), (2, .int v3), (0, .ref (G.2.2.2.1 16)), (1, .ref (G.2.2.1 a0))]) S dX6_readPlainOne_54 rfl hl (by decide) rfl (fun ls hl => ?_)
        refine r_iload_n S dX6_readPlainOne_55 rfl (lv_at hl 0 rfl) ?_
        refine r_if_ne (tgt := 61) S dX6_readPlainOne_56 (by decide) (fun c95 => ?_) (fun c95 => ?_)
        ·
          have r96 : R (1) (1) v89 := ⟨by omega, by omega⟩
          have p97 := q93 (by omega)
          obtain ⟨v98, z99⟩ : ∃ x, t88 16 2 = x := ⟨_, rfl⟩
          rw [z99] at p97
          refine r_aload_n S dX6_readPlainOne_61 rfl (lv_at hl 2 rfl) ?_
          refine r_get (K := 16) (v := .ref (G.2.2.2.1 1)) S X87 (Nat.le_of_ble_eq_true rfl) rfl lk6_39_6 (fun _ => ⟨_, rfl, rfl⟩) dX6_readPlainOne_62 ?_
          refine r_kv (q_V (As := []) (rest := []) (K := 1) (ci := 7) S X87 (c_X7_step l G t88 q90 ) ck6_64 (Nat.le_of_ble_eq_true rfl) rfl (fun _ => ⟨_, rfl⟩) ⟨_, _, rfl⟩ ⟨Nat.le_of_ble_eq_true rfl, Nat.le_of_ble_eq_true rfl⟩ rfl hl.1 rfl (Nat.le_of_ble_eq_true rfl) dX6_readPlainOne_65 ⟨Nat.le_refl 0, Nat.le_refl 0⟩) X87 (fun t102 H lc q100 X101 => ?_)
          unfold po_X7_step at q100
          obtain ⟨q103, q104⟩ := q100
          have F105 : Fr [(16, 1), (16, 2), (17, 4), (1, 3), (1, 4), (1, 5), (1, 7), (1, 8)] [18, 19, 20, 201] τ t102 := Fr_call F94 q104 (by decide)
          refine r_goto (tgt := 161) S dX6_readPlainOne_68 (by decide) ?_
          refine r_aload_n S dX6_readPlainOne_161 rfl (lv_at hl 2 rfl) ?_
          refine r_get (K := 16) (v := .ref (G.2.2.2.1 17)) S X101 (Nat.le_of_ble_eq_true rfl) rfl lk6_14_6 (fun _ => ⟨_, rfl, rfl⟩) dX6_readPlainOne_162 ?_
          refine r_aload_n S dX6_readPlainOne_165 rfl (lv_at hl 3 rfl) ?_
          refine r_iload_n S dX6_readPlainOne_166 rfl (lv_at hl 1 rfl) ?_
          refine r_aload_n S dX6_readPlainOne_167 rfl (lv_at hl 2 rfl) ?_
          refine r_geti (K := 16) S X101 (Nat.le_of_ble_eq_true rfl) rfl lk6_127_6 (fun _ => ⟨_, rfl, rfl⟩) ((q104 16 2 (by decide)).trans z99) dX6_readPlainOne_168 ?_
          refine r_kv (q_V (As := [.ref (G.2.2.1 a0), .int v3, .int v98]) (rest := []) (K := 17) (ci := 5) S X101 (c_X5_add l G t102 q103 a0 h_a0 v3 v98 (R_of (lo := -2147483648) (hi := 2147483647) r5 rfl) (R_of (lo := 0) (hi := 99) p97 rfl) (YT_eq hYT (fun j => ((q104 18 j (by simp [fz])).trans ((q91 18 j (by simp [fz])).trans ((M10.2 18 j (Or.inl (by decide))).trans rfl)))) (fun j => ((q104 19 j (by simp [fz])).trans ((q91 19 j (by simp [fz])).trans ((M10.2 19 j (Or.inl (by decide))).trans rfl))))) (by omega)) ck6_67 (Nat.le_of_ble_eq_true rfl) rfl (fun _ => ⟨_, rfl⟩) ⟨_, _, rfl⟩ ⟨Nat.le_of_ble_eq_true rfl, Nat.le_of_ble_eq_true rfl⟩ rfl hl.1 rfl (Nat.le_of_ble_eq_true rfl) dX6_readPlainOne_171 ⟨Nat.le_refl 0, Nat.le_refl 0⟩) X101 (fun t108 H lc q106 X107 => ?_)
          unfold po_X5_add at q106
          obtain ⟨q109, q110, q111⟩ := q106
          have F112 : Fr [(16, 1), (16, 2), (17, 4), (1, 3), (1, 4), (1, 5), (1, 7), (1, 8)] [18, 19, 20, 201] τ t108 := Fr_call F105 q110 (by decide)
          refine r_iconst S dX6_readPlainOne_174 (by decide) (fun v113 z114 => ?_)
          have r115 := R_eq z114
          exact r_ret S hr hlk X107 ⟨q109, F112, q111, (R_of r115 rfl)⟩ (nr_bool (R_of (lo := 0) (hi := 1) r115 rfl)) dX6_readPlainOne_175
        ·
          have r116 : R (0) (0) v89 := ⟨by omega, by omega⟩
          refine r_iconst S dX6_readPlainOne_59 (by decide) (fun v117 z118 => ?_)
          have r119 := R_eq z118
          exact r_ret S hr hlk X87 ⟨q90, F94, (YT_eq hYT (fun j => ((q91 18 j (by simp [fz])).trans ((M10.2 18 j (Or.inl (by decide))).trans rfl))) (fun j => ((q91 19 j (by simp [fz])).trans ((M10.2 19 j (Or.inl (by decide))).trans rfl)))), (R_of r119 rfl)⟩ (nr_bool (R_of (lo := 0) (hi := 1) r119 rfl)) dX6_readPlainOne_60
      ·
        refine r_aload_n S dX6_readPlainOne_35 rfl (lv_at hl 1 rfl) ?_
        refine r_aload_n S dX6_readPlainOne_36 rfl (lv_at hl 1 rfl) ?_
        refine r_getP S X11 lk6_20_6 ((M10.2 16 5 (Or.inr (by decide))).trans z2) (by omega) dX6_readPlainOne_37 ?_
        refine r_ki (q_U (As := [.ref (G.2.2.2.1 23)]) (rest := []) (K := 16) (ci := 6) S X11 (c_X8_seeMan_16 l G t9 I12 ) ck6_130_6 (Nat.le_of_ble_eq_true rfl) rfl (fun _ => ⟨_, rfl⟩) ⟨_, _, rfl⟩ ⟨Nat.le_of_ble_eq_true rfl, Nat.le_of_ble_eq_true rfl⟩ rfl hl.1 rfl (Nat.le_of_ble_eq_true rfl) dX6_readPlainOne_40 ⟨Nat.le_refl 0, Nat.le_refl 0⟩) X11 (fun v123 t122 H lc q120 X121 => ?_)
        unfold po_X8_seeMan_16 at q120
        obtain ⟨q124, q125, q126, q127⟩ := q120
        have F128 : Fr [(16, 1), (16, 2), (17, 4), (1, 3), (1, 4), (1, 5), (1, 7), (1, 8)] [18, 19, 20, 201] τ t122 := Fr_call F13 q125 (by decide)
        refine r_goto (tgt := 54) S dX6_readPlainOne_43 (by decide) ?_
        refine r_istore_n (lv' := [(3, .int v123), (2, .int v3), (0, .ref (G.2.2.2.1 16)), (1, .ref (G.2.2.1 a0))]) S dX6_readPlainOne_54 rfl hl (by decide) rfl (fun ls hl => ?_)
        refine r_iload_n S dX6_readPlainOne_55 rfl (lv_at hl 0 rfl) ?_
        refine r_if_ne (tgt := 61) S dX6_readPlainOne_56 (by decide) (fun c129 => ?_) (fun c129 => ?_)
        ·
          have r130 : R (1) (1) v123 := ⟨by omega, by omega⟩
          have p131 := q127 (by omega)
          obtain ⟨v132, z133⟩ : ∃ x, t122 16 2 = x := ⟨_, rfl⟩
          rw [z133] at p131
          refine r_aload_n S dX6_readPlainOne_61 rfl (lv_at hl 2 rfl) ?_
          refine r_get (K := 16) (v := .ref (G.2.2.2.1 1)) S X121 (Nat.le_of_ble_eq_true rfl) rfl lk6_39_6 (fun _ => ⟨_, rfl, rfl⟩) dX6_readPlainOne_62 ?_
          refine r_kv (q_V (As := []) (rest := []) (K := 1) (ci := 7) S X121 (c_X7_step l G t122 q124 ) ck6_64 (Nat.le_of_ble_eq_true rfl) rfl (fun _ => ⟨_, rfl⟩) ⟨_, _, rfl⟩ ⟨Nat.le_of_ble_eq_true rfl, Nat.le_of_ble_eq_true rfl⟩ rfl hl.1 rfl (Nat.le_of_ble_eq_true rfl) dX6_readPlainOne_65 ⟨Nat.le_refl 0, Nat.le_refl 0⟩) X121 (fun t136 H lc q134 X135 => ?_)
          unfold po_X7_step at q134
          obtain ⟨q137, q138⟩ := q134
          have F139 : Fr [(16, 1), (16, 2), (17, 4), (1, 3), (1, 4), (1, 5), (1, 7), (1, 8)] [18, 19, 20, 201] τ t136 := Fr_call F128 q138 (by decide)
          refine r_goto (tgt := 161) S dX6_readPlainOne_68 (by decide) ?_
          refine r_aload_n S dX6_readPlainOne_161 rfl (lv_at hl 2 rfl) ?_
          refine r_get (K := 16) (v := .ref (G.2.2.2.1 17)) S X135 (Nat.le_of_ble_eq_true rfl) rfl lk6_14_6 (fun _ => ⟨_, rfl, rfl⟩) dX6_readPlainOne_162 ?_
          refine r_aload_n S dX6_readPlainOne_165 rfl (lv_at hl 3 rfl) ?_
          refine r_iload_n S dX6_readPlainOne_166 rfl (lv_at hl 1 rfl) ?_
          refine r_aload_n S dX6_readPlainOne_167 rfl (lv_at hl 2 rfl) ?_
          refine r_geti (K := 16) S X135 (Nat.le_of_ble_eq_true rfl) rfl lk6_127_6 (fun _ => ⟨_, rfl, rfl⟩) ((q138 16 2 (by decide)).trans z133) dX6_readPlainOne_168 ?_
          refine r_kv (q_V (As := [.ref (G.2.2.1 a0), .int v3, .int v132]) (rest := []) (K := 17) (ci := 5) S X135 (c_X5_add l G t136 q137 a0 h_a0 v3 v132 (R_of (lo := -2147483648) (hi := 2147483647) r5 rfl) (R_of (lo := 0) (hi := 99) p131 rfl) (YT_eq hYT (fun j => ((q138 18 j (by simp [fz])).trans ((q125 18 j (by simp [fz])).trans ((M10.2 18 j (Or.inl (by decide))).trans rfl)))) (fun j => ((q138 19 j (by simp [fz])).trans ((q125 19 j (by simp [fz])).trans ((M10.2 19 j (Or.inl (by decide))).trans rfl))))) (by omega)) ck6_67 (Nat.le_of_ble_eq_true rfl) rfl (fun _ => ⟨_, rfl⟩) ⟨_, _, rfl⟩ ⟨Nat.le_of_ble_eq_true rfl, Nat.le_of_ble_eq_true rfl⟩ rfl hl.1 rfl (Nat.le_of_ble_eq_true rfl) dX6_readPlainOne_171 ⟨Nat.le_refl 0, Nat.le_refl 0⟩) X135 (fun t142 H lc q140 X141 => ?_)
          unfold po_X5_add at q140
          obtain ⟨q143, q144, q145⟩ := q140
          have F146 : Fr [(16, 1), (16, 2), (17, 4), (1, 3), (1, 4), (1, 5), (1, 7), (1, 8)] [18, 19, 20, 201] τ t142 := Fr_call F139 q144 (by decide)
          refine r_iconst S dX6_readPlainOne_174 (by decide) (fun v147 z148 => ?_)
          have r149 := R_eq z148
          exact r_ret S hr hlk X141 ⟨q143, F146, q145, (R_of r149 rfl)⟩ (nr_bool (R_of (lo := 0) (hi := 1) r149 rfl)) dX6_readPlainOne_175
        ·
          have r150 : R (0) (0) v123 := ⟨by omega, by omega⟩
          refine r_iconst S dX6_readPlainOne_59 (by decide) (fun v151 z152 => ?_)
          have r153 := R_eq z152
          exact r_ret S hr hlk X121 ⟨q124, F128, (YT_eq hYT (fun j => ((q125 18 j (by simp [fz])).trans ((M10.2 18 j (Or.inl (by decide))).trans rfl))) (fun j => ((q125 19 j (by simp [fz])).trans ((M10.2 19 j (Or.inl (by decide))).trans rfl)))), (R_of r153 rfl)⟩ (nr_bool (R_of (lo := 0) (hi := 1) r153 rfl)) dX6_readPlainOne_60
    ·
      refine r_aload_n S dX6_readPlainOne_21 rfl (lv_at hl 2 rfl) ?_
      refine r_wst (i := 5) S X11 (by decide) kw80 dX6_readPlainOne_22 ?_
      refine r_cacmp_ne (tgt := 71) S h_a0 (by decide) dX6_readPlainOne_25 (by decide) (fun c154 => ?_) (fun c154 => ?_)
      ·
        refine r_aload_n S dX6_readPlainOne_71 rfl (lv_at hl 2 rfl) ?_
        refine r_wst (i := 16) S X11 (by decide) kw75 dX6_readPlainOne_72 ?_
        refine r_cacmp_eq (tgt := 161) S h_a0 (by decide) dX6_readPlainOne_75 (by decide) (fun c155 => ?_) (fun c155 => ?_)
        ·
          refine r_aload_n S dX6_readPlainOne_161 rfl (lv_at hl 1 rfl) ?_
          refine r_get (K := 16) (v := .ref (G.2.2.2.1 17)) S X11 (Nat.le_of_ble_eq_true rfl) rfl lk6_14_6 (fun _ => ⟨_, rfl, rfl⟩) dX6_readPlainOne_162 ?_
          refine r_aload_n S dX6_readPlainOne_165 rfl (lv_at hl 2 rfl) ?_
          refine r_iload_n S dX6_readPlainOne_166 rfl (lv_at hl 0 rfl) ?_
          refine r_aload_n S dX6_readPlainOne_167 rfl (lv_at hl 1 rfl) ?_
          refine r_geti (K := 16) S X11 (Nat.le_of_ble_eq_true rfl) rfl lk6_127_6 (fun _ => ⟨_, rfl, rfl⟩) M10.1 dX6_readPlainOne_168 ?_
          refine r_kv (q_V (As := [.ref (G.2.2.1 a0), .int v3, .int v6]) (rest := []) (K := 17) (ci := 5) S X11 (c_X5_add l G t9 I12 a0 h_a0 v3 v6 (R_of (lo := -2147483648) (hi := 2147483647) r5 rfl) (R_of (lo := 0) (hi := 99) r8 rfl) (YT_eq hYT (fun j => ((M10.2 18 j (Or.inl (by decide))).trans rfl)) (fun j => ((M10.2 19 j (Or.inl (by decide))).trans rfl))) (by omega)) ck6_67 (Nat.le_of_ble_eq_true rfl) rfl (fun _ => ⟨_, rfl⟩) ⟨_, _, rfl⟩ ⟨Nat.le_of_ble_eq_true rfl, Nat.le_of_ble_eq_true rfl⟩ rfl hl.1 rfl (Nat.le_of_ble_eq_true rfl) dX6_readPlainOne_171 ⟨Nat.le_refl 0, Nat.le_refl 0⟩) X11 (fun t158 H lc q156 X157 => ?_)
          unfold po_X5_add at q156
          obtain ⟨q159, q160, q161⟩ := q156
          have F162 : Fr [(16, 1), (16, 2), (17, 4), (1, 3), (1, 4), (1, 5), (1, 7), (1, 8)] [18, 19, 20, 201] τ t158 := Fr_call F13 q160 (by decide)
          refine r_iconst S dX6_readPlainOne_174 (by decide) (fun v163 z164 => ?_)
          have r165 := R_eq z164
          exact r_ret S hr hlk X157 ⟨q159, F162, q161, (R_of r165 rfl)⟩ (nr_bool (R_of (lo := 0) (hi := 1) r165 rfl)) dX6_readPlainOne_175
        ·
          refine r_aload_n S dX6_readPlainOne_78 rfl (lv_at hl 2 rfl) ?_
          refine r_wst (i := 17) S X11 (by decide) kw76 dX6_readPlainOne_79 ?_
          refine r_cacmp_eq (tgt := 161) S h_a0 (by decide) dX6_readPlainOne_82 (by decide) (fun c166 => ?_) (fun c166 => ?_)
          ·
            refine r_aload_n S dX6_readPlainOne_161 rfl (lv_at hl 1 rfl) ?_
            refine r_get (K := 16) (v := .ref (G.2.2.2.1 17)) S X11 (Nat.le_of_ble_eq_true rfl) rfl lk6_14_6 (fun _ => ⟨_, rfl, rfl⟩) dX6_readPlainOne_162 ?_
            refine r_aload_n S dX6_readPlainOne_165 rfl (lv_at hl 2 rfl) ?_
            refine r_iload_n S dX6_readPlainOne_166 rfl (lv_at hl 0 rfl) ?_
            refine r_aload_n S dX6_readPlainOne_167 rfl (lv_at hl 1 rfl) ?_
            refine r_geti (K := 16) S X11 (Nat.le_of_ble_eq_true rfl) rfl lk6_127_6 (fun _ => ⟨_, rfl, rfl⟩) M10.1 dX6_readPlainOne_168 ?_
            refine r_kv (q_V (As := [.ref (G.2.2.1 a0), .int v3, .int v6]) (rest := []) (K := 17) (ci := 5) S X11 (c_X5_add l G t9 I12 a0 h_a0 v3 v6 (R_of (lo := -2147483648) (hi := 2147483647) r5 rfl) (R_of (lo := 0) (hi := 99) r8 rfl) (YT_eq hYT (fun j => ((M10.2 18 j (Or.inl (by decide))).trans rfl)) (fun j => ((M10.2 19 j (Or.inl (by decide))).trans rfl))) (by omega)) ck6_67 (Nat.le_of_ble_eq_true rfl) rfl (fun _ => ⟨_, rfl⟩) ⟨_, _, rfl⟩ ⟨Nat.le_of_ble_eq_true rfl, Nat.le_of_ble_eq_true rfl⟩ rfl hl.1 rfl (Nat.le_of_ble_eq_true rfl) dX6_readPlainOne_171 ⟨Nat.le_refl 0, Nat.le_refl 0⟩) X11 (fun t169 H lc q167 X168 => ?_)
            unfold po_X5_add at q167
            obtain ⟨q170, q171, q172⟩ := q167
            have F173 : Fr [(16, 1), (16, 2), (17, 4), (1, 3), (1, 4), (1, 5), (1, 7), (1, 8)] [18, 19, 20, 201] τ t169 := Fr_call F13 q171 (by decide)
            refine r_iconst S dX6_readPlainOne_174 (by decide) (fun v174 z175 => ?_)
            have r176 := R_eq z175
            exact r_ret S hr hlk X168 ⟨q170, F173, q172, (R_of r176 rfl)⟩ (nr_bool (R_of (lo := 0) (hi := 1) r176 rfl)) dX6_readPlainOne_175
          ·
            refine r_aload_n S dX6_readPlainOne_85 rfl (lv_at hl 2 rfl) ?_
            refine r_wst (i := 18) S X11 (by decide) kw77 dX6_readPlainOne_86 ?_
            refine r_cacmp_eq (tgt := 161) S h_a0 (by decide) dX6_readPlainOne_89 (by decide) (fun c177 => ?_) (fun c177 => ?_)
            ·
              refine r_aload_n S dX6_readPlainOne_161 rfl (lv_at hl 1 rfl) ?_
              refine r_get (K := 16) (v := .ref (G.2.2.2.1 17)) S X11 (Nat.le_of_ble_eq_true rfl) rfl lk6_14_6 (fun _ => ⟨_, rfl, rfl⟩) dX6_readPlainOne_162 ?_
              refine r_aload_n S dX6_readPlainOne_165 rfl (lv_at hl 2 rfl) ?_
              refine r_iload_n S dX6_readPlainOne_166 rfl (lv_at hl 0 rfl) ?_
              refine r_aload_n S dX6_readPlainOne_167 rfl (lv_at hl 1 rfl) ?_
              refine r_geti (K := 16) S X11 (Nat.le_of_ble_eq_true rfl) rfl lk6_127_6 (fun _ => ⟨_, rfl, rfl⟩) M10.1 dX6_readPlainOne_168 ?_
              refine r_kv (q_V (As := [.ref (G.2.2.1 a0), .int v3, .int v6]) (rest := []) (K := 17) (ci := 5) S X11 (c_X5_add l G t9 I12 a0 h_a0 v3 v6 (R_of (lo := -2147483648) (hi := 2147483647) r5 rfl) (R_of (lo := 0) (hi := 99) r8 rfl) (YT_eq hYT (fun j => ((M10.2 18 j (Or.inl (by decide))).trans rfl)) (fun j => ((M10.2 19 j (Or.inl (by decide))).trans rfl))) (by omega)) ck6_67 (Nat.le_of_ble_eq_true rfl) rfl (fun _ => ⟨_, rfl⟩) ⟨_, _, rfl⟩ ⟨Nat.le_of_ble_eq_true rfl, Nat.le_of_ble_eq_true rfl⟩ rfl hl.1 rfl (Nat.le_of_ble_eq_true rfl) dX6_readPlainOne_171 ⟨Nat.le_refl 0, Nat.le_refl 0⟩) X11 (fun t180 H lc q178 X179 => ?_)
              unfold po_X5_add at q178
              obtain ⟨q181, q182, q183⟩ := q178
              have F184 : Fr [(16, 1), (16, 2), (17, 4), (1, 3), (1, 4), (1, 5), (1, 7), (1, 8)] [18, 19, 20, 201] τ t180 := Fr_call F13 q182 (by decide)
              refine r_iconst S dX6_readPlainOne_174 (by decide) (fun v185 z186 => ?_)
              have r187 := R_eq z186
              exact r_ret S hr hlk X179 ⟨q181, F184, q183, (R_of r187 rfl)⟩ (nr_bool (R_of (lo := 0) (hi := 1) r187 rfl)) dX6_readPlainOne_175
            ·
              refine r_aload_n S dX6_readPlainOne_92 rfl (lv_at hl 1 rfl) ?_
              refine r_get (K := 16) (v := .ref (G.2.2.2.1 1)) S X11 (Nat.le_of_ble_eq_true rfl) rfl lk6_39_6 (fun _ => ⟨_, rfl, rfl⟩) dX6_readPlainOne_93 ?_
              refine r_bipush S dX6_readPlainOne_96 (by decide) (fun v188 z189 => ?_)
              have r190 := R_eq z189
              refine r_ki (q_V (As := [.int v188]) (rest := []) (K := 1) (ci := 7) S X11 (c_X7_isSigned l G t9 I12 v188 (R_of (lo := 0) (hi := 65535) r190 rfl)) ck6_81 (Nat.le_of_ble_eq_true rfl) rfl (fun _ => ⟨_, rfl⟩) ⟨_, _, rfl⟩ ⟨Nat.le_of_ble_eq_true rfl, Nat.le_of_ble_eq_true rfl⟩ rfl hl.1 rfl (Nat.le_of_ble_eq_true rfl) dX6_readPlainOne_98 ⟨Nat.le_refl 0, Nat.le_refl 0⟩) X11 (fun v194 t193 H lc q191 X192 => ?_)
              unfold po_X7_isSigned at q191
              obtain ⟨q195, q196⟩ := q191
              rw [q195] at X192
              refine r_if_ne (tgt := 134) S dX6_readPlainOne_101 (by decide) (fun c197 => ?_) (fun c197 => ?_)
              ·
                have r198 : R (1) (1) v194 := ⟨by omega, by omega⟩
                refine r_aload_n S dX6_readPlainOne_134 rfl (lv_at hl 1 rfl) ?_
                refine r_get (K := 16) (v := .ref (G.2.2.2.1 1)) S X192 (Nat.le_of_ble_eq_true rfl) rfl lk6_39_6 (fun _ => ⟨_, rfl, rfl⟩) dX6_readPlainOne_135 ?_
                refine r_getn (K := 1) S X192 (Nat.le_of_ble_eq_true rfl) rfl lk6_137_7 (fun _ => ⟨_, rfl, rfl⟩) dX6_readPlainOne_138 (fun v199 z200 => ?_)
                have r202 := R_any v199
                refine r_istore_n (lv' := [(2, .int v199), (0, .ref (G.2.2.2.1 16)), (1, .ref (G.2.2.1 a0))]) S dX6_readPlainOne_141 rfl hl (by decide) rfl (fun ls hl => ?_)
                refine r_aload_n S dX6_readPlainOne_142 rfl (lv_at hl 1 rfl) ?_
                refine r_get (K := 16) (v := .ref (G.2.2.2.1 1)) S X192 (Nat.le_of_ble_eq_true rfl) rfl lk6_39_6 (fun _ => ⟨_, rfl, rfl⟩) dX6_readPlainOne_143 ?_
                refine r_kv (q_V (As := []) (rest := []) (K := 1) (ci := 7) S X192 (c_X7_step l G t9 I12 ) ck6_64 (Nat.le_of_ble_eq_true rfl) rfl (fun _ => ⟨_, rfl⟩) ⟨_, _, rfl⟩ ⟨Nat.le_of_ble_eq_true rfl, Nat.le_of_ble_eq_true rfl⟩ rfl hl.1 rfl (Nat.le_of_ble_eq_true rfl) dX6_readPlainOne_146 ⟨Nat.le_refl 0, Nat.le_refl 0⟩) X192 (fun t205 H lc q203 X204 => ?_)
                unfold po_X7_step at q203
                obtain ⟨q206, q207⟩ := q203
                have F208 : Fr [(16, 1), (16, 2), (17, 4), (1, 3), (1, 4), (1, 5), (1, 7), (1, 8)] [18, 19, 20, 201] τ t205 := Fr_call F13 q207 (by decide)
                refine r_aload_n S dX6_readPlainOne_149 rfl (lv_at hl 1 rfl) ?_
                refine r_iconst S dX6_readPlainOne_150 (by decide) (fun v209 z210 => ?_)
                have r211 := R_eq z210
                refine r_bipush S dX6_readPlainOne_151 (by decide) (fun v212 z213 => ?_)
                have r214 := R_eq z213
                refine r_ki (q_U (As := [.int v209, .int v212]) (rest := []) (K := 16) (ci := 6) S X204 (c_X8_takeNumber_16_0_99 l G t205 q206 v209 v212 r211 r214) ck6_140_6 (Nat.le_of_ble_eq_true rfl) rfl (fun _ => ⟨_, rfl⟩) ⟨_, _, rfl⟩ ⟨Nat.le_of_ble_eq_true rfl, Nat.le_of_ble_eq_true rfl⟩ rfl hl.1 rfl (Nat.le_of_ble_eq_true rfl) dX6_readPlainOne_153 ⟨Nat.le_refl 0, Nat.le_refl 0⟩) X204 (fun v218 t217 H lc q215 X216 => ?_)
                unfold po_X8_takeNumber_16_0_99 at q215
                obtain ⟨q219, q220, q221, q222⟩ := q215
                have F223 : Fr [(16, 1), (16, 2), (17, 4), (1, 3), (1, 4), (1, 5), (1, 7), (1, 8)] [18, 19, 20, 201] τ t217 := Fr_call F208 q220 (by decide)
                refine r_if_ne (tgt := 161) S dX6_readPlainOne_156 (by decide) (fun c224 => ?_) (fun c224 => ?_)
                ·
                  have r225 : R (1) (1) v218 := ⟨by omega, by omega⟩
                  have p226 := q222 (by omega)
                  obtain ⟨v227, z228⟩ : ∃ x, t217 16 2 = x := ⟨_, rfl⟩
                  rw [z228] at p226
                  refine r_aload_n S dX6_readPlainOne_161 rfl (lv_at hl 1 rfl) ?_
                  refine r_get (K := 16) (v := .ref (G.2.2.2.1 17)) S X216 (Nat.le_of_ble_eq_true rfl) rfl lk6_14_6 (fun _ => ⟨_, rfl, rfl⟩) dX6_readPlainOne_162 ?_
                  refine r_aload_n S dX6_readPlainOne_165 rfl (lv_at hl 2 rfl) ?_
                  refine r_iload_n S dX6_readPlainOne_166 rfl (lv_at hl 0 rfl) ?_
                  refine r_aload_n S dX6_readPlainOne_167 rfl (lv_at hl 1 rfl) ?_
                  refine r_geti (K := 16) S X216 (Nat.le_of_ble_eq_true rfl) rfl lk6_127_6 (fun _ => ⟨_, rfl, rfl⟩) z228 dX6_readPlainOne_168 ?_
                  refine r_kv (q_V (As := [.ref (G.2.2.1 a0), .int v199, .int v227]) (rest := []) (K := 17) (ci := 5) S X216 (c_X5_add l G t217 q219 a0 h_a0 v199 v227 r202 p226 (YT_eq hYT (fun j => ((q220 18 j (by simp [fz])).trans ((q207 18 j (by simp [fz])).trans ((M10.2 18 j (Or.inl (by decide))).trans rfl)))) (fun j => ((q220 19 j (by simp [fz])).trans ((q207 19 j (by simp [fz])).trans ((M10.2 19 j (Or.inl (by decide))).trans rfl))))) (by omega)) ck6_67 (Nat.le_of_ble_eq_true rfl) rfl (fun _ => ⟨_, rfl⟩) ⟨_, _, rfl⟩ ⟨Nat.le_of_ble_eq_true rfl, Nat.le_of_ble_eq_true rfl⟩ rfl hl.1 rfl (Nat.le_of_ble_eq_true rfl) dX6_readPlainOne_171 ⟨Nat.le_refl 0, Nat.le_refl 0⟩) X216 (fun t231 H lc q229 X230 => ?_)
                  unfold po_X5_add at q229
                  obtain ⟨q232, q233, q234⟩ := q229
                  have F235 : Fr [(16, 1), (16, 2), (17, 4), (1, 3), (1, 4), (1, 5), (1, 7), (1, 8)] [18, 19, 20, 201] τ t231 := Fr_call F223 q233 (by decide)
                  refine r_iconst S dX6_readPlainOne_174 (by decide) (fun v236 z237 => ?_)
                  have r238 := R_eq z237
                  exact r_ret S hr hlk X230 ⟨q232, F235, q234, (R_of r238 rfl)⟩ (nr_bool (R_of (lo := 0) (hi := 1) r238 rfl)) dX6_readPlainOne_175
                ·
                  have r239 : R (0) (0) v218 := ⟨by omega, by omega⟩
                  refine r_iconst S dX6_readPlainOne_159 (by decide) (fun v240 z241 => ?_)
                  have r242 := R_eq z241
                  exact r_ret S hr hlk X216 ⟨q219, F223, (YT_eq hYT (fun j => ((q220 18 j (by simp [fz])).trans ((q207 18 j (by simp [fz])).trans ((M10.2 18 j (Or.inl (by decide))).trans rfl)))) (fun j => ((q220 19 j (by simp [fz])).trans ((q207 19 j (by simp [fz])).trans ((M10.2 19 j (Or.inl (by decide))).trans rfl))))), (R_of r242 rfl)⟩ (nr_bool (R_of (lo := 0) (hi := 1) r242 rfl)) dX6_readPlainOne_160
              ·
                have r243 : R (0) (0) v194 := ⟨by omega, by omega⟩
                refine r_aload_n S dX6_readPlainOne_104 rfl (lv_at hl 1 rfl) ?_
                refine r_get (K := 16) (v := .ref (G.2.2.2.1 1)) S X192 (Nat.le_of_ble_eq_true rfl) rfl lk6_39_6 (fun _ => ⟨_, rfl, rfl⟩) dX6_readPlainOne_105 ?_
                refine r_bipush S dX6_readPlainOne_108 (by decide) (fun v244 z245 => ?_)
                have r246 := R_eq z245
                refine r_ki (q_V (As := [.int v244]) (rest := []) (K := 1) (ci := 7) S X192 (c_X7_isSigned l G t9 I12 v244 (R_of (lo := 0) (hi := 65535) r246 rfl)) ck6_81 (Nat.le_of_ble_eq_true rfl) rfl (fun _ => ⟨_, rfl⟩) ⟨_, _, rfl⟩ ⟨Nat.le_of_ble_eq_true rfl, Nat.le_of_ble_eq_true rfl⟩ rfl hl.1 rfl (Nat.le_of_ble_eq_true rfl) dX6_readPlainOne_110 ⟨Nat.le_refl 0, Nat.le_refl 0⟩) X192 (fun v250 t249 H lc q247 X248 => ?_)
                unfold po_X7_isSigned at q247
                obtain ⟨q251, q252⟩ := q247
                rw [q251] at X248
                refine r_if_ne (tgt := 134) S dX6_readPlainOne_113 (by decide) (fun c253 => ?_) (fun c253 => ?_)
                ·
                  have r254 : R (1) (1) v250 := ⟨by omega, by omega⟩
                  refine r_aload_n S dX6_readPlainOne_134 rfl (lv_at hl 1 rfl) ?_
                  refine r_get (K := 16) (v := .ref (G.2.2.2.1 1)) S X248 (Nat.le_of_ble_eq_true rfl) rfl lk6_39_6 (fun _ => ⟨_, rfl, rfl⟩) dX6_readPlainOne_135 ?_
                  refine r_getn (K := 1) S X248 (Nat.le_of_ble_eq_true rfl) rfl lk6_137_7 (fun _ => ⟨_, rfl, rfl⟩) dX6_readPlainOne_138 (fun v255 z256 => ?_)
                  have r258 := R_any v255
                  refine r_istore_n (lv' := [(2, .int v255), (0, .ref (G.2.2.2.1 16)), (1, .ref (G.2.2.1 a0))]) S dX6_readPlainOne_141 rfl hl (by decide) rfl (fun ls hl => ?_)
                  refine r_aload_n S dX6_readPlainOne_142 rfl (lv_at hl 1 rfl) ?_
                  refine r_get (K := 16) (v := .ref (G.2.2.2.1 1)) S X248 (Nat.le_of_ble_eq_true rfl) rfl lk6_39_6 (fun _ => ⟨_, rfl, rfl⟩) dX6_readPlainOne_143 ?_
                  refine r_kv (q_V (As := []) (rest := []) (K := 1) (ci := 7) S X248 (c_X7_step l G t9 I12 ) ck6_64 (Nat.le_of_ble_eq_true rfl) rfl (fun _ => ⟨_, rfl⟩) ⟨_, _, rfl⟩ ⟨Nat.le_of_ble_eq_true rfl, Nat.le_of_ble_eq_true rfl⟩ rfl hl.1 rfl (Nat.le_of_ble_eq_true rfl) dX6_readPlainOne_146 ⟨Nat.le_refl 0, Nat.le_refl 0⟩) X248 (fun t261 H lc q259 X260 => ?_)
                  unfold po_X7_step at q259
                  obtain ⟨q262, q263⟩ := q259
                  have F264 : Fr [(16, 1), (16, 2), (17, 4), (1, 3), (1, 4), (1, 5), (1, 7), (1, 8)] [18, 19, 20, 201] τ t261 := Fr_call F13 q263 (by decide)
                  refine r_aload_n S dX6_readPlainOne_149 rfl (lv_at hl 1 rfl) ?_
                  refine r_iconst S dX6_readPlainOne_150 (by decide) (fun v265 z266 => ?_)
                  have r267 := R_eq z266
                  refine r_bipush S dX6_readPlainOne_151 (by decide) (fun v268 z269 => ?_)
                  have r270 := R_eq z269
                  refine r_ki (q_U (As := [.int v265, .int v268]) (rest := []) (K := 16) (ci := 6) S X260 (c_X8_takeNumber_16_0_99 l G t261 q262 v265 v268 r267 r270) ck6_140_6 (Nat.le_of_ble_eq_true rfl) rfl (fun _ => ⟨_, rfl⟩) ⟨_, _, rfl⟩ ⟨Nat.le_of_ble_eq_true rfl, Nat.le_of_ble_eq_true rfl⟩ rfl hl.1 rfl (Nat.le_of_ble_eq_true rfl) dX6_readPlainOne_153 ⟨Nat.le_refl 0, Nat.le_refl 0⟩) X260 (fun v274 t273 H lc q271 X272 => ?_)
                  unfold po_X8_takeNumber_16_0_99 at q271
                  obtain ⟨q275, q276, q277, q278⟩ := q271
                  have F279 : Fr [(16, 1), (16, 2), (17, 4), (1, 3), (1, 4), (1, 5), (1, 7), (1, 8)] [18, 19, 20, 201] τ t273 := Fr_call F264 q276 (by decide)
                  refine r_if_ne (tgt := 161) S dX6_readPlainOne_156 (by decide) (fun c280 => ?_) (fun c280 => ?_)
                  ·
                    have r281 : R (1) (1) v274 := ⟨by omega, by omega⟩
                    have p282 := q278 (by omega)
                    obtain ⟨v283, z284⟩ : ∃ x, t273 16 2 = x := ⟨_, rfl⟩
                    rw [z284] at p282
                    refine r_aload_n S dX6_readPlainOne_161 rfl (lv_at hl 1 rfl) ?_
                    refine r_get (K := 16) (v := .ref (G.2.2.2.1 17)) S X272 (Nat.le_of_ble_eq_true rfl) rfl lk6_14_6 (fun _ => ⟨_, rfl, rfl⟩) dX6_readPlainOne_162 ?_
                    refine r_aload_n S dX6_readPlainOne_165 rfl (lv_at hl 2 rfl) ?_
                    refine r_iload_n S dX6_readPlainOne_166 rfl (lv_at hl 0 rfl) ?_
                    refine r_aload_n S dX6_readPlainOne_167 rfl (lv_at hl 1 rfl) ?_
                    refine r_geti (K := 16) S X272 (Nat.le_of_ble_eq_true rfl) rfl lk6_127_6 (fun _ => ⟨_, rfl, rfl⟩) z284 dX6_readPlainOne_168 ?_
                    refine r_kv (q_V (As := [.ref (G.2.2.1 a0), .int v255, .int v283]) (rest := []) (K := 17) (ci := 5) S X272 (c_X5_add l G t273 q275 a0 h_a0 v255 v283 r258 p282 (YT_eq hYT (fun j => ((q276 18 j (by simp [fz])).trans ((q263 18 j (by simp [fz])).trans ((M10.2 18 j (Or.inl (by decide))).trans rfl)))) (fun j => ((q276 19 j (by simp [fz])).trans ((q263 19 j (by simp [fz])).trans ((M10.2 19 j (Or.inl (by decide))).trans rfl))))) (by omega)) ck6_67 (Nat.le_of_ble_eq_true rfl) rfl (fun _ => ⟨_, rfl⟩) ⟨_, _, rfl⟩ ⟨Nat.le_of_ble_eq_true rfl, Nat.le_of_ble_eq_true rfl⟩ rfl hl.1 rfl (Nat.le_of_ble_eq_true rfl) dX6_readPlainOne_171 ⟨Nat.le_refl 0, Nat.le_refl 0⟩) X272 (fun t287 H lc q285 X286 => ?_)
                    unfold po_X5_add at q285
                    obtain ⟨q288, q289, q290⟩ := q285
                    have F291 : Fr [(16, 1), (16, 2), (17, 4), (1, 3), (1, 4), (1, 5), (1, 7), (1, 8)] [18, 19, 20, 201] τ t287 := Fr_call F279 q289 (by decide)
                    refine r_iconst S dX6_readPlainOne_174 (by decide) (fun v292 z293 => ?_)
                    have r294 := R_eq z293
                    exact r_ret S hr hlk X286 ⟨q288, F291, q290, (R_of r294 rfl)⟩ (nr_bool (R_of (lo := 0) (hi := 1) r294 rfl)) dX6_readPlainOne_175
                  ·
                    have r295 : R (0) (0) v274 := ⟨by omega, by omega⟩
                    refine r_iconst S dX6_readPlainOne_159 (by decide) (fun v296 z297 => ?_)
                    have r298 := R_eq z297
                    exact r_ret S hr hlk X272 ⟨q275, F279, (YT_eq hYT (fun j => ((q276 18 j (by simp [fz])).trans ((q263 18 j (by simp [fz])).trans ((M10.2 18 j (Or.inl (by decide))).trans rfl)))) (fun j => ((q276 19 j (by simp [fz])).trans ((q263 19 j (by simp [fz])).trans ((M10.2 19 j (Or.inl (by decide))).trans rfl))))), (R_of r298 rfl)⟩ (nr_bool (R_of (lo := 0) (hi := 1) r298 rfl)) dX6_readPlainOne_160
                ·
                  have r299 : R (0) (0) v250 := ⟨by omega, by omega⟩
                  refine r_aload_n S dX6_readPlainOne_116 rfl (lv_at hl 1 rfl) ?_
                  refine r_get (K := 16) (v := .ref (G.2.2.2.1 1)) S X248 (Nat.le_of_ble_eq_true rfl) rfl lk6_39_6 (fun _ => ⟨_, rfl, rfl⟩) dX6_readPlainOne_117 ?_
                  refine r_bipush S dX6_readPlainOne_120 (by decide) (fun v300 z301 => ?_)
                  have r302 := R_eq z301
                  refine r_ki (q_V (As := [.int v300]) (rest := []) (K := 1) (ci := 7) S X248 (c_X7_isSigned l G t9 I12 v300 (R_of (lo := 0) (hi := 65535) r302 rfl)) ck6_81 (Nat.le_of_ble_eq_true rfl) rfl (fun _ => ⟨_, rfl⟩) ⟨_, _, rfl⟩ ⟨Nat.le_of_ble_eq_true rfl, Nat.le_of_ble_eq_true rfl⟩ rfl hl.1 rfl (Nat.le_of_ble_eq_true rfl) dX6_readPlainOne_122 ⟨Nat.le_refl 0, Nat.le_refl 0⟩) X248 (fun v306 t305 H lc q303 X304 => ?_)
                  unfold po_X7_isSigned at q303
                  obtain ⟨q307, q308⟩ := q303
                  rw [q307] at X304
                  refine r_if_ne (tgt := 134) S dX6_readPlainOne_125 (by decide) (fun c309 => ?_) (fun c309 => ?_)
                  ·
                    have r310 : R (1) (1) v306 := ⟨by omega, by omega⟩
                    refine r_aload_n S dX6_readPlainOne_134 rfl (lv_at hl 1 rfl) ?_
                    refine r_get (K := 16) (v := .ref (G.2.2.2.1 1)) S X304 (Nat.le_of_ble_eq_true rfl) rfl lk6_39_6 (fun _ => ⟨_, rfl, rfl⟩) dX6_readPlainOne_135 ?_
                    refine r_getn (K := 1) S X304 (Nat.le_of_ble_eq_true rfl) rfl lk6_137_7 (fun _ => ⟨_, rfl, rfl⟩) dX6_readPlainOne_138 (fun v311 z312 => ?_)
                    have r314 := R_any v311
                    refine r_istore_n (lv' := [(2, .int v311), (0, .ref (G.2.2.2.1 16)), (1, .ref (G.2.2.1 a0))]) S dX6_readPlainOne_141 rfl hl (by decide) rfl (fun ls hl => ?_)
                    refine r_aload_n S dX6_readPlainOne_142 rfl (lv_at hl 1 rfl) ?_
                    refine r_get (K := 16) (v := .ref (G.2.2.2.1 1)) S X304 (Nat.le_of_ble_eq_true rfl) rfl lk6_39_6 (fun _ => ⟨_, rfl, rfl⟩) dX6_readPlainOne_143 ?_
                    refine r_kv (q_V (As := []) (rest := []) (K := 1) (ci := 7) S X304 (c_X7_step l G t9 I12 ) ck6_64 (Nat.le_of_ble_eq_true rfl) rfl (fun _ => ⟨_, rfl⟩) ⟨_, _, rfl⟩ ⟨Nat.le_of_ble_eq_true rfl, Nat.le_of_ble_eq_true rfl⟩ rfl hl.1 rfl (Nat.le_of_ble_eq_true rfl) dX6_readPlainOne_146 ⟨Nat.le_refl 0, Nat.le_refl 0⟩) X304 (fun t317 H lc q315 X316 => ?_)
                    unfold po_X7_step at q315
                    obtain ⟨q318, q319⟩ := q315
                    have F320 : Fr [(16, 1), (16, 2), (17, 4), (1, 3), (1, 4), (1, 5), (1, 7), (1, 8)] [18, 19, 20, 201] τ t317 := Fr_call F13 q319 (by decide)
                    refine r_aload_n S dX6_readPlainOne_149 rfl (lv_at hl 1 rfl) ?_
                    refine r_iconst S dX6_readPlainOne_150 (by decide) (fun v321 z322 => ?_)
                    have r323 := R_eq z322
                    refine r_bipush S dX6_readPlainOne_151 (by decide) (fun v324 z325 => ?_)
                    have r326 := R_eq z325
                    refine r_ki (q_U (As := [.int v321, .int v324]) (rest := []) (K := 16) (ci := 6) S X316 (c_X8_takeNumber_16_0_99 l G t317 q318 v321 v324 r323 r326) ck6_140_6 (Nat.le_of_ble_eq_true rfl) rfl (fun _ => ⟨_, rfl⟩) ⟨_, _, rfl⟩ ⟨Nat.le_of_ble_eq_true rfl, Nat.le_of_ble_eq_true rfl⟩ rfl hl.1 rfl (Nat.le_of_ble_eq_true rfl) dX6_readPlainOne_153 ⟨Nat.le_refl 0, Nat.le_refl 0⟩) X316 (fun v330 t329 H lc q327 X328 => ?_)
                    unfold po_X8_takeNumber_16_0_99 at q327
                    obtain ⟨q331, q332, q333, q334⟩ := q327
                    have F335 : Fr [(16, 1), (16, 2), (17, 4), (1, 3), (1, 4), (1, 5), (1, 7), (1, 8)] [18, 19, 20, 201] τ t329 := Fr_call F320 q332 (by decide)
                    refine r_if_ne (tgt := 161) S dX6_readPlainOne_156 (by decide) (fun c336 => ?_) (fun c336 => ?_)
                    ·
                      have r337 : R (1) (1) v330 := ⟨by omega, by omega⟩
                      have p338 := q334 (by omega)
                      obtain ⟨v339, z340⟩ : ∃ x, t329 16 2 = x := ⟨_, rfl⟩
                      rw [z340] at p338
                      refine r_aload_n S dX6_readPlainOne_161 rfl (lv_at hl 1 rfl) ?_
                      refine r_get (K := 16) (v := .ref (G.2.2.2.1 17)) S X328 (Nat.le_of_ble_eq_true rfl) rfl lk6_14_6 (fun _ => ⟨_, rfl, rfl⟩) dX6_readPlainOne_162 ?_
                      refine r_aload_n S dX6_readPlainOne_165 rfl (lv_at hl 2 rfl) ?_
                      refine r_iload_n S dX6_readPlainOne_166 rfl (lv_at hl 0 rfl) ?_
                      refine r_aload_n S dX6_readPlainOne_167 rfl (lv_at hl 1 rfl) ?_
                      refine r_geti (K := 16) S X328 (Nat.le_of_ble_eq_true rfl) rfl lk6_127_6 (fun _ => ⟨_, rfl, rfl⟩) z340 dX6_readPlainOne_168 ?_
                      refine r_kv (q_V (As := [.ref (G.2.2.1 a0), .int v311, .int v339]) (rest := []) (K := 17) (ci := 5) S X328 (c_X5_add l G t329 q331 a0 h_a0 v311 v339 r314 p338 (YT_eq hYT (fun j => ((q332 18 j (by simp [fz])).trans ((q319 18 j (by simp [fz])).trans ((M10.2 18 j (Or.inl (by decide))).trans rfl)))) (fun j => ((q332 19 j (by simp [fz])).trans ((q319 19 j (by simp [fz])).trans ((M10.2 19 j (Or.inl (by decide))).trans rfl))))) (by omega)) ck6_67 (Nat.le_of_ble_eq_true rfl) rfl (fun _ => ⟨_, rfl⟩) ⟨_, _, rfl⟩ ⟨Nat.le_of_ble_eq_true rfl, Nat.le_of_ble_eq_true rfl⟩ rfl hl.1 rfl (Nat.le_of_ble_eq_true rfl) dX6_readPlainOne_171 ⟨Nat.le_refl 0, Nat.le_refl 0⟩) X328 (fun t343 H lc q341 X342 => ?_)
                      unfold po_X5_add at q341
                      obtain ⟨q344, q345, q346⟩ := q341
                      have F347 : Fr [(16, 1), (16, 2), (17, 4), (1, 3), (1, 4), (1, 5), (1, 7), (1, 8)] [18, 19, 20, 201] τ t343 := Fr_call F335 q345 (by decide)
                      refine r_iconst S dX6_readPlainOne_174 (by decide) (fun v348 z349 => ?_)
                      have r350 := R_eq z349
                      exact r_ret S hr hlk X342 ⟨q344, F347, q346, (R_of r350 rfl)⟩ (nr_bool (R_of (lo := 0) (hi := 1) r350 rfl)) dX6_readPlainOne_175
                    ·
                      have r351 : R (0) (0) v330 := ⟨by omega, by omega⟩
                      refine r_iconst S dX6_readPlainOne_159 (by decide) (fun v352 z353 => ?_)
                      have r354 := R_eq z353
                      exact r_ret S hr hlk X328 ⟨q331, F335, (YT_eq hYT (fun j => ((q332 18 j (by simp [fz])).trans ((q319 18 j (by simp [fz])).trans ((M10.2 18 j (Or.inl (by decide))).trans rfl)))) (fun j => ((q332 19 j (by simp [fz])).trans ((q319 19 j (by simp [fz])).trans ((M10.2 19 j (Or.inl (by decide))).trans rfl))))), (R_of r354 rfl)⟩ (nr_bool (R_of (lo := 0) (hi := 1) r354 rfl)) dX6_readPlainOne_160
                  ·
                    have r355 : R (0) (0) v306 := ⟨by omega, by omega⟩
                    refine r_aload_n S dX6_readPlainOne_128 rfl (lv_at hl 1 rfl) ?_
                    refine r_iconst S dX6_readPlainOne_129 (by decide) (fun v356 z357 => ?_)
                    have r358 := R_eq z357
                    refine r_ki (q_U (As := [.int v356]) (rest := []) (K := 16) (ci := 6) S X304 (c_X8_fail_16 l G t9 I12 v356 (R_of (lo := -2147483648) (hi := 2147483647) r358 rfl)) ck6_48_6 (Nat.le_of_ble_eq_true rfl) rfl (fun _ => ⟨_, rfl⟩) ⟨_, _, rfl⟩ ⟨Nat.le_of_ble_eq_true rfl, Nat.le_of_ble_eq_true rfl⟩ rfl hl.1 rfl (Nat.le_of_ble_eq_true rfl) dX6_readPlainOne_130 ⟨Nat.le_refl 0, Nat.le_refl 0⟩) X304 (fun v362 t361 H lc q359 X360 => ?_)
                    unfold po_X8_fail_16 at q359
                    obtain ⟨q363, q364, q365⟩ := q359
                    have F366 : Fr [(16, 1), (16, 2), (17, 4), (1, 3), (1, 4), (1, 5), (1, 7), (1, 8)] [18, 19, 20, 201] τ t361 := Fr_call F13 q364 (by decide)
                    exact r_ret S hr hlk X360 ⟨q363, F366, (YT_eq hYT (fun j => ((q364 18 j (by simp [fz])).trans ((M10.2 18 j (Or.inl (by decide))).trans rfl))) (fun j => ((q364 19 j (by simp [fz])).trans ((M10.2 19 j (Or.inl (by decide))).trans rfl)))), (R_of q365 rfl)⟩ (nr_bool (R_of (lo := 0) (hi := 1) q365 rfl)) dX6_readPlainOne_133
      ·
        refine r_aload_n S dX6_readPlainOne_28 rfl (lv_at hl 2 rfl) ?_
        refine r_wst (i := 19) S X11 (by decide) kw78 dX6_readPlainOne_29 ?_
        refine r_cacmp_ne (tgt := 46) S h_a0 (by decide) dX6_readPlainOne_32 (by decide) (fun c367 => ?_) (fun c367 => ?_)
        ·
          refine r_aload_n S dX6_readPlainOne_46 rfl (lv_at hl 1 rfl) ?_
          refine r_aload_n S dX6_readPlainOne_47 rfl (lv_at hl 1 rfl) ?_
          refine r_getP S X11 lk6_20_6 ((M10.2 16 5 (Or.inr (by decide))).trans z2) (by omega) dX6_readPlainOne_48 ?_
          refine r_ki (q_U (As := [.ref (G.2.2.2.1 23)]) (rest := []) (K := 16) (ci := 6) S X11 (c_X8_seeAsk_16 l G t9 I12 ) ck6_134_6 (Nat.le_of_ble_eq_true rfl) rfl (fun _ => ⟨_, rfl⟩) ⟨_, _, rfl⟩ ⟨Nat.le_of_ble_eq_true rfl, Nat.le_of_ble_eq_true rfl⟩ rfl hl.1 rfl (Nat.le_of_ble_eq_true rfl) dX6_readPlainOne_51 ⟨Nat.le_refl 0, Nat.le_refl 0⟩) X11 (fun v371 t370 H lc q368 X369 => ?_)
          unfold po_X8_seeAsk_16 at q368
          obtain ⟨q372, q373, q374, q375⟩ := q368
          have F376 : Fr [(16, 1), (16, 2), (17, 4), (1, 3), (1, 4), (1, 5), (1, 7), (1, 8)] [18, 19, 20, 201] τ t370 := Fr_call F13 q373 (by decide)
          refine r_istore_n (lv' := [(3, .int v371), (2, .int v3), (0, .ref (G.2.2.2.1 16)), (1, .ref (G.2.2.1 a0))]) S dX6_readPlainOne_54 rfl hl (by decide) rfl (fun ls hl => ?_)
          refine r_iload_n S dX6_readPlainOne_55 rfl (lv_at hl 0 rfl) ?_
          refine r_if_ne (tgt := 61) S dX6_readPlainOne_56 (by decide) (fun c377 => ?_) (fun c377 => ?_)
          ·
            have r378 : R (1) (1) v371 := ⟨by omega, by omega⟩
            have p379 := q375 (by omega)
            obtain ⟨v380, z381⟩ : ∃ x, t370 16 2 = x := ⟨_, rfl⟩
            rw [z381] at p379
            refine r_aload_n S dX6_readPlainOne_61 rfl (lv_at hl 2 rfl) ?_
            refine r_get (K := 16) (v := .ref (G.2.2.2.1 1)) S X369 (Nat.le_of_ble_eq_true rfl) rfl lk6_39_6 (fun _ => ⟨_, rfl, rfl⟩) dX6_readPlainOne_62 ?_
            refine r_kv (q_V (As := []) (rest := []) (K := 1) (ci := 7) S X369 (c_X7_step l G t370 q372 ) ck6_64 (Nat.le_of_ble_eq_true rfl) rfl (fun _ => ⟨_, rfl⟩) ⟨_, _, rfl⟩ ⟨Nat.le_of_ble_eq_true rfl, Nat.le_of_ble_eq_true rfl⟩ rfl hl.1 rfl (Nat.le_of_ble_eq_true rfl) dX6_readPlainOne_65 ⟨Nat.le_refl 0, Nat.le_refl 0⟩) X369 (fun t384 H lc q382 X383 => ?_)
            unfold po_X7_step at q382
            obtain ⟨q385, q386⟩ := q382
            have F387 : Fr [(16, 1), (16, 2), (17, 4), (1, 3), (1, 4), (1, 5), (1, 7), (1, 8)] [18, 19, 20, 201] τ t384 := Fr_call F376 q386 (by decide)
            refine r_goto (tgt := 161) S dX6_readPlainOne_68 (by decide) ?_
            refine r_aload_n S dX6_readPlainOne_161 rfl (lv_at hl 2 rfl) ?_
            refine r_get (K := 16) (v := .ref (G.2.2.2.1 17)) S X383 (Nat.le_of_ble_eq_true rfl) rfl lk6_14_6 (fun _ => ⟨_, rfl, rfl⟩) dX6_readPlainOne_162 ?_
            refine r_aload_n S dX6_readPlainOne_165 rfl (lv_at hl 3 rfl) ?_
            refine r_iload_n S dX6_readPlainOne_166 rfl (lv_at hl 1 rfl) ?_
            refine r_aload_n S dX6_readPlainOne_167 rfl (lv_at hl 2 rfl) ?_
            refine r_geti (K := 16) S X383 (Nat.le_of_ble_eq_true rfl) rfl lk6_127_6 (fun _ => ⟨_, rfl, rfl⟩) ((q386 16 2 (by decide)).trans z381) dX6_readPlainOne_168 ?_
            refine r_kv (q_V (As := [.ref (G.2.2.1 a0), .int v3, .int v380]) (rest := []) (K := 17) (ci := 5) S X383 (c_X5_add l G t384 q385 a0 h_a0 v3 v380 (R_of (lo := -2147483648) (hi := 2147483647) r5 rfl) (R_of (lo := 0) (hi := 99) p379 rfl) (YT_eq hYT (fun j => ((q386 18 j (by simp [fz])).trans ((q373 18 j (by simp [fz])).trans ((M10.2 18 j (Or.inl (by decide))).trans rfl)))) (fun j => ((q386 19 j (by simp [fz])).trans ((q373 19 j (by simp [fz])).trans ((M10.2 19 j (Or.inl (by decide))).trans rfl))))) (by omega)) ck6_67 (Nat.le_of_ble_eq_true rfl) rfl (fun _ => ⟨_, rfl⟩) ⟨_, _, rfl⟩ ⟨Nat.le_of_ble_eq_true rfl, Nat.le_of_ble_eq_true rfl⟩ rfl hl.1 rfl (Nat.le_of_ble_eq_true rfl) dX6_readPlainOne_171 ⟨Nat.le_refl 0, Nat.le_refl 0⟩) X383 (fun t390 H lc q388 X389 => ?_)
            unfold po_X5_add at q388
            obtain ⟨q391, q392, q393⟩ := q388
            have F394 : Fr [(16, 1), (16, 2), (17, 4), (1, 3), (1, 4), (1, 5), (1, 7), (1, 8)] [18, 19, 20, 201] τ t390 := Fr_call F387 q392 (by decide)
            refine r_iconst S dX6_readPlainOne_174 (by decide) (fun v395 z396 => ?_)
            have r397 := R_eq z396
            exact r_ret S hr hlk X389 ⟨q391, F394, q393, (R_of r397 rfl)⟩ (nr_bool (R_of (lo := 0) (hi := 1) r397 rfl)) dX6_readPlainOne_175
          ·
            have r398 : R (0) (0) v371 := ⟨by omega, by omega⟩
            refine r_iconst S dX6_readPlainOne_59 (by decide) (fun v399 z400 => ?_)
            have r401 := R_eq z400
            exact r_ret S hr hlk X369 ⟨q372, F376, (YT_eq hYT (fun j => ((q373 18 j (by simp [fz])).trans ((M10.2 18 j (Or.inl (by decide))).trans rfl))) (fun j => ((q373 19 j (by simp [fz])).trans ((M10.2 19 j (Or.inl (by decide))).trans rfl)))), (R_of r401 rfl)⟩ (nr_bool (R_of (lo := 0) (hi := 1) r401 rfl)) dX6_readPlainOne_60
        ·
          refine r_aload_n S dX6_readPlainOne_35 rfl (lv_at hl 1 rfl) ?_
          refine r_aload_n S dX6_readPlainOne_36 rfl (lv_at hl 1 rfl) ?_
          refine r_getP S X11 lk6_20_6 ((M10.2 16 5 (Or.inr (by decide))).trans z2) (by omega) dX6_readPlainOne_37 ?_
          refine r_ki (q_U (As := [.ref (G.2.2.2.1 23)]) (rest := []) (K := 16) (ci := 6) S X11 (c_X8_seeMan_16 l G t9 I12 ) ck6_130_6 (Nat.le_of_ble_eq_true rfl) rfl (fun _ => ⟨_, rfl⟩) ⟨_, _, rfl⟩ ⟨Nat.le_of_ble_eq_true rfl, Nat.le_of_ble_eq_true rfl⟩ rfl hl.1 rfl (Nat.le_of_ble_eq_true rfl) dX6_readPlainOne_40 ⟨Nat.le_refl 0, Nat.le_refl 0⟩) X11 (fun v405 t404 H lc q402 X403 => ?_)
          unfold po_X8_seeMan_16 at q402
          obtain ⟨q406, q407, q408, q409⟩ := q402
          have F410 : Fr [(16, 1), (16, 2), (17, 4), (1, 3), (1, 4), (1, 5), (1, 7), (1, 8)] [18, 19, 20, 201] τ t404 := Fr_call F13 q407 (by decide)
          refine r_goto (tgt := 54) S dX6_readPlainOne_43 (by decide) ?_
          refine r_istore_n (lv' := [(3, .int v405), (2, .int v3), (0, .ref (G.2.2.2.1 16)), (1, .ref (G.2.2.1 a0))]) S dX6_readPlainOne_54 rfl hl (by decide) rfl (fun ls hl => ?_)
          refine r_iload_n S dX6_readPlainOne_55 rfl (lv_at hl 0 rfl) ?_
          refine r_if_ne (tgt := 61) S dX6_readPlainOne_56 (by decide) (fun c411 => ?_) (fun c411 => ?_)
          ·
            have r412 : R (1) (1) v405 := ⟨by omega, by omega⟩
            have p413 := q409 (by omega)
            obtain ⟨v414, z415⟩ : ∃ x, t404 16 2 = x := ⟨_, rfl⟩
            rw [z415] at p413
            refine r_aload_n S dX6_readPlainOne_61 rfl (lv_at hl 2 rfl) ?_
            refine r_get (K := 16) (v := .ref (G.2.2.2.1 1)) S X403 (Nat.le_of_ble_eq_true rfl) rfl lk6_39_6 (fun _ => ⟨_, rfl, rfl⟩) dX6_readPlainOne_62 ?_
            refine r_kv (q_V (As := []) (rest := []) (K := 1) (ci := 7) S X403 (c_X7_step l G t404 q406 ) ck6_64 (Nat.le_of_ble_eq_true rfl) rfl (fun _ => ⟨_, rfl⟩) ⟨_, _, rfl⟩ ⟨Nat.le_of_ble_eq_true rfl, Nat.le_of_ble_eq_true rfl⟩ rfl hl.1 rfl (Nat.le_of_ble_eq_true rfl) dX6_readPlainOne_65 ⟨Nat.le_refl 0, Nat.le_refl 0⟩) X403 (fun t418 H lc q416 X417 => ?_)
            unfold po_X7_step at q416
            obtain ⟨q419, q420⟩ := q416
            have F421 : Fr [(16, 1), (16, 2), (17, 4), (1, 3), (1, 4), (1, 5), (1, 7), (1, 8)] [18, 19, 20, 201] τ t418 := Fr_call F410 q420 (by decide)
            refine r_goto (tgt := 161) S dX6_readPlainOne_68 (by decide) ?_
            refine r_aload_n S dX6_readPlainOne_161 rfl (lv_at hl 2 rfl) ?_
            refine r_get (K := 16) (v := .ref (G.2.2.2.1 17)) S X417 (Nat.le_of_ble_eq_true rfl) rfl lk6_14_6 (fun _ => ⟨_, rfl, rfl⟩) dX6_readPlainOne_162 ?_
            refine r_aload_n S dX6_readPlainOne_165 rfl (lv_at hl 3 rfl) ?_
            refine r_iload_n S dX6_readPlainOne_166 rfl (lv_at hl 1 rfl) ?_
            refine r_aload_n S dX6_readPlainOne_167 rfl (lv_at hl 2 rfl) ?_
            refine r_geti (K := 16) S X417 (Nat.le_of_ble_eq_true rfl) rfl lk6_127_6 (fun _ => ⟨_, rfl, rfl⟩) ((q420 16 2 (by decide)).trans z415) dX6_readPlainOne_168 ?_
            refine r_kv (q_V (As := [.ref (G.2.2.1 a0), .int v3, .int v414]) (rest := []) (K := 17) (ci := 5) S X417 (c_X5_add l G t418 q419 a0 h_a0 v3 v414 (R_of (lo := -2147483648) (hi := 2147483647) r5 rfl) (R_of (lo := 0) (hi := 99) p413 rfl) (YT_eq hYT (fun j => ((q420 18 j (by simp [fz])).trans ((q407 18 j (by simp [fz])).trans ((M10.2 18 j (Or.inl (by decide))).trans rfl)))) (fun j => ((q420 19 j (by simp [fz])).trans ((q407 19 j (by simp [fz])).trans ((M10.2 19 j (Or.inl (by decide))).trans rfl))))) (by omega)) ck6_67 (Nat.le_of_ble_eq_true rfl) rfl (fun _ => ⟨_, rfl⟩) ⟨_, _, rfl⟩ ⟨Nat.le_of_ble_eq_true rfl, Nat.le_of_ble_eq_true rfl⟩ rfl hl.1 rfl (Nat.le_of_ble_eq_true rfl) dX6_readPlainOne_171 ⟨Nat.le_refl 0, Nat.le_refl 0⟩) X417 (fun t424 H lc q422 X423 => ?_)
            unfold po_X5_add at q422
            obtain ⟨q425, q426, q427⟩ := q422
            have F428 : Fr [(16, 1), (16, 2), (17, 4), (1, 3), (1, 4), (1, 5), (1, 7), (1, 8)] [18, 19, 20, 201] τ t424 := Fr_call F421 q426 (by decide)
            refine r_iconst S dX6_readPlainOne_174 (by decide) (fun v429 z430 => ?_)
            have r431 := R_eq z430
            exact r_ret S hr hlk X423 ⟨q425, F428, q427, (R_of r431 rfl)⟩ (nr_bool (R_of (lo := 0) (hi := 1) r431 rfl)) dX6_readPlainOne_175
          ·
            have r432 : R (0) (0) v405 := ⟨by omega, by omega⟩
            refine r_iconst S dX6_readPlainOne_59 (by decide) (fun v433 z434 => ?_)
            have r435 := R_eq z434
            exact r_ret S hr hlk X403 ⟨q406, F410, (YT_eq hYT (fun j => ((q407 18 j (by simp [fz])).trans ((M10.2 18 j (Or.inl (by decide))).trans rfl))) (fun j => ((q407 19 j (by simp [fz])).trans ((M10.2 19 j (Or.inl (by decide))).trans rfl)))), (R_of r435 rfl)⟩ (nr_bool (R_of (lo := 0) (hi := 1) r435 rfl)) dX6_readPlainOne_60
def po_X6_readOne_9 (τ : Tau)  (a0 : Int32)   (r : Int32) (u : Tau) : Prop := Inv u ∧ Fr [(16, 1), (16, 2), (17, 4), (1, 3), (1, 4), (1, 5), (1, 7), (1, 8), (16, 4)] [18, 19, 20] τ u ∧ YT u ∧ R (0) (1) r
set_option maxHeartbeats 4000000 in
set_option maxRecDepth 100000 in
theorem c_X6_readOne_9 (l : Launch) (G : Gx) (τ : Tau) (hI : Inv τ) (a0 : Int32) (h_a0 : R (9) (9) a0) (hf_0 : R (1) (1) (τ 16 5)) (hYT : YT τ) : Ci l G yX6_readOne cX6_readOne 3 (some .boolean) 3 61 [.ref (G.2.2.2.1 16), .int a0] τ (po_X6_readOne_9 τ  a0  ) := by
  unfold Ci
  refine C_of (own := RX6) (by decide) rfl (Nat.le_of_ble_eq_true rfl) ?_
  intro p e s m below meth c ls S hr hlk X hl
  have hl : lv_has ls 3 [(0, .ref (G.2.2.2.1 16)), (1, .int a0)] := hl
  obtain ⟨v1, z2⟩ : ∃ x, τ 16 5 = x := ⟨_, rfl⟩
  rw [z2] at hf_0
  refine r_aload_n S dX6_readOne_0 rfl (lv_at hl 0 rfl) ?_
  refine r_kw2 (q_V (As := []) (rest := []) (K := 16) (ci := 6) S X (c_X6_firstWord l G τ hI ) ck6_77 (Nat.le_of_ble_eq_true rfl) rfl (fun _ => ⟨_, rfl⟩) ⟨_, _, rfl⟩ ⟨Nat.le_of_ble_eq_true rfl, Nat.le_of_ble_eq_true rfl⟩ rfl hl.1 rfl (Nat.le_of_ble_eq_true rfl) dX6_readOne_1 ⟨Nat.le_refl 0, Nat.le_refl 0⟩) X (fun _ _ h => h.2) (fun y6 t5 H lc q3 X4 h7 => ?_) (fun y6 t5 H lc w8 q3 X4 h_w8 e9 => ?_)
  ·
    unfold po_X6_firstWord at q3
    obtain ⟨q10, q11⟩ := q3
    rw [q10] at X4
    refine lv_astore_nN (lv' := [(2, .null), (0, .ref (G.2.2.2.1 16)), (1, .int a0)]) S.1.1 S.1.2.1 dX6_readOne_4 rfl hl (by decide) rfl (fun ls hl => ?_)
    refine lv_aload_nN S.1.1 S.1.2.1 dX6_readOne_5 rfl (lv_at hl 0 rfl) ?_
    refine lv_ifnonnullN S.1.1 S.1.2.1 dX6_readOne_6 ?_
    refine r_aload_n S dX6_readOne_9 rfl (lv_at hl 1 rfl) ?_
    refine r_get (K := 16) (v := .ref (G.2.2.2.1 1)) S X4 (Nat.le_of_ble_eq_true rfl) rfl lk6_39_6 (fun _ => ⟨_, rfl, rfl⟩) dX6_readOne_10 ?_
    refine r_bipush S dX6_readOne_13 (by decide) (fun v12 z13 => ?_)
    have r14 := R_eq z13
    refine r_ki (q_V (As := [.int v12]) (rest := []) (K := 1) (ci := 7) S X4 (c_X7_isSigned l G τ hI v12 (R_of (lo := 0) (hi := 65535) r14 rfl)) ck6_81 (Nat.le_of_ble_eq_true rfl) rfl (fun _ => ⟨_, rfl⟩) ⟨_, _, rfl⟩ ⟨Nat.le_of_ble_eq_true rfl, Nat.le_of_ble_eq_true rfl⟩ rfl hl.1 rfl (Nat.le_of_ble_eq_true rfl) dX6_readOne_15 ⟨Nat.le_refl 0, Nat.le_refl 0⟩) X4 (fun v18 t17 H lc q15 X16 => ?_)
    unfold po_X7_isSigned at q15
    obtain ⟨q19, q20⟩ := q15
    rw [q19] at X16
    refine r_if_ne (tgt := 27) S dX6_readOne_18 (by decide) (fun c21 => ?_) (fun c21 => ?_)
    ·
      have r22 : R (1) (1) v18 := ⟨by omega, by omega⟩
      refine r_aload_n S dX6_readOne_27 rfl (lv_at hl 1 rfl) ?_
      refine r_getn (K := 16) S X16 (Nat.le_of_ble_eq_true rfl) rfl lk6_28_6 (fun _ => ⟨_, rfl, rfl⟩) dX6_readOne_28 (fun v23 z24 => ?_)
      have r25 : R (0) (20) v23 := rd hI rfl z24
      refine r_bipush S dX6_readOne_31 (by decide) (fun v26 z27 => ?_)
      have r28 := R_eq z27
      refine r_icmp_ge (tgt := 42) S dX6_readOne_33 (by decide) (fun c29 => ?_) (fun c29 => ?_)
      ·
        have r30 : R (20) (20) v23 := ⟨by omega, by omega⟩
        refine r_aload_n S dX6_readOne_42 rfl (lv_at hl 1 rfl) ?_
        refine r_iconst S dX6_readOne_43 (by decide) (fun v31 z32 => ?_)
        have r33 := R_eq z32
        refine r_ki (q_U (As := [.int v31]) (rest := []) (K := 16) (ci := 6) S X16 (c_X8_fail_16 l G τ hI v31 (R_of (lo := -2147483648) (hi := 2147483647) r33 rfl)) ck6_48_6 (Nat.le_of_ble_eq_true rfl) rfl (fun _ => ⟨_, rfl⟩) ⟨_, _, rfl⟩ ⟨Nat.le_of_ble_eq_true rfl, Nat.le_of_ble_eq_true rfl⟩ rfl hl.1 rfl (Nat.le_of_ble_eq_true rfl) dX6_readOne_44 ⟨Nat.le_refl 0, Nat.le_refl 0⟩) X16 (fun v37 t36 H lc q34 X35 => ?_)
        unfold po_X8_fail_16 at q34
        obtain ⟨q38, q39, q40⟩ := q34
        have F41 : Fr [(16, 1), (16, 2), (17, 4), (1, 3), (1, 4), (1, 5), (1, 7), (1, 8), (16, 4)] [18, 19, 20] τ t36 := Fr_call Fr_rfl q39 (by decide)
        exact r_ret S hr hlk X35 ⟨q38, F41, (YT_eq hYT (fun j => ((q39 18 j (by simp [fz])).trans rfl)) (fun j => ((q39 19 j (by simp [fz])).trans rfl))), (R_of q40 rfl)⟩ (nr_bool (R_of (lo := 0) (hi := 1) q40 rfl)) dX6_readOne_47
      ·
        have r42 : R (0) (19) v23 := ⟨by omega, by omega⟩
        refine r_iload_n S dX6_readOne_36 rfl (lv_at hl 2 rfl) ?_
        refine r_bipush S dX6_readOne_37 (by decide) (fun v43 z44 => ?_)
        have r45 := R_eq z44
        refine r_icmp_le (tgt := 48) S dX6_readOne_39 (by decide) (fun c46 => ?_) (fun c46 => ?_)
        ·
          exfalso; omega
        ·
          refine r_aload_n S dX6_readOne_42 rfl (lv_at hl 1 rfl) ?_
          refine r_iconst S dX6_readOne_43 (by decide) (fun v47 z48 => ?_)
          have r49 := R_eq z48
          refine r_ki (q_U (As := [.int v47]) (rest := []) (K := 16) (ci := 6) S X16 (c_X8_fail_16 l G τ hI v47 (R_of (lo := -2147483648) (hi := 2147483647) r49 rfl)) ck6_48_6 (Nat.le_of_ble_eq_true rfl) rfl (fun _ => ⟨_, rfl⟩) ⟨_, _, rfl⟩ ⟨Nat.le_of_ble_eq_true rfl, Nat.le_of_ble_eq_true rfl⟩ rfl hl.1 rfl (Nat.le_of_ble_eq_true rfl) dX6_readOne_44 ⟨Nat.le_refl 0, Nat.le_refl 0⟩) X16 (fun v53 t52 H lc q50 X51 => ?_)
          unfold po_X8_fail_16 at q50
          obtain ⟨q54, q55, q56⟩ := q50
          have F57 : Fr [(16, 1), (16, 2), (17, 4), (1, 3), (1, 4), (1, 5), (1, 7), (1, 8), (16, 4)] [18, 19, 20] τ t52 := Fr_call Fr_rfl q55 (by decide)
          exact r_ret S hr hlk X51 ⟨q54, F57, (YT_eq hYT (fun j => ((q55 18 j (by simp [fz])).trans rfl)) (fun j => ((q55 19 j (by simp [fz])).trans rfl))), (R_of q56 rfl)⟩ (nr_bool (R_of (lo := 0) (hi := 1) q56 rfl)) dX6_readOne_47
    ·
      have r58 : R (0) (0) v18 := ⟨by omega, by omega⟩
      refine r_aload_n S dX6_readOne_21 rfl (lv_at hl 1 rfl) ?_
      refine r_iconst S dX6_readOne_22 (by decide) (fun v59 z60 => ?_)
      have r61 := R_eq z60
      refine r_ki (q_U (As := [.int v59]) (rest := []) (K := 16) (ci := 6) S X16 (c_X8_fail_16 l G τ hI v59 (R_of (lo := -2147483648) (hi := 2147483647) r61 rfl)) ck6_48_6 (Nat.le_of_ble_eq_true rfl) rfl (fun _ => ⟨_, rfl⟩) ⟨_, _, rfl⟩ ⟨Nat.le_of_ble_eq_true rfl, Nat.le_of_ble_eq_true rfl⟩ rfl hl.1 rfl (Nat.le_of_ble_eq_true rfl) dX6_readOne_23 ⟨Nat.le_refl 0, Nat.le_refl 0⟩) X16 (fun v65 t64 H lc q62 X63 => ?_)
      unfold po_X8_fail_16 at q62
      obtain ⟨q66, q67, q68⟩ := q62
      have F69 : Fr [(16, 1), (16, 2), (17, 4), (1, 3), (1, 4), (1, 5), (1, 7), (1, 8), (16, 4)] [18, 19, 20] τ t64 := Fr_call Fr_rfl q67 (by decide)
      exact r_ret S hr hlk X63 ⟨q66, F69, (YT_eq hYT (fun j => ((q67 18 j (by simp [fz])).trans rfl)) (fun j => ((q67 19 j (by simp [fz])).trans rfl))), (R_of q68 rfl)⟩ (nr_bool (R_of (lo := 0) (hi := 1) q68 rfl)) dX6_readOne_26
  ·
    unfold po_X6_firstWord at q3
    obtain ⟨q70, q71⟩ := q3
    rw [q70] at X4
    refine r_astore_n (lv' := [(2, .ref (G.2.2.1 w8)), (0, .ref (G.2.2.2.1 16)), (1, .int a0)]) S dX6_readOne_4 rfl hl (by decide) rfl (fun ls hl => ?_)
    refine r_aload_n S dX6_readOne_5 rfl (lv_at hl 0 rfl) ?_
    refine lv_ifnonnull (tgt := 27) S.1.1 S.1.2.1 dX6_readOne_6 (by decide) ?_
    refine r_aload_n S dX6_readOne_27 rfl (lv_at hl 1 rfl) ?_
    refine r_getn (K := 16) S X4 (Nat.le_of_ble_eq_true rfl) rfl lk6_28_6 (fun _ => ⟨_, rfl, rfl⟩) dX6_readOne_28 (fun v72 z73 => ?_)
    have r74 : R (0) (20) v72 := rd hI rfl z73
    refine r_bipush S dX6_readOne_31 (by decide) (fun v75 z76 => ?_)
    have r77 := R_eq z76
    refine r_icmp_ge (tgt := 42) S dX6_readOne_33 (by decide) (fun c78 => ?_) (fun c78 => ?_)
    ·
      have r79 : R (20) (20) v72 := ⟨by omega, by omega⟩
      refine r_aload_n S dX6_readOne_42 rfl (lv_at hl 1 rfl) ?_
      refine r_iconst S dX6_readOne_43 (by decide) (fun v80 z81 => ?_)
      have r82 := R_eq z81
      refine r_ki (q_U (As := [.int v80]) (rest := []) (K := 16) (ci := 6) S X4 (c_X8_fail_16 l G τ hI v80 (R_of (lo := -2147483648) (hi := 2147483647) r82 rfl)) ck6_48_6 (Nat.le_of_ble_eq_true rfl) rfl (fun _ => ⟨_, rfl⟩) ⟨_, _, rfl⟩ ⟨Nat.le_of_ble_eq_true rfl, Nat.le_of_ble_eq_true rfl⟩ rfl hl.1 rfl (Nat.le_of_ble_eq_true rfl) dX6_readOne_44 ⟨Nat.le_refl 0, Nat.le_refl 0⟩) X4 (fun v86 t85 H lc q83 X84 => ?_)
      unfold po_X8_fail_16 at q83
      obtain ⟨q87, q88, q89⟩ := q83
      have F90 : Fr [(16, 1), (16, 2), (17, 4), (1, 3), (1, 4), (1, 5), (1, 7), (1, 8), (16, 4)] [18, 19, 20] τ t85 := Fr_call Fr_rfl q88 (by decide)
      exact r_ret S hr hlk X84 ⟨q87, F90, (YT_eq hYT (fun j => ((q88 18 j (by simp [fz])).trans rfl)) (fun j => ((q88 19 j (by simp [fz])).trans rfl))), (R_of q89 rfl)⟩ (nr_bool (R_of (lo := 0) (hi := 1) q89 rfl)) dX6_readOne_47
    ·
      have r91 : R (0) (19) v72 := ⟨by omega, by omega⟩
      refine r_iload_n S dX6_readOne_36 rfl (lv_at hl 2 rfl) ?_
      refine r_bipush S dX6_readOne_37 (by decide) (fun v92 z93 => ?_)
      have r94 := R_eq z93
      refine r_icmp_le (tgt := 48) S dX6_readOne_39 (by decide) (fun c95 => ?_) (fun c95 => ?_)
      ·
        exfalso; omega
      ·
        refine r_aload_n S dX6_readOne_42 rfl (lv_at hl 1 rfl) ?_
        refine r_iconst S dX6_readOne_43 (by decide) (fun v96 z97 => ?_)
        have r98 := R_eq z97
        refine r_ki (q_U (As := [.int v96]) (rest := []) (K := 16) (ci := 6) S X4 (c_X8_fail_16 l G τ hI v96 (R_of (lo := -2147483648) (hi := 2147483647) r98 rfl)) ck6_48_6 (Nat.le_of_ble_eq_true rfl) rfl (fun _ => ⟨_, rfl⟩) ⟨_, _, rfl⟩ ⟨Nat.le_of_ble_eq_true rfl, Nat.le_of_ble_eq_true rfl⟩ rfl hl.1 rfl (Nat.le_of_ble_eq_true rfl) dX6_readOne_44 ⟨Nat.le_refl 0, Nat.le_refl 0⟩) X4 (fun v102 t101 H lc q99 X100 => ?_)
        unfold po_X8_fail_16 at q99
        obtain ⟨q103, q104, q105⟩ := q99
        have F106 : Fr [(16, 1), (16, 2), (17, 4), (1, 3), (1, 4), (1, 5), (1, 7), (1, 8), (16, 4)] [18, 19, 20] τ t101 := Fr_call Fr_rfl q104 (by decide)
        exact r_ret S hr hlk X100 ⟨q103, F106, (YT_eq hYT (fun j => ((q104 18 j (by simp [fz])).trans rfl)) (fun j => ((q104 19 j (by simp [fz])).trans rfl))), (R_of q105 rfl)⟩ (nr_bool (R_of (lo := 0) (hi := 1) q105 rfl)) dX6_readOne_47
def po_X6_readAll_9 (τ : Tau)  (a0 : Int32)   (r : Int32) (u : Tau) : Prop := Inv u ∧ Fr [(16, 1), (16, 2), (17, 4), (1, 3), (1, 4), (1, 5), (1, 7), (1, 8), (16, 4)] [18, 19, 20, 201] τ u ∧ YT u ∧ R (0) (1) r
set_option maxHeartbeats 4000000 in
set_option maxRecDepth 100000 in
theorem c_X6_readAll_9 (l : Launch) (G : Gx) (τ : Tau) (hI : Inv τ) (a0 : Int32) (h_a0 : R (9) (9) a0) (hf_0 : R (1) (1) (τ 16 5)) (hYT : YT τ) : Ci l G yX6_readAll cX6_readAll 3 (some .boolean) 4 83 [.ref (G.2.2.2.1 16), .int a0] τ (po_X6_readAll_9 τ  a0  ) := by
  unfold Ci
  refine C_of (own := RX6) (by decide) rfl (Nat.le_of_ble_eq_true rfl) ?_
  intro p e s m below meth c ls S hr hlk X hl
  have hl : lv_has ls 3 [(0, .ref (G.2.2.2.1 16)), (1, .int a0)] := hl
  obtain ⟨v1, z2⟩ : ∃ x, τ 16 5 = x := ⟨_, rfl⟩
  rw [z2] at hf_0
  refine r_aload_n S dX6_readAll_0 rfl (lv_at hl 0 rfl) ?_
  refine r_iload_n S dX6_readAll_1 rfl (lv_at hl 1 rfl) ?_
  refine r_ki (q_V (As := [.int a0]) (rest := []) (K := 16) (ci := 6) S X (c_X6_readOne_9 l G τ hI a0 h_a0 (by rw [z2]; exact R_of hf_0 rfl) hYT) ck6_71 (Nat.le_of_ble_eq_true rfl) rfl (fun _ => ⟨_, rfl⟩) ⟨_, _, rfl⟩ ⟨Nat.le_of_ble_eq_true rfl, Nat.le_of_ble_eq_true rfl⟩ rfl hl.1 rfl (Nat.le_of_ble_eq_true rfl) dX6_readAll_2 ⟨Nat.le_refl 0, Nat.le_refl 0⟩) X (fun v6 t5 H lc q3 X4 => ?_)
  unfold po_X6_readOne_9 at q3
  obtain ⟨q7, q8, q9, q10⟩ := q3
  have F11 : Fr [(16, 1), (16, 2), (17, 4), (1, 3), (1, 4), (1, 5), (1, 7), (1, 8), (16, 4)] [18, 19, 20, 201] τ t5 := Fr_call Fr_rfl q8 (by decide)
  refine r_if_ne (tgt := 10) S dX6_readAll_5 (by decide) (fun c12 => ?_) (fun c12 => ?_)
  ·
    have r13 : R (1) (1) v6 := ⟨by omega, by omega⟩
    refine r_iconst S dX6_readAll_10 (by decide) (fun v14 z15 => ?_)
    have r16 := R_eq z15
    refine r_istore_n (lv' := [(2, .int v14), (0, .ref (G.2.2.2.1 16)), (1, .int a0)]) S dX6_readAll_11 rfl hl (by decide) rfl (fun ls hl => ?_)
    have L660 : ∀ (n : Nat) (t654 : Tau) (H : Heap) (lc : List Loc) (ls : Array Slot) (i652 : Int32), Xd G s H lc t654 → Inv t654 → Fr [(16, 1), (16, 2), (17, 4), (1, 3), (1, 4), (1, 5), (1, 7), (1, 8), (16, 4)] [18, 19, 20, 201] τ t654 → YT t654 → R (0) (24) i652 → t654 16 5 = v1 → lv_has ls 3 [(0, .ref (G.2.2.2.1 16)), (1, .int a0), (2, .int i652)] → (24 - i652.toInt).toNat < n → W p l e (Rm 4 83) s m ([.ref (G.2.2.2.1 16), .int a0] : List Value).toArray below meth c H lc 0 0 (MQ below (va_Qi (po_X6_readAll_9 τ  a0  ) (Bs G) G.2.2.2.2) ([.ref (G.2.2.2.1 16), .int a0] : List Value).toArray s 0 0 G.2.2.2.2) (F0 m 12 ls []) := by
      intro n
      induction n with
      | zero => intros; omega
      | succ n ih661 =>
        intro t654 H lc ls i652 X658 I655 F656 hYT657 r653 z659 hl hm
        refine r_iload_n S dX6_readAll_12 rfl (lv_at hl 2 rfl) ?_
        refine r_bipush S dX6_readAll_13 (by decide) (fun v662 z663 => ?_)
        have r664 := R_eq z663
        refine r_icmp_gt (tgt := 66) S dX6_readAll_15 (by decide) (fun c665 => ?_) (fun c665 => ?_)
        ·
          have r666 : R (21) (24) i652 := ⟨by omega, by omega⟩
          refine r_iconst S dX6_readAll_66 (by decide) (fun v667 z668 => ?_)
          have r669 := R_eq z668
          exact r_ret S hr hlk X658 ⟨I655, F656, hYT657, (R_of r669 rfl)⟩ (nr_bool (R_of (lo := 0) (hi := 1) r669 rfl)) dX6_readAll_67
        ·
          have r670 : R (0) (20) i652 := ⟨by omega, by omega⟩
          refine r_aload_n S dX6_readAll_18 rfl (lv_at hl 0 rfl) ?_
          refine r_get (K := 16) (v := .ref (G.2.2.2.1 1)) S X658 (Nat.le_of_ble_eq_true rfl) rfl lk6_39_6 (fun _ => ⟨_, rfl, rfl⟩) dX6_readAll_19 ?_
          refine r_wst (i := 14) S X658 (by decide) kw81 dX6_readAll_22 ?_
          refine r_ki (q_V (As := [.ref (G.2.2.1 14)]) (rest := []) (K := 1) (ci := 7) S X658 (c_X7_is l G t654 I655 14 (by decide)) ck6_60 (Nat.le_of_ble_eq_true rfl) rfl (fun _ => ⟨_, rfl⟩) ⟨_, _, rfl⟩ ⟨Nat.le_of_ble_eq_true rfl, Nat.le_of_ble_eq_true rfl⟩ rfl hl.1 rfl (Nat.le_of_ble_eq_true rfl) dX6_readAll_25 ⟨Nat.le_refl 0, Nat.le_refl 0⟩) X658 (fun v674 t673 H lc q671 X672 => ?_)
          unfold po_X7_is at q671
          obtain ⟨q675, q676⟩ := q671
          rw [q675] at X672
          refine r_if_eq (tgt := 66) S dX6_readAll_28 (by decide) (fun c677 => ?_) (fun c677 => ?_)
          ·
            have r678 : R (0) (0) v674 := ⟨by omega, by omega⟩
            refine r_iconst S dX6_readAll_66 (by decide) (fun v679 z680 => ?_)
            have r681 := R_eq z680
            exact r_ret S hr hlk X672 ⟨I655, F656, hYT657, (R_of r681 rfl)⟩ (nr_bool (R_of (lo := 0) (hi := 1) r681 rfl)) dX6_readAll_67
          ·
            have r682 : R (1) (1) v674 := ⟨by omega, by omega⟩
            refine r_aload_n S dX6_readAll_31 rfl (lv_at hl 0 rfl) ?_
            refine r_get (K := 16) (v := .ref (G.2.2.2.1 1)) S X672 (Nat.le_of_ble_eq_true rfl) rfl lk6_39_6 (fun _ => ⟨_, rfl, rfl⟩) dX6_readAll_32 ?_
            refine r_kv (q_V (As := []) (rest := []) (K := 1) (ci := 7) S X672 (c_X7_step l G t654 I655 ) ck6_64 (Nat.le_of_ble_eq_true rfl) rfl (fun _ => ⟨_, rfl⟩) ⟨_, _, rfl⟩ ⟨Nat.le_of_ble_eq_true rfl, Nat.le_of_ble_eq_true rfl⟩ rfl hl.1 rfl (Nat.le_of_ble_eq_true rfl) dX6_readAll_35 ⟨Nat.le_refl 0, Nat.le_refl 0⟩) X672 (fun t685 H lc q683 X684 => ?_)
            unfold po_X7_step at q683
            obtain ⟨q686, q687⟩ := q683
            have F688 : Fr [(16, 1), (16, 2), (17, 4), (1, 3), (1, 4), (1, 5), (1, 7), (1, 8), (16, 4)] [18, 19, 20, 201] τ t685 := Fr_call F656 q687 (by decide)
            refine r_aload_n S dX6_readAll_38 rfl (lv_at hl 0 rfl) ?_
            refine r_iload_n S dX6_readAll_39 rfl (lv_at hl 1 rfl) ?_
            refine r_ki (q_V (As := [.int a0]) (rest := []) (K := 16) (ci := 6) S X684 (c_X6_readOne_9 l G t685 q686 a0 h_a0 (by rw [((q687 16 5 (by decide)).trans z659)]; exact R_of hf_0 rfl) (YT_eq hYT657 (fun j => ((q687 18 j (by simp [fz])).trans rfl)) (fun j => ((q687 19 j (by simp [fz])).trans rfl)))) ck6_71 (Nat.le_of_ble_eq_true rfl) rfl (fun _ => ⟨_, rfl⟩) ⟨_, _, rfl⟩ ⟨Nat.le_of_ble_eq_true rfl, Nat.le_of_ble_eq_true rfl⟩ rfl hl.1 rfl (Nat.le_of_ble_eq_true rfl) dX6_readAll_40 ⟨Nat.le_refl 0, Nat.le_refl 0⟩) X684 (fun v692 t691 H lc q689 X690 => ?_)
            unfold po_X6_readOne_9 at q689
            obtain ⟨q693, q694, q695, q696⟩ := q689
            have F697 : Fr [(16, 1), (16, 2), (17, 4), (1, 3), (1, 4), (1, 5), (1, 7), (1, 8), (16, 4)] [18, 19, 20, 201] τ t691 := Fr_call F688 q694 (by decide)
            refine r_if_ne (tgt := 48) S dX6_readAll_43 (by decide) (fun c698 => ?_) (fun c698 => ?_)
            ·
              have r699 : R (1) (1) v692 := ⟨by omega, by omega⟩
              refine r_aload_n S dX6_readAll_48 rfl (lv_at hl 0 rfl) ?_
              refine r_get (K := 16) (v := .ref (G.2.2.2.1 17)) S X690 (Nat.le_of_ble_eq_true rfl) rfl lk6_14_6 (fun _ => ⟨_, rfl, rfl⟩) dX6_readAll_49 ?_
              refine r_wst (i := 14) S X690 (by decide) kw81 dX6_readAll_52 ?_
              refine r_iconst S dX6_readAll_55 (by decide) (fun v700 z701 => ?_)
              have r702 := R_eq z701
              refine r_iconst S dX6_readAll_56 (by decide) (fun v703 z704 => ?_)
              have r705 := R_eq z704
              refine r_kv (q_V (As := [.ref (G.2.2.1 14), .int v700, .int v703]) (rest := []) (K := 17) (ci := 5) S X690 (c_X5_add l G t691 q693 14 (by decide) v700 v703 (R_of (lo := -2147483648) (hi := 2147483647) r702 rfl) (R_of (lo := 0) (hi := 99) r705 rfl) q695 (by omega)) ck6_67 (Nat.le_of_ble_eq_true rfl) rfl (fun _ => ⟨_, rfl⟩) ⟨_, _, rfl⟩ ⟨Nat.le_of_ble_eq_true rfl, Nat.le_of_ble_eq_true rfl⟩ rfl hl.1 rfl (Nat.le_of_ble_eq_true rfl) dX6_readAll_57 ⟨Nat.le_refl 0, Nat.le_refl 0⟩) X690 (fun t708 H lc q706 X707 => ?_)
              unfold po_X5_add at q706
              obtain ⟨q709, q710, q711⟩ := q706
              have F712 : Fr [(16, 1), (16, 2), (17, 4), (1, 3), (1, 4), (1, 5), (1, 7), (1, 8), (16, 4)] [18, 19, 20, 201] τ t708 := Fr_call F697 q710 (by decide)
              refine r_iinc (k := 2) S dX6_readAll_60 hl rfl (by decide) (by decide) (fun v713 d714 ls z715 z716 hl => ?_)
              obtain ⟨e717, r718⟩ := i_add (lo := 1) (hi := 21) z715 r670 (R_eq z716) rfl
              have hl : lv_has ls 3 [(2, .int v713), (0, .ref (G.2.2.2.1 16)), (1, .int a0)] := hl
              refine r_goto (tgt := 12) S dX6_readAll_63 (by decide) ?_
              exact ih661 t708 _ _ _ v713 X707 q709 F712 q711 (R_of r718 rfl) ((q710 16 5 (by decide)).trans ((q694 16 5 (by decide)).trans ((q687 16 5 (by decide)).trans z659))) (lv_sub hl [1, 2, 0] rfl) (by omega)
            ·
              have r719 : R (0) (0) v692 := ⟨by omega, by omega⟩
              refine r_iconst S dX6_readAll_46 (by decide) (fun v720 z721 => ?_)
              have r722 := R_eq z721
              exact r_ret S hr hlk X690 ⟨q693, F697, q695, (R_of r722 rfl)⟩ (nr_bool (R_of (lo := 0) (hi := 1) r722 rfl)) dX6_readAll_47
    exact L660 _ t5 _ _ _ v14 X4 q7 F11 q9 (R_of r16 rfl) ((q8 16 5 (by decide)).trans z2) (lv_sub hl [1, 2, 0] rfl) (Nat.lt_succ_self _)
  ·
    have r723 : R (0) (0) v6 := ⟨by omega, by omega⟩
    refine r_iconst S dX6_readAll_8 (by decide) (fun v724 z725 => ?_)
    have r726 := R_eq z725
    exact r_ret S hr hlk X4 ⟨q7, F11, q9, (R_of r726 rfl)⟩ (nr_bool (R_of (lo := 0) (hi := 1) r726 rfl)) dX6_readAll_9
def po_X6_readCond_9 (τ : Tau)  (a0 : Int32)   (r : Int32) (u : Tau) : Prop := Inv u ∧ Fr [(16, 1), (16, 2), (17, 4), (1, 3), (1, 4), (1, 5), (1, 7), (1, 8), (16, 4)] [18, 19, 20, 201] τ u ∧ YT u ∧ R (0) (1) r
set_option maxHeartbeats 4000000 in
set_option maxRecDepth 100000 in
theorem c_X6_readCond_9 (l : Launch) (G : Gx) (τ : Tau) (hI : Inv τ) (a0 : Int32) (h_a0 : R (9) (9) a0) (hf_0 : R (1) (1) (τ 16 5)) (hYT : YT τ) : Ci l G yX6_readCond cX6_readCond 3 (some .boolean) 5 105 [.ref (G.2.2.2.1 16), .int a0] τ (po_X6_readCond_9 τ  a0  ) := by
  unfold Ci
  refine C_of (own := RX6) (by decide) rfl (Nat.le_of_ble_eq_true rfl) ?_
  intro p e s m below meth c ls S hr hlk X hl
  have hl : lv_has ls 3 [(0, .ref (G.2.2.2.1 16)), (1, .int a0)] := hl
  obtain ⟨v1, z2⟩ : ∃ x, τ 16 5 = x := ⟨_, rfl⟩
  rw [z2] at hf_0
  refine r_aload_n S dX6_readCond_0 rfl (lv_at hl 0 rfl) ?_
  refine r_iload_n S dX6_readCond_1 rfl (lv_at hl 1 rfl) ?_
  refine r_ki (q_V (As := [.int a0]) (rest := []) (K := 16) (ci := 6) S X (c_X6_readAll_9 l G τ hI a0 h_a0 (by rw [z2]; exact R_of hf_0 rfl) hYT) ck6_51 (Nat.le_of_ble_eq_true rfl) rfl (fun _ => ⟨_, rfl⟩) ⟨_, _, rfl⟩ ⟨Nat.le_of_ble_eq_true rfl, Nat.le_of_ble_eq_true rfl⟩ rfl hl.1 rfl (Nat.le_of_ble_eq_true rfl) dX6_readCond_2 ⟨Nat.le_refl 0, Nat.le_refl 0⟩) X (fun v6 t5 H lc q3 X4 => ?_)
  unfold po_X6_readAll_9 at q3
  obtain ⟨q7, q8, q9, q10⟩ := q3
  have F11 : Fr [(16, 1), (16, 2), (17, 4), (1, 3), (1, 4), (1, 5), (1, 7), (1, 8), (16, 4)] [18, 19, 20, 201] τ t5 := Fr_call Fr_rfl q8 (by decide)
  refine r_if_ne (tgt := 10) S dX6_readCond_5 (by decide) (fun c12 => ?_) (fun c12 => ?_)
  ·
    have r13 : R (1) (1) v6 := ⟨by omega, by omega⟩
    refine r_iconst S dX6_readCond_10 (by decide) (fun v14 z15 => ?_)
    have r16 := R_eq z15
    refine r_istore_n (lv' := [(2, .int v14), (0, .ref (G.2.2.2.1 16)), (1, .int a0)]) S dX6_readCond_11 rfl hl (by decide) rfl (fun ls hl => ?_)
    have L660 : ∀ (n : Nat) (t654 : Tau) (H : Heap) (lc : List Loc) (ls : Array Slot) (i652 : Int32), Xd G s H lc t654 → Inv t654 → Fr [(16, 1), (16, 2), (17, 4), (1, 3), (1, 4), (1, 5), (1, 7), (1, 8), (16, 4)] [18, 19, 20, 201] τ t654 → YT t654 → R (0) (24) i652 → t654 16 5 = v1 → lv_has ls 3 [(0, .ref (G.2.2.2.1 16)), (1, .int a0), (2, .int i652)] → (24 - i652.toInt).toNat < n → W p l e (Rm 5 105) s m ([.ref (G.2.2.2.1 16), .int a0] : List Value).toArray below meth c H lc 0 0 (MQ below (va_Qi (po_X6_readCond_9 τ  a0  ) (Bs G) G.2.2.2.2) ([.ref (G.2.2.2.1 16), .int a0] : List Value).toArray s 0 0 G.2.2.2.2) (F0 m 12 ls []) := by
      intro n
      induction n with
      | zero => intros; omega
      | succ n ih661 =>
        intro t654 H lc ls i652 X658 I655 F656 hYT657 r653 z659 hl hm
        refine r_iload_n S dX6_readCond_12 rfl (lv_at hl 2 rfl) ?_
        refine r_bipush S dX6_readCond_13 (by decide) (fun v662 z663 => ?_)
        have r664 := R_eq z663
        refine r_icmp_gt (tgt := 66) S dX6_readCond_15 (by decide) (fun c665 => ?_) (fun c665 => ?_)
        ·
          have r666 : R (21) (24) i652 := ⟨by omega, by omega⟩
          refine r_iconst S dX6_readCond_66 (by decide) (fun v667 z668 => ?_)
          have r669 := R_eq z668
          exact r_ret S hr hlk X658 ⟨I655, F656, hYT657, (R_of r669 rfl)⟩ (nr_bool (R_of (lo := 0) (hi := 1) r669 rfl)) dX6_readCond_67
        ·
          have r670 : R (0) (20) i652 := ⟨by omega, by omega⟩
          refine r_aload_n S dX6_readCond_18 rfl (lv_at hl 0 rfl) ?_
          refine r_get (K := 16) (v := .ref (G.2.2.2.1 1)) S X658 (Nat.le_of_ble_eq_true rfl) rfl lk6_39_6 (fun _ => ⟨_, rfl, rfl⟩) dX6_readCond_19 ?_
          refine r_wst (i := 13) S X658 (by decide) kw82 dX6_readCond_22 ?_
          refine r_ki (q_V (As := [.ref (G.2.2.1 13)]) (rest := []) (K := 1) (ci := 7) S X658 (c_X7_is l G t654 I655 13 (by decide)) ck6_60 (Nat.le_of_ble_eq_true rfl) rfl (fun _ => ⟨_, rfl⟩) ⟨_, _, rfl⟩ ⟨Nat.le_of_ble_eq_true rfl, Nat.le_of_ble_eq_true rfl⟩ rfl hl.1 rfl (Nat.le_of_ble_eq_true rfl) dX6_readCond_25 ⟨Nat.le_refl 0, Nat.le_refl 0⟩) X658 (fun v674 t673 H lc q671 X672 => ?_)
          unfold po_X7_is at q671
          obtain ⟨q675, q676⟩ := q671
          rw [q675] at X672
          refine r_if_eq (tgt := 66) S dX6_readCond_28 (by decide) (fun c677 => ?_) (fun c677 => ?_)
          ·
            have r678 : R (0) (0) v674 := ⟨by omega, by omega⟩
            refine r_iconst S dX6_readCond_66 (by decide) (fun v679 z680 => ?_)
            have r681 := R_eq z680
            exact r_ret S hr hlk X672 ⟨I655, F656, hYT657, (R_of r681 rfl)⟩ (nr_bool (R_of (lo := 0) (hi := 1) r681 rfl)) dX6_readCond_67
          ·
            have r682 : R (1) (1) v674 := ⟨by omega, by omega⟩
            refine r_aload_n S dX6_readCond_31 rfl (lv_at hl 0 rfl) ?_
            refine r_get (K := 16) (v := .ref (G.2.2.2.1 1)) S X672 (Nat.le_of_ble_eq_true rfl) rfl lk6_39_6 (fun _ => ⟨_, rfl, rfl⟩) dX6_readCond_32 ?_
            refine r_kv (q_V (As := []) (rest := []) (K := 1) (ci := 7) S X672 (c_X7_step l G t654 I655 ) ck6_64 (Nat.le_of_ble_eq_true rfl) rfl (fun _ => ⟨_, rfl⟩) ⟨_, _, rfl⟩ ⟨Nat.le_of_ble_eq_true rfl, Nat.le_of_ble_eq_true rfl⟩ rfl hl.1 rfl (Nat.le_of_ble_eq_true rfl) dX6_readCond_35 ⟨Nat.le_refl 0, Nat.le_refl 0⟩) X672 (fun t685 H lc q683 X684 => ?_)
            unfold po_X7_step at q683
            obtain ⟨q686, q687⟩ := q683
            have F688 : Fr [(16, 1), (16, 2), (17, 4), (1, 3), (1, 4), (1, 5), (1, 7), (1, 8), (16, 4)] [18, 19, 20, 201] τ t685 := Fr_call F656 q687 (by decide)
            refine r_aload_n S dX6_readCond_38 rfl (lv_at hl 0 rfl) ?_
            refine r_iload_n S dX6_readCond_39 rfl (lv_at hl 1 rfl) ?_
            refine r_ki (q_V (As := [.int a0]) (rest := []) (K := 16) (ci := 6) S X684 (c_X6_readAll_9 l G t685 q686 a0 h_a0 (by rw [((q687 16 5 (by decide)).trans z659)]; exact R_of hf_0 rfl) (YT_eq hYT657 (fun j => ((q687 18 j (by simp [fz])).trans rfl)) (fun j => ((q687 19 j (by simp [fz])).trans rfl)))) ck6_51 (Nat.le_of_ble_eq_true rfl) rfl (fun _ => ⟨_, rfl⟩) ⟨_, _, rfl⟩ ⟨Nat.le_of_ble_eq_true rfl, Nat.le_of_ble_eq_true rfl⟩ rfl hl.1 rfl (Nat.le_of_ble_eq_true rfl) dX6_readCond_40 ⟨Nat.le_refl 0, Nat.le_refl 0⟩) X684 (fun v692 t691 H lc q689 X690 => ?_)
            unfold po_X6_readAll_9 at q689
            obtain ⟨q693, q694, q695, q696⟩ := q689
            have F697 : Fr [(16, 1), (16, 2), (17, 4), (1, 3), (1, 4), (1, 5), (1, 7), (1, 8), (16, 4)] [18, 19, 20, 201] τ t691 := Fr_call F688 q694 (by decide)
            refine r_if_ne (tgt := 48) S dX6_readCond_43 (by decide) (fun c698 => ?_) (fun c698 => ?_)
            ·
              have r699 : R (1) (1) v692 := ⟨by omega, by omega⟩
              refine r_aload_n S dX6_readCond_48 rfl (lv_at hl 0 rfl) ?_
              refine r_get (K := 16) (v := .ref (G.2.2.2.1 17)) S X690 (Nat.le_of_ble_eq_true rfl) rfl lk6_14_6 (fun _ => ⟨_, rfl, rfl⟩) dX6_readCond_49 ?_
              refine r_wst (i := 13) S X690 (by decide) kw82 dX6_readCond_52 ?_
              refine r_iconst S dX6_readCond_55 (by decide) (fun v700 z701 => ?_)
              have r702 := R_eq z701
              refine r_iconst S dX6_readCond_56 (by decide) (fun v703 z704 => ?_)
              have r705 := R_eq z704
              refine r_kv (q_V (As := [.ref (G.2.2.1 13), .int v700, .int v703]) (rest := []) (K := 17) (ci := 5) S X690 (c_X5_add l G t691 q693 13 (by decide) v700 v703 (R_of (lo := -2147483648) (hi := 2147483647) r702 rfl) (R_of (lo := 0) (hi := 99) r705 rfl) q695 (by omega)) ck6_67 (Nat.le_of_ble_eq_true rfl) rfl (fun _ => ⟨_, rfl⟩) ⟨_, _, rfl⟩ ⟨Nat.le_of_ble_eq_true rfl, Nat.le_of_ble_eq_true rfl⟩ rfl hl.1 rfl (Nat.le_of_ble_eq_true rfl) dX6_readCond_57 ⟨Nat.le_refl 0, Nat.le_refl 0⟩) X690 (fun t708 H lc q706 X707 => ?_)
              unfold po_X5_add at q706
              obtain ⟨q709, q710, q711⟩ := q706
              have F712 : Fr [(16, 1), (16, 2), (17, 4), (1, 3), (1, 4), (1, 5), (1, 7), (1, 8), (16, 4)] [18, 19, 20, 201] τ t708 := Fr_call F697 q710 (by decide)
              refine r_iinc (k := 2) S dX6_readCond_60 hl rfl (by decide) (by decide) (fun v713 d714 ls z715 z716 hl => ?_)
              obtain ⟨e717, r718⟩ := i_add (lo := 1) (hi := 21) z715 r670 (R_eq z716) rfl
              have hl : lv_has ls 3 [(2, .int v713), (0, .ref (G.2.2.2.1 16)), (1, .int a0)] := hl
              refine r_goto (tgt := 12) S dX6_readCond_63 (by decide) ?_
              exact ih661 t708 _ _ _ v713 X707 q709 F712 q711 (R_of r718 rfl) ((q710 16 5 (by decide)).trans ((q694 16 5 (by decide)).trans ((q687 16 5 (by decide)).trans z659))) (lv_sub hl [1, 2, 0] rfl) (by omega)
            ·
              have r719 : R (0) (0) v692 := ⟨by omega, by omega⟩
              refine r_iconst S dX6_readCond_46 (by decide) (fun v720 z721 => ?_)
              have r722 := R_eq z721
              exact r_ret S hr hlk X690 ⟨q693, F697, q695, (R_of r722 rfl)⟩ (nr_bool (R_of (lo := 0) (hi := 1) r722 rfl)) dX6_readCond_47
    exact L660 _ t5 _ _ _ v14 X4 q7 F11 q9 (R_of r16 rfl) ((q8 16 5 (by decide)).trans z2) (lv_sub hl [1, 2, 0] rfl) (Nat.lt_succ_self _)
  ·
    have r723 : R (0) (0) v6 := ⟨by omega, by omega⟩
    refine r_iconst S dX6_readCond_8 (by decide) (fun v724 z725 => ?_)
    have r726 := R_eq z725
    exact r_ret S hr hlk X4 ⟨q7, F11, q9, (R_of r726 rfl)⟩ (nr_bool (R_of (lo := 0) (hi := 1) r726 rfl)) dX6_readCond_9
def po_X6_readOne_8 (τ : Tau)  (a0 : Int32)   (r : Int32) (u : Tau) : Prop := Inv u ∧ Fr [(16, 1), (16, 2), (17, 4), (1, 3), (1, 4), (1, 5), (1, 7), (1, 8), (16, 4)] [18, 19, 20, 201] τ u ∧ YT u ∧ R (0) (1) r
set_option maxHeartbeats 4000000 in
set_option maxRecDepth 100000 in
theorem c_X6_readOne_8 (l : Launch) (G : Gx) (τ : Tau) (hI : Inv τ) (a0 : Int32) (h_a0 : R (8) (8) a0) (hf_0 : R (1) (1) (τ 16 5)) (hYT : YT τ) : Ci l G yX6_readOne cX6_readOne 3 (some .boolean) 6 127 [.ref (G.2.2.2.1 16), .int a0] τ (po_X6_readOne_8 τ  a0  ) := by
  unfold Ci
  refine C_of (own := RX6) (by decide) rfl (Nat.le_of_ble_eq_true rfl) ?_
  intro p e s m below meth c ls S hr hlk X hl
  have hl : lv_has ls 3 [(0, .ref (G.2.2.2.1 16)), (1, .int a0)] := hl
  obtain ⟨v1, z2⟩ : ∃ x, τ 16 5 = x := ⟨_, rfl⟩
  rw [z2] at hf_0
  refine r_aload_n S dX6_readOne_0 rfl (lv_at hl 0 rfl) ?_
  refine r_kw2 (q_V (As := []) (rest := []) (K := 16) (ci := 6) S X (c_X6_firstWord l G τ hI ) ck6_77 (Nat.le_of_ble_eq_true rfl) rfl (fun _ => ⟨_, rfl⟩) ⟨_, _, rfl⟩ ⟨Nat.le_of_ble_eq_true rfl, Nat.le_of_ble_eq_true rfl⟩ rfl hl.1 rfl (Nat.le_of_ble_eq_true rfl) dX6_readOne_1 ⟨Nat.le_refl 0, Nat.le_refl 0⟩) X (fun _ _ h => h.2) (fun y6 t5 H lc q3 X4 h7 => ?_) (fun y6 t5 H lc w8 q3 X4 h_w8 e9 => ?_)
  ·
    unfold po_X6_firstWord at q3
    obtain ⟨q10, q11⟩ := q3
    rw [q10] at X4
    refine lv_astore_nN (lv' := [(2, .null), (0, .ref (G.2.2.2.1 16)), (1, .int a0)]) S.1.1 S.1.2.1 dX6_readOne_4 rfl hl (by decide) rfl (fun ls hl => ?_)
    refine lv_aload_nN S.1.1 S.1.2.1 dX6_readOne_5 rfl (lv_at hl 0 rfl) ?_
    refine lv_ifnonnullN S.1.1 S.1.2.1 dX6_readOne_6 ?_
    refine r_aload_n S dX6_readOne_9 rfl (lv_at hl 1 rfl) ?_
    refine r_get (K := 16) (v := .ref (G.2.2.2.1 1)) S X4 (Nat.le_of_ble_eq_true rfl) rfl lk6_39_6 (fun _ => ⟨_, rfl, rfl⟩) dX6_readOne_10 ?_
    refine r_bipush S dX6_readOne_13 (by decide) (fun v12 z13 => ?_)
    have r14 := R_eq z13
    refine r_ki (q_V (As := [.int v12]) (rest := []) (K := 1) (ci := 7) S X4 (c_X7_isSigned l G τ hI v12 (R_of (lo := 0) (hi := 65535) r14 rfl)) ck6_81 (Nat.le_of_ble_eq_true rfl) rfl (fun _ => ⟨_, rfl⟩) ⟨_, _, rfl⟩ ⟨Nat.le_of_ble_eq_true rfl, Nat.le_of_ble_eq_true rfl⟩ rfl hl.1 rfl (Nat.le_of_ble_eq_true rfl) dX6_readOne_15 ⟨Nat.le_refl 0, Nat.le_refl 0⟩) X4 (fun v18 t17 H lc q15 X16 => ?_)
    unfold po_X7_isSigned at q15
    obtain ⟨q19, q20⟩ := q15
    rw [q19] at X16
    refine r_if_ne (tgt := 27) S dX6_readOne_18 (by decide) (fun c21 => ?_) (fun c21 => ?_)
    ·
      have r22 : R (1) (1) v18 := ⟨by omega, by omega⟩
      refine r_aload_n S dX6_readOne_27 rfl (lv_at hl 1 rfl) ?_
      refine r_getn (K := 16) S X16 (Nat.le_of_ble_eq_true rfl) rfl lk6_28_6 (fun _ => ⟨_, rfl, rfl⟩) dX6_readOne_28 (fun v23 z24 => ?_)
      have r25 : R (0) (20) v23 := rd hI rfl z24
      refine r_bipush S dX6_readOne_31 (by decide) (fun v26 z27 => ?_)
      have r28 := R_eq z27
      refine r_icmp_ge (tgt := 42) S dX6_readOne_33 (by decide) (fun c29 => ?_) (fun c29 => ?_)
      ·
        have r30 : R (20) (20) v23 := ⟨by omega, by omega⟩
        refine r_aload_n S dX6_readOne_42 rfl (lv_at hl 1 rfl) ?_
        refine r_iconst S dX6_readOne_43 (by decide) (fun v31 z32 => ?_)
        have r33 := R_eq z32
        refine r_ki (q_U (As := [.int v31]) (rest := []) (K := 16) (ci := 6) S X16 (c_X8_fail_16 l G τ hI v31 (R_of (lo := -2147483648) (hi := 2147483647) r33 rfl)) ck6_48_6 (Nat.le_of_ble_eq_true rfl) rfl (fun _ => ⟨_, rfl⟩) ⟨_, _, rfl⟩ ⟨Nat.le_of_ble_eq_true rfl, Nat.le_of_ble_eq_true rfl⟩ rfl hl.1 rfl (Nat.le_of_ble_eq_true rfl) dX6_readOne_44 ⟨Nat.le_refl 0, Nat.le_refl 0⟩) X16 (fun v37 t36 H lc q34 X35 => ?_)
        unfold po_X8_fail_16 at q34
        obtain ⟨q38, q39, q40⟩ := q34
        have F41 : Fr [(16, 1), (16, 2), (17, 4), (1, 3), (1, 4), (1, 5), (1, 7), (1, 8), (16, 4)] [18, 19, 20, 201] τ t36 := Fr_call Fr_rfl q39 (by decide)
        exact r_ret S hr hlk X35 ⟨q38, F41, (YT_eq hYT (fun j => ((q39 18 j (by simp [fz])).trans rfl)) (fun j => ((q39 19 j (by simp [fz])).trans rfl))), (R_of q40 rfl)⟩ (nr_bool (R_of (lo := 0) (hi := 1) q40 rfl)) dX6_readOne_47
      ·
        have r42 : R (0) (19) v23 := ⟨by omega, by omega⟩
        refine r_iload_n S dX6_readOne_36 rfl (lv_at hl 2 rfl) ?_
        refine r_bipush S dX6_readOne_37 (by decide) (fun v43 z44 => ?_)
        have r45 := R_eq z44
        refine r_icmp_le (tgt := 48) S dX6_readOne_39 (by decide) (fun c46 => ?_) (fun c46 => ?_)
        ·
          refine r_aload_n S dX6_readOne_48 rfl (lv_at hl 1 rfl) ?_
          refine r_dup S dX6_readOne_49 rfl ?_
          refine r_geti (K := 16) S X16 (Nat.le_of_ble_eq_true rfl) rfl lk6_28_6 (fun _ => ⟨_, rfl, rfl⟩) z24 dX6_readOne_50 ?_
          refine r_iconst S dX6_readOne_53 (by decide) (fun v47 z48 => ?_)
          have r49 := R_eq z48
          refine r_iadd S dX6_readOne_54 (fun v50 z51 => ?_)
          obtain ⟨e52, r53⟩ := i_add (lo := 1) (hi := 20) z51 r42 r49 rfl
          refine r_put (K := 16) (ty := .int) S X16 (Nat.le_of_ble_eq_true rfl) rfl lk6_28_6 (fun _ => ⟨_, rfl, Nat.le_of_ble_eq_true rfl, rfl⟩) (fun _ _ _ h => by cases h; exact ⟨rfl, rfl⟩) rfl rfl dX6_readOne_55 (fun t54 H lc M55 X56 => ?_)
          have I57 := Inv_mu hI M55 (show Rg (kd 16) 4 v50 from (R_of (lo := 0) (hi := 20) r53 rfl))
          have F58 : Fr [(16, 1), (16, 2), (17, 4), (1, 3), (1, 4), (1, 5), (1, 7), (1, 8), (16, 4)] [18, 19, 20, 201] τ t54 := Fr_mu Fr_rfl M55 (by decide)
          refine r_aload_n S dX6_readOne_58 rfl (lv_at hl 1 rfl) ?_
          refine r_get (K := 16) (v := .ref (G.2.2.2.1 1)) S X56 (Nat.le_of_ble_eq_true rfl) rfl lk6_39_6 (fun _ => ⟨_, rfl, rfl⟩) dX6_readOne_59 ?_
          refine r_kv (q_V (As := []) (rest := []) (K := 1) (ci := 7) S X56 (c_X7_step l G t54 I57 ) ck6_64 (Nat.le_of_ble_eq_true rfl) rfl (fun _ => ⟨_, rfl⟩) ⟨_, _, rfl⟩ ⟨Nat.le_of_ble_eq_true rfl, Nat.le_of_ble_eq_true rfl⟩ rfl hl.1 rfl (Nat.le_of_ble_eq_true rfl) dX6_readOne_62 ⟨Nat.le_refl 0, Nat.le_refl 0⟩) X56 (fun t61 H lc q59 X60 => ?_)
          unfold po_X7_step at q59
          obtain ⟨q62, q63⟩ := q59
          have F64 : Fr [(16, 1), (16, 2), (17, 4), (1, 3), (1, 4), (1, 5), (1, 7), (1, 8), (16, 4)] [18, 19, 20, 201] τ t61 := Fr_call F58 q63 (by decide)
          refine lv_aload_nN S.1.1 S.1.2.1 dX6_readOne_65 rfl (lv_at hl 0 rfl) ?_
          refine lv_ifnonnullN S.1.1 S.1.2.1 dX6_readOne_66 ?_
          refine r_aload_n S dX6_readOne_69 rfl (lv_at hl 1 rfl) ?_
          refine r_iload_n S dX6_readOne_70 rfl (lv_at hl 2 rfl) ?_
          refine r_iconst S dX6_readOne_71 (by decide) (fun v65 z66 => ?_)
          have r67 := R_eq z66
          refine r_iadd S dX6_readOne_72 (fun v68 z69 => ?_)
          obtain ⟨e70, r71⟩ := i_add (lo := 9) (hi := 9) z69 h_a0 r67 rfl
          refine r_ki (q_V (As := [.int v68]) (rest := []) (K := 16) (ci := 6) S X60 (c_X6_readCond_9 l G t61 q62 v68 r71 (by rw [((q63 16 5 (by decide)).trans ((M55.2 16 5 (Or.inr (by decide))).trans z2))]; exact R_of hf_0 rfl) (YT_eq hYT (fun j => ((q63 18 j (by simp [fz])).trans ((M55.2 18 j (Or.inl (by decide))).trans rfl))) (fun j => ((q63 19 j (by simp [fz])).trans ((M55.2 19 j (Or.inl (by decide))).trans rfl))))) ck6_35 (Nat.le_of_ble_eq_true rfl) rfl (fun _ => ⟨_, rfl⟩) ⟨_, _, rfl⟩ ⟨Nat.le_of_ble_eq_true rfl, Nat.le_of_ble_eq_true rfl⟩ rfl hl.1 rfl (Nat.le_of_ble_eq_true rfl) dX6_readOne_73 ⟨Nat.le_refl 0, Nat.le_refl 0⟩) X60 (fun v75 t74 H lc q72 X73 => ?_)
          unfold po_X6_readCond_9 at q72
          obtain ⟨q76, q77, q78, q79⟩ := q72
          have F80 : Fr [(16, 1), (16, 2), (17, 4), (1, 3), (1, 4), (1, 5), (1, 7), (1, 8), (16, 4)] [18, 19, 20, 201] τ t74 := Fr_call F64 q77 (by decide)
          refine r_if_eq (tgt := 92) S dX6_readOne_76 (by decide) (fun c81 => ?_) (fun c81 => ?_)
          ·
            have r82 : R (0) (0) v75 := ⟨by omega, by omega⟩
            refine r_iconst S dX6_readOne_92 (by decide) (fun v83 z84 => ?_)
            have r85 := R_eq z84
            exact r_ret S hr hlk X73 ⟨q76, F80, q78, (R_of r85 rfl)⟩ (nr_bool (R_of (lo := 0) (hi := 1) r85 rfl)) dX6_readOne_93
          ·
            have r86 : R (1) (1) v75 := ⟨by omega, by omega⟩
            refine r_aload_n S dX6_readOne_79 rfl (lv_at hl 1 rfl) ?_
            refine r_bipush S dX6_readOne_80 (by decide) (fun v87 z88 => ?_)
            have r89 := R_eq z88
            refine r_ki (q_U (As := [.int v87]) (rest := []) (K := 16) (ci := 6) S X73 (c_X8_takeSign_16 l G t74 q76 v87 (R_of (lo := 0) (hi := 65535) r89 rfl)) ck6_85_6 (Nat.le_of_ble_eq_true rfl) rfl (fun _ => ⟨_, rfl⟩) ⟨_, _, rfl⟩ ⟨Nat.le_of_ble_eq_true rfl, Nat.le_of_ble_eq_true rfl⟩ rfl hl.1 rfl (Nat.le_of_ble_eq_true rfl) dX6_readOne_82 ⟨Nat.le_refl 0, Nat.le_refl 0⟩) X73 (fun v93 t92 H lc q90 X91 => ?_)
            unfold po_X8_takeSign_16 at q90
            obtain ⟨q94, q95, q96⟩ := q90
            have F97 : Fr [(16, 1), (16, 2), (17, 4), (1, 3), (1, 4), (1, 5), (1, 7), (1, 8), (16, 4)] [18, 19, 20, 201] τ t92 := Fr_call F80 q95 (by decide)
            refine r_if_eq (tgt := 92) S dX6_readOne_85 (by decide) (fun c98 => ?_) (fun c98 => ?_)
            ·
              have r99 : R (0) (0) v93 := ⟨by omega, by omega⟩
              refine r_iconst S dX6_readOne_92 (by decide) (fun v100 z101 => ?_)
              have r102 := R_eq z101
              exact r_ret S hr hlk X91 ⟨q94, F97, (YT_eq q78 (fun j => ((q95 18 j (by simp [fz])).trans rfl)) (fun j => ((q95 19 j (by simp [fz])).trans rfl))), (R_of r102 rfl)⟩ (nr_bool (R_of (lo := 0) (hi := 1) r102 rfl)) dX6_readOne_93
            ·
              have r103 : R (1) (1) v93 := ⟨by omega, by omega⟩
              refine r_iconst S dX6_readOne_88 (by decide) (fun v104 z105 => ?_)
              have r106 := R_eq z105
              refine r_goto (tgt := 93) S dX6_readOne_89 (by decide) ?_
              exact r_ret S hr hlk X91 ⟨q94, F97, (YT_eq q78 (fun j => ((q95 18 j (by simp [fz])).trans rfl)) (fun j => ((q95 19 j (by simp [fz])).trans rfl))), (R_of r106 rfl)⟩ (nr_bool (R_of (lo := 0) (hi := 1) r106 rfl)) dX6_readOne_93
        ·
          exfalso; omega
    ·
      have r107 : R (0) (0) v18 := ⟨by omega, by omega⟩
      refine r_aload_n S dX6_readOne_21 rfl (lv_at hl 1 rfl) ?_
      refine r_iconst S dX6_readOne_22 (by decide) (fun v108 z109 => ?_)
      have r110 := R_eq z109
      refine r_ki (q_U (As := [.int v108]) (rest := []) (K := 16) (ci := 6) S X16 (c_X8_fail_16 l G τ hI v108 (R_of (lo := -2147483648) (hi := 2147483647) r110 rfl)) ck6_48_6 (Nat.le_of_ble_eq_true rfl) rfl (fun _ => ⟨_, rfl⟩) ⟨_, _, rfl⟩ ⟨Nat.le_of_ble_eq_true rfl, Nat.le_of_ble_eq_true rfl⟩ rfl hl.1 rfl (Nat.le_of_ble_eq_true rfl) dX6_readOne_23 ⟨Nat.le_refl 0, Nat.le_refl 0⟩) X16 (fun v114 t113 H lc q111 X112 => ?_)
      unfold po_X8_fail_16 at q111
      obtain ⟨q115, q116, q117⟩ := q111
      have F118 : Fr [(16, 1), (16, 2), (17, 4), (1, 3), (1, 4), (1, 5), (1, 7), (1, 8), (16, 4)] [18, 19, 20, 201] τ t113 := Fr_call Fr_rfl q116 (by decide)
      exact r_ret S hr hlk X112 ⟨q115, F118, (YT_eq hYT (fun j => ((q116 18 j (by simp [fz])).trans rfl)) (fun j => ((q116 19 j (by simp [fz])).trans rfl))), (R_of q117 rfl)⟩ (nr_bool (R_of (lo := 0) (hi := 1) q117 rfl)) dX6_readOne_26
  ·
    unfold po_X6_firstWord at q3
    obtain ⟨q119, q120⟩ := q3
    rw [q119] at X4
    refine r_astore_n (lv' := [(2, .ref (G.2.2.1 w8)), (0, .ref (G.2.2.2.1 16)), (1, .int a0)]) S dX6_readOne_4 rfl hl (by decide) rfl (fun ls hl => ?_)
    refine r_aload_n S dX6_readOne_5 rfl (lv_at hl 0 rfl) ?_
    refine lv_ifnonnull (tgt := 27) S.1.1 S.1.2.1 dX6_readOne_6 (by decide) ?_
    refine r_aload_n S dX6_readOne_27 rfl (lv_at hl 1 rfl) ?_
    refine r_getn (K := 16) S X4 (Nat.le_of_ble_eq_true rfl) rfl lk6_28_6 (fun _ => ⟨_, rfl, rfl⟩) dX6_readOne_28 (fun v121 z122 => ?_)
    have r123 : R (0) (20) v121 := rd hI rfl z122
    refine r_bipush S dX6_readOne_31 (by decide) (fun v124 z125 => ?_)
    have r126 := R_eq z125
    refine r_icmp_ge (tgt := 42) S dX6_readOne_33 (by decide) (fun c127 => ?_) (fun c127 => ?_)
    ·
      have r128 : R (20) (20) v121 := ⟨by omega, by omega⟩
      refine r_aload_n S dX6_readOne_42 rfl (lv_at hl 1 rfl) ?_
      refine r_iconst S dX6_readOne_43 (by decide) (fun v129 z130 => ?_)
      have r131 := R_eq z130
      refine r_ki (q_U (As := [.int v129]) (rest := []) (K := 16) (ci := 6) S X4 (c_X8_fail_16 l G τ hI v129 (R_of (lo := -2147483648) (hi := 2147483647) r131 rfl)) ck6_48_6 (Nat.le_of_ble_eq_true rfl) rfl (fun _ => ⟨_, rfl⟩) ⟨_, _, rfl⟩ ⟨Nat.le_of_ble_eq_true rfl, Nat.le_of_ble_eq_true rfl⟩ rfl hl.1 rfl (Nat.le_of_ble_eq_true rfl) dX6_readOne_44 ⟨Nat.le_refl 0, Nat.le_refl 0⟩) X4 (fun v135 t134 H lc q132 X133 => ?_)
      unfold po_X8_fail_16 at q132
      obtain ⟨q136, q137, q138⟩ := q132
      have F139 : Fr [(16, 1), (16, 2), (17, 4), (1, 3), (1, 4), (1, 5), (1, 7), (1, 8), (16, 4)] [18, 19, 20, 201] τ t134 := Fr_call Fr_rfl q137 (by decide)
      exact r_ret S hr hlk X133 ⟨q136, F139, (YT_eq hYT (fun j => ((q137 18 j (by simp [fz])).trans rfl)) (fun j => ((q137 19 j (by simp [fz])).trans rfl))), (R_of q138 rfl)⟩ (nr_bool (R_of (lo := 0) (hi := 1) q138 rfl)) dX6_readOne_47
    ·
      have r140 : R (0) (19) v121 := ⟨by omega, by omega⟩
      refine r_iload_n S dX6_readOne_36 rfl (lv_at hl 2 rfl) ?_
      refine r_bipush S dX6_readOne_37 (by decide) (fun v141 z142 => ?_)
      have r143 := R_eq z142
      refine r_icmp_le (tgt := 48) S dX6_readOne_39 (by decide) (fun c144 => ?_) (fun c144 => ?_)
      ·
        refine r_aload_n S dX6_readOne_48 rfl (lv_at hl 1 rfl) ?_
        refine r_dup S dX6_readOne_49 rfl ?_
        refine r_geti (K := 16) S X4 (Nat.le_of_ble_eq_true rfl) rfl lk6_28_6 (fun _ => ⟨_, rfl, rfl⟩) z122 dX6_readOne_50 ?_
        refine r_iconst S dX6_readOne_53 (by decide) (fun v145 z146 => ?_)
        have r147 := R_eq z146
        refine r_iadd S dX6_readOne_54 (fun v148 z149 => ?_)
        obtain ⟨e150, r151⟩ := i_add (lo := 1) (hi := 20) z149 r140 r147 rfl
        refine r_put (K := 16) (ty := .int) S X4 (Nat.le_of_ble_eq_true rfl) rfl lk6_28_6 (fun _ => ⟨_, rfl, Nat.le_of_ble_eq_true rfl, rfl⟩) (fun _ _ _ h => by cases h; exact ⟨rfl, rfl⟩) rfl rfl dX6_readOne_55 (fun t152 H lc M153 X154 => ?_)
        have I155 := Inv_mu hI M153 (show Rg (kd 16) 4 v148 from (R_of (lo := 0) (hi := 20) r151 rfl))
        have F156 : Fr [(16, 1), (16, 2), (17, 4), (1, 3), (1, 4), (1, 5), (1, 7), (1, 8), (16, 4)] [18, 19, 20, 201] τ t152 := Fr_mu Fr_rfl M153 (by decide)
        refine r_aload_n S dX6_readOne_58 rfl (lv_at hl 1 rfl) ?_
        refine r_get (K := 16) (v := .ref (G.2.2.2.1 1)) S X154 (Nat.le_of_ble_eq_true rfl) rfl lk6_39_6 (fun _ => ⟨_, rfl, rfl⟩) dX6_readOne_59 ?_
        refine r_kv (q_V (As := []) (rest := []) (K := 1) (ci := 7) S X154 (c_X7_step l G t152 I155 ) ck6_64 (Nat.le_of_ble_eq_true rfl) rfl (fun _ => ⟨_, rfl⟩) ⟨_, _, rfl⟩ ⟨Nat.le_of_ble_eq_true rfl, Nat.le_of_ble_eq_true rfl⟩ rfl hl.1 rfl (Nat.le_of_ble_eq_true rfl) dX6_readOne_62 ⟨Nat.le_refl 0, Nat.le_refl 0⟩) X154 (fun t159 H lc q157 X158 => ?_)
        unfold po_X7_step at q157
        obtain ⟨q160, q161⟩ := q157
        have F162 : Fr [(16, 1), (16, 2), (17, 4), (1, 3), (1, 4), (1, 5), (1, 7), (1, 8), (16, 4)] [18, 19, 20, 201] τ t159 := Fr_call F156 q161 (by decide)
        refine r_aload_n S dX6_readOne_65 rfl (lv_at hl 0 rfl) ?_
        refine lv_ifnonnull (tgt := 94) S.1.1 S.1.2.1 dX6_readOne_66 (by decide) ?_
        refine r_aload_n S dX6_readOne_94 rfl (lv_at hl 0 rfl) ?_
        refine r_wst (i := 15) S X158 (by decide) kw74 dX6_readOne_95 ?_
        refine r_cacmp_ne (tgt := 127) S h_w8 (by decide) dX6_readOne_98 (by decide) (fun c163 => ?_) (fun c163 => ?_)
        ·
          refine r_aload_n S dX6_readOne_127 rfl (lv_at hl 1 rfl) ?_
          refine r_aload_n S dX6_readOne_128 rfl (lv_at hl 0 rfl) ?_
          refine r_ki (q_V (As := [.ref (G.2.2.1 w8)]) (rest := []) (K := 16) (ci := 6) S X158 (c_X6_readPlainOne l G t159 q160 w8 h_w8 (by rw [((q161 16 5 (by decide)).trans ((M153.2 16 5 (Or.inr (by decide))).trans z2))]; exact R_of hf_0 rfl) (YT_eq hYT (fun j => ((q161 18 j (by simp [fz])).trans ((M153.2 18 j (Or.inl (by decide))).trans rfl))) (fun j => ((q161 19 j (by simp [fz])).trans ((M153.2 19 j (Or.inl (by decide))).trans rfl))))) ck6_91 (Nat.le_of_ble_eq_true rfl) rfl (fun _ => ⟨_, rfl⟩) ⟨_, _, rfl⟩ ⟨Nat.le_of_ble_eq_true rfl, Nat.le_of_ble_eq_true rfl⟩ rfl hl.1 rfl (Nat.le_of_ble_eq_true rfl) dX6_readOne_129 ⟨Nat.le_refl 0, Nat.le_refl 0⟩) X158 (fun v167 t166 H lc q164 X165 => ?_)
          unfold po_X6_readPlainOne at q164
          obtain ⟨q168, q169, q170, q171⟩ := q164
          have F172 : Fr [(16, 1), (16, 2), (17, 4), (1, 3), (1, 4), (1, 5), (1, 7), (1, 8), (16, 4)] [18, 19, 20, 201] τ t166 := Fr_call F162 q169 (by decide)
          exact r_ret S hr hlk X165 ⟨q168, F172, q170, q171⟩ (nr_bool (R_of (lo := 0) (hi := 1) q171 rfl)) dX6_readOne_132
        ·
          refine r_aload_n S dX6_readOne_101 rfl (lv_at hl 1 rfl) ?_
          refine r_iload_n S dX6_readOne_102 rfl (lv_at hl 2 rfl) ?_
          refine r_iconst S dX6_readOne_103 (by decide) (fun v173 z174 => ?_)
          have r175 := R_eq z174
          refine r_iadd S dX6_readOne_104 (fun v176 z177 => ?_)
          obtain ⟨e178, r179⟩ := i_add (lo := 9) (hi := 9) z177 h_a0 r175 rfl
          refine r_ki (q_V (As := [.int v176]) (rest := []) (K := 16) (ci := 6) S X158 (c_X6_readOne_9 l G t159 q160 v176 r179 (by rw [((q161 16 5 (by decide)).trans ((M153.2 16 5 (Or.inr (by decide))).trans z2))]; exact R_of hf_0 rfl) (YT_eq hYT (fun j => ((q161 18 j (by simp [fz])).trans ((M153.2 18 j (Or.inl (by decide))).trans rfl))) (fun j => ((q161 19 j (by simp [fz])).trans ((M153.2 19 j (Or.inl (by decide))).trans rfl))))) ck6_71 (Nat.le_of_ble_eq_true rfl) rfl (fun _ => ⟨_, rfl⟩) ⟨_, _, rfl⟩ ⟨Nat.le_of_ble_eq_true rfl, Nat.le_of_ble_eq_true rfl⟩ rfl hl.1 rfl (Nat.le_of_ble_eq_true rfl) dX6_readOne_105 ⟨Nat.le_refl 0, Nat.le_refl 0⟩) X158 (fun v183 t182 H lc q180 X181 => ?_)
          unfold po_X6_readOne_9 at q180
          obtain ⟨q184, q185, q186, q187⟩ := q180
          have F188 : Fr [(16, 1), (16, 2), (17, 4), (1, 3), (1, 4), (1, 5), (1, 7), (1, 8), (16, 4)] [18, 19, 20, 201] τ t182 := Fr_call F162 q185 (by decide)
          refine r_if_ne (tgt := 113) S dX6_readOne_108 (by decide) (fun c189 => ?_) (fun c189 => ?_)
          ·
            have r190 : R (1) (1) v183 := ⟨by omega, by omega⟩
            refine r_aload_n S dX6_readOne_113 rfl (lv_at hl 1 rfl) ?_
            refine r_get (K := 16) (v := .ref (G.2.2.2.1 17)) S X181 (Nat.le_of_ble_eq_true rfl) rfl lk6_14_6 (fun _ => ⟨_, rfl, rfl⟩) dX6_readOne_114 ?_
            refine r_wst (i := 15) S X181 (by decide) kw74 dX6_readOne_117 ?_
            refine r_iconst S dX6_readOne_120 (by decide) (fun v191 z192 => ?_)
            have r193 := R_eq z192
            refine r_iconst S dX6_readOne_121 (by decide) (fun v194 z195 => ?_)
            have r196 := R_eq z195
            refine r_kv (q_V (As := [.ref (G.2.2.1 15), .int v191, .int v194]) (rest := []) (K := 17) (ci := 5) S X181 (c_X5_add l G t182 q184 15 (by decide) v191 v194 (R_of (lo := -2147483648) (hi := 2147483647) r193 rfl) (R_of (lo := 0) (hi := 99) r196 rfl) q186 (by omega)) ck6_67 (Nat.le_of_ble_eq_true rfl) rfl (fun _ => ⟨_, rfl⟩) ⟨_, _, rfl⟩ ⟨Nat.le_of_ble_eq_true rfl, Nat.le_of_ble_eq_true rfl⟩ rfl hl.1 rfl (Nat.le_of_ble_eq_true rfl) dX6_readOne_122 ⟨Nat.le_refl 0, Nat.le_refl 0⟩) X181 (fun t199 H lc q197 X198 => ?_)
            unfold po_X5_add at q197
            obtain ⟨q200, q201, q202⟩ := q197
            have F203 : Fr [(16, 1), (16, 2), (17, 4), (1, 3), (1, 4), (1, 5), (1, 7), (1, 8), (16, 4)] [18, 19, 20, 201] τ t199 := Fr_call F188 q201 (by decide)
            refine r_iconst S dX6_readOne_125 (by decide) (fun v204 z205 => ?_)
            have r206 := R_eq z205
            exact r_ret S hr hlk X198 ⟨q200, F203, q202, (R_of r206 rfl)⟩ (nr_bool (R_of (lo := 0) (hi := 1) r206 rfl)) dX6_readOne_126
          ·
            have r207 : R (0) (0) v183 := ⟨by omega, by omega⟩
            refine r_iconst S dX6_readOne_111 (by decide) (fun v208 z209 => ?_)
            have r210 := R_eq z209
            exact r_ret S hr hlk X181 ⟨q184, F188, q186, (R_of r210 rfl)⟩ (nr_bool (R_of (lo := 0) (hi := 1) r210 rfl)) dX6_readOne_112
      ·
        exfalso; omega
def po_X6_readAll_8 (τ : Tau)  (a0 : Int32)   (r : Int32) (u : Tau) : Prop := Inv u ∧ Fr [(16, 1), (16, 2), (17, 4), (1, 3), (1, 4), (1, 5), (1, 7), (1, 8), (16, 4)] [18, 19, 20, 201] τ u ∧ YT u ∧ R (0) (1) r
set_option maxHeartbeats 4000000 in
set_option maxRecDepth 100000 in
theorem c_X6_readAll_8 (l : Launch) (G : Gx) (τ : Tau) (hI : Inv τ) (a0 : Int32) (h_a0 : R (8) (8) a0) (hf_0 : R (1) (1) (τ 16 5)) (hYT : YT τ) : Ci l G yX6_readAll cX6_readAll 3 (some .boolean) 7 149 [.ref (G.2.2.2.1 16), .int a0] τ (po_X6_readAll_8 τ  a0  ) := by
  unfold Ci
  refine C_of (own := RX6) (by decide) rfl (Nat.le_of_ble_eq_true rfl) ?_
  intro p e s m below meth c ls S hr hlk X hl
  have hl : lv_has ls 3 [(0, .ref (G.2.2.2.1 16)), (1, .int a0)] := hl
  obtain ⟨v1, z2⟩ : ∃ x, τ 16 5 = x := ⟨_, rfl⟩
  rw [z2] at hf_0
  refine r_aload_n S dX6_readAll_0 rfl (lv_at hl 0 rfl) ?_
  refine r_iload_n S dX6_readAll_1 rfl (lv_at hl 1 rfl) ?_
  refine r_ki (q_V (As := [.int a0]) (rest := []) (K := 16) (ci := 6) S X (c_X6_readOne_8 l G τ hI a0 h_a0 (by rw [z2]; exact R_of hf_0 rfl) hYT) ck6_71 (Nat.le_of_ble_eq_true rfl) rfl (fun _ => ⟨_, rfl⟩) ⟨_, _, rfl⟩ ⟨Nat.le_of_ble_eq_true rfl, Nat.le_of_ble_eq_true rfl⟩ rfl hl.1 rfl (Nat.le_of_ble_eq_true rfl) dX6_readAll_2 ⟨Nat.le_refl 0, Nat.le_refl 0⟩) X (fun v6 t5 H lc q3 X4 => ?_)
  unfold po_X6_readOne_8 at q3
  obtain ⟨q7, q8, q9, q10⟩ := q3
  have F11 : Fr [(16, 1), (16, 2), (17, 4), (1, 3), (1, 4), (1, 5), (1, 7), (1, 8), (16, 4)] [18, 19, 20, 201] τ t5 := Fr_call Fr_rfl q8 (by decide)
  refine r_if_ne (tgt := 10) S dX6_readAll_5 (by decide) (fun c12 => ?_) (fun c12 => ?_)
  ·
    have r13 : R (1) (1) v6 := ⟨by omega, by omega⟩
    refine r_iconst S dX6_readAll_10 (by decide) (fun v14 z15 => ?_)
    have r16 := R_eq z15
    refine r_istore_n (lv' := [(2, .int v14), (0, .ref (G.2.2.2.1 16)), (1, .int a0)]) S dX6_readAll_11 rfl hl (by decide) rfl (fun ls hl => ?_)
    have L660 : ∀ (n : Nat) (t654 : Tau) (H : Heap) (lc : List Loc) (ls : Array Slot) (i652 : Int32), Xd G s H lc t654 → Inv t654 → Fr [(16, 1), (16, 2), (17, 4), (1, 3), (1, 4), (1, 5), (1, 7), (1, 8), (16, 4)] [18, 19, 20, 201] τ t654 → YT t654 → R (0) (24) i652 → t654 16 5 = v1 → lv_has ls 3 [(0, .ref (G.2.2.2.1 16)), (1, .int a0), (2, .int i652)] → (24 - i652.toInt).toNat < n → W p l e (Rm 7 149) s m ([.ref (G.2.2.2.1 16), .int a0] : List Value).toArray below meth c H lc 0 0 (MQ below (va_Qi (po_X6_readAll_8 τ  a0  ) (Bs G) G.2.2.2.2) ([.ref (G.2.2.2.1 16), .int a0] : List Value).toArray s 0 0 G.2.2.2.2) (F0 m 12 ls []) := by
      intro n
      induction n with
      | zero => intros; omega
      | succ n ih661 =>
        intro t654 H lc ls i652 X658 I655 F656 hYT657 r653 z659 hl hm
        refine r_iload_n S dX6_readAll_12 rfl (lv_at hl 2 rfl) ?_
        refine r_bipush S dX6_readAll_13 (by decide) (fun v662 z663 => ?_)
        have r664 := R_eq z663
        refine r_icmp_gt (tgt := 66) S dX6_readAll_15 (by decide) (fun c665 => ?_) (fun c665 => ?_)
        ·
          have r666 : R (21) (24) i652 := ⟨by omega, by omega⟩
          refine r_iconst S dX6_readAll_66 (by decide) (fun v667 z668 => ?_)
          have r669 := R_eq z668
          exact r_ret S hr hlk X658 ⟨I655, F656, hYT657, (R_of r669 rfl)⟩ (nr_bool (R_of (lo := 0) (hi := 1) r669 rfl)) dX6_readAll_67
        ·
          have r670 : R (0) (20) i652 := ⟨by omega, by omega⟩
          refine r_aload_n S dX6_readAll_18 rfl (lv_at hl 0 rfl) ?_
          refine r_get (K := 16) (v := .ref (G.2.2.2.1 1)) S X658 (Nat.le_of_ble_eq_true rfl) rfl lk6_39_6 (fun _ => ⟨_, rfl, rfl⟩) dX6_readAll_19 ?_
          refine r_wst (i := 14) S X658 (by decide) kw81 dX6_readAll_22 ?_
          refine r_ki (q_V (As := [.ref (G.2.2.1 14)]) (rest := []) (K := 1) (ci := 7) S X658 (c_X7_is l G t654 I655 14 (by decide)) ck6_60 (Nat.le_of_ble_eq_true rfl) rfl (fun _ => ⟨_, rfl⟩) ⟨_, _, rfl⟩ ⟨Nat.le_of_ble_eq_true rfl, Nat.le_of_ble_eq_true rfl⟩ rfl hl.1 rfl (Nat.le_of_ble_eq_true rfl) dX6_readAll_25 ⟨Nat.le_refl 0, Nat.le_refl 0⟩) X658 (fun v674 t673 H lc q671 X672 => ?_)
          unfold po_X7_is at q671
          obtain ⟨q675, q676⟩ := q671
          rw [q675] at X672
          refine r_if_eq (tgt := 66) S dX6_readAll_28 (by decide) (fun c677 => ?_) (fun c677 => ?_)
          ·
            have r678 : R (0) (0) v674 := ⟨by omega, by omega⟩
            refine r_iconst S dX6_readAll_66 (by decide) (fun v679 z680 => ?_)
            have r681 := R_eq z680
            exact r_ret S hr hlk X672 ⟨I655, F656, hYT657, (R_of r681 rfl)⟩ (nr_bool (R_of (lo := 0) (hi := 1) r681 rfl)) dX6_readAll_67
          ·
            have r682 : R (1) (1) v674 := ⟨by omega, by omega⟩
            refine r_aload_n S dX6_readAll_31 rfl (lv_at hl 0 rfl) ?_
            refine r_get (K := 16) (v := .ref (G.2.2.2.1 1)) S X672 (Nat.le_of_ble_eq_true rfl) rfl lk6_39_6 (fun _ => ⟨_, rfl, rfl⟩) dX6_readAll_32 ?_
            refine r_kv (q_V (As := []) (rest := []) (K := 1) (ci := 7) S X672 (c_X7_step l G t654 I655 ) ck6_64 (Nat.le_of_ble_eq_true rfl) rfl (fun _ => ⟨_, rfl⟩) ⟨_, _, rfl⟩ ⟨Nat.le_of_ble_eq_true rfl, Nat.le_of_ble_eq_true rfl⟩ rfl hl.1 rfl (Nat.le_of_ble_eq_true rfl) dX6_readAll_35 ⟨Nat.le_refl 0, Nat.le_refl 0⟩) X672 (fun t685 H lc q683 X684 => ?_)
            unfold po_X7_step at q683
            obtain ⟨q686, q687⟩ := q683
            have F688 : Fr [(16, 1), (16, 2), (17, 4), (1, 3), (1, 4), (1, 5), (1, 7), (1, 8), (16, 4)] [18, 19, 20, 201] τ t685 := Fr_call F656 q687 (by decide)
            refine r_aload_n S dX6_readAll_38 rfl (lv_at hl 0 rfl) ?_
            refine r_iload_n S dX6_readAll_39 rfl (lv_at hl 1 rfl) ?_
            refine r_ki (q_V (As := [.int a0]) (rest := []) (K := 16) (ci := 6) S X684 (c_X6_readOne_8 l G t685 q686 a0 h_a0 (by rw [((q687 16 5 (by decide)).trans z659)]; exact R_of hf_0 rfl) (YT_eq hYT657 (fun j => ((q687 18 j (by simp [fz])).trans rfl)) (fun j => ((q687 19 j (by simp [fz])).trans rfl)))) ck6_71 (Nat.le_of_ble_eq_true rfl) rfl (fun _ => ⟨_, rfl⟩) ⟨_, _, rfl⟩ ⟨Nat.le_of_ble_eq_true rfl, Nat.le_of_ble_eq_true rfl⟩ rfl hl.1 rfl (Nat.le_of_ble_eq_true rfl) dX6_readAll_40 ⟨Nat.le_refl 0, Nat.le_refl 0⟩) X684 (fun v692 t691 H lc q689 X690 => ?_)
            unfold po_X6_readOne_8 at q689
            obtain ⟨q693, q694, q695, q696⟩ := q689
            have F697 : Fr [(16, 1), (16, 2), (17, 4), (1, 3), (1, 4), (1, 5), (1, 7), (1, 8), (16, 4)] [18, 19, 20, 201] τ t691 := Fr_call F688 q694 (by decide)
            refine r_if_ne (tgt := 48) S dX6_readAll_43 (by decide) (fun c698 => ?_) (fun c698 => ?_)
            ·
              have r699 : R (1) (1) v692 := ⟨by omega, by omega⟩
              refine r_aload_n S dX6_readAll_48 rfl (lv_at hl 0 rfl) ?_
              refine r_get (K := 16) (v := .ref (G.2.2.2.1 17)) S X690 (Nat.le_of_ble_eq_true rfl) rfl lk6_14_6 (fun _ => ⟨_, rfl, rfl⟩) dX6_readAll_49 ?_
              refine r_wst (i := 14) S X690 (by decide) kw81 dX6_readAll_52 ?_
              refine r_iconst S dX6_readAll_55 (by decide) (fun v700 z701 => ?_)
              have r702 := R_eq z701
              refine r_iconst S dX6_readAll_56 (by decide) (fun v703 z704 => ?_)
              have r705 := R_eq z704
              refine r_kv (q_V (As := [.ref (G.2.2.1 14), .int v700, .int v703]) (rest := []) (K := 17) (ci := 5) S X690 (c_X5_add l G t691 q693 14 (by decide) v700 v703 (R_of (lo := -2147483648) (hi := 2147483647) r702 rfl) (R_of (lo := 0) (hi := 99) r705 rfl) q695 (by omega)) ck6_67 (Nat.le_of_ble_eq_true rfl) rfl (fun _ => ⟨_, rfl⟩) ⟨_, _, rfl⟩ ⟨Nat.le_of_ble_eq_true rfl, Nat.le_of_ble_eq_true rfl⟩ rfl hl.1 rfl (Nat.le_of_ble_eq_true rfl) dX6_readAll_57 ⟨Nat.le_refl 0, Nat.le_refl 0⟩) X690 (fun t708 H lc q706 X707 => ?_)
              unfold po_X5_add at q706
              obtain ⟨q709, q710, q711⟩ := q706
              have F712 : Fr [(16, 1), (16, 2), (17, 4), (1, 3), (1, 4), (1, 5), (1, 7), (1, 8), (16, 4)] [18, 19, 20, 201] τ t708 := Fr_call F697 q710 (by decide)
              refine r_iinc (k := 2) S dX6_readAll_60 hl rfl (by decide) (by decide) (fun v713 d714 ls z715 z716 hl => ?_)
              obtain ⟨e717, r718⟩ := i_add (lo := 1) (hi := 21) z715 r670 (R_eq z716) rfl
              have hl : lv_has ls 3 [(2, .int v713), (0, .ref (G.2.2.2.1 16)), (1, .int a0)] := hl
              refine r_goto (tgt := 12) S dX6_readAll_63 (by decide) ?_
              exact ih661 t708 _ _ _ v713 X707 q709 F712 q711 (R_of r718 rfl) ((q710 16 5 (by decide)).trans ((q694 16 5 (by decide)).trans ((q687 16 5 (by decide)).trans z659))) (lv_sub hl [1, 2, 0] rfl) (by omega)
            ·
              have r719 : R (0) (0) v692 := ⟨by omega, by omega⟩
              refine r_iconst S dX6_readAll_46 (by decide) (fun v720 z721 => ?_)
              have r722 := R_eq z721
              exact r_ret S hr hlk X690 ⟨q693, F697, q695, (R_of r722 rfl)⟩ (nr_bool (R_of (lo := 0) (hi := 1) r722 rfl)) dX6_readAll_47
    exact L660 _ t5 _ _ _ v14 X4 q7 F11 q9 (R_of r16 rfl) ((q8 16 5 (by decide)).trans z2) (lv_sub hl [1, 2, 0] rfl) (Nat.lt_succ_self _)
  ·
    have r723 : R (0) (0) v6 := ⟨by omega, by omega⟩
    refine r_iconst S dX6_readAll_8 (by decide) (fun v724 z725 => ?_)
    have r726 := R_eq z725
    exact r_ret S hr hlk X4 ⟨q7, F11, q9, (R_of r726 rfl)⟩ (nr_bool (R_of (lo := 0) (hi := 1) r726 rfl)) dX6_readAll_9
def po_X6_readCond_8 (τ : Tau)  (a0 : Int32)   (r : Int32) (u : Tau) : Prop := Inv u ∧ Fr [(16, 1), (16, 2), (17, 4), (1, 3), (1, 4), (1, 5), (1, 7), (1, 8), (16, 4)] [18, 19, 20, 201] τ u ∧ YT u ∧ R (0) (1) r
set_option maxHeartbeats 4000000 in
set_option maxRecDepth 100000 in
theorem c_X6_readCond_8 (l : Launch) (G : Gx) (τ : Tau) (hI : Inv τ) (a0 : Int32) (h_a0 : R (8) (8) a0) (hf_0 : R (1) (1) (τ 16 5)) (hYT : YT τ) : Ci l G yX6_readCond cX6_readCond 3 (some .boolean) 8 171 [.ref (G.2.2.2.1 16), .int a0] τ (po_X6_readCond_8 τ  a0  ) := by
  unfold Ci
  refine C_of (own := RX6) (by decide) rfl (Nat.le_of_ble_eq_true rfl) ?_
  intro p e s m below meth c ls S hr hlk X hl
  have hl : lv_has ls 3 [(0, .ref (G.2.2.2.1 16)), (1, .int a0)] := hl
  obtain ⟨v1, z2⟩ : ∃ x, τ 16 5 = x := ⟨_, rfl⟩
  rw [z2] at hf_0
  refine r_aload_n S dX6_readCond_0 rfl (lv_at hl 0 rfl) ?_
  refine r_iload_n S dX6_readCond_1 rfl (lv_at hl 1 rfl) ?_
  refine r_ki (q_V (As := [.int a0]) (rest := []) (K := 16) (ci := 6) S X (c_X6_readAll_8 l G τ hI a0 h_a0 (by rw [z2]; exact R_of hf_0 rfl) hYT) ck6_51 (Nat.le_of_ble_eq_true rfl) rfl (fun _ => ⟨_, rfl⟩) ⟨_, _, rfl⟩ ⟨Nat.le_of_ble_eq_true rfl, Nat.le_of_ble_eq_true rfl⟩ rfl hl.1 rfl (Nat.le_of_ble_eq_true rfl) dX6_readCond_2 ⟨Nat.le_refl 0, Nat.le_refl 0⟩) X (fun v6 t5 H lc q3 X4 => ?_)
  unfold po_X6_readAll_8 at q3
  obtain ⟨q7, q8, q9, q10⟩ := q3
  have F11 : Fr [(16, 1), (16, 2), (17, 4), (1, 3), (1, 4), (1, 5), (1, 7), (1, 8), (16, 4)] [18, 19, 20, 201] τ t5 := Fr_call Fr_rfl q8 (by decide)
  refine r_if_ne (tgt := 10) S dX6_readCond_5 (by decide) (fun c12 => ?_) (fun c12 => ?_)
  ·
    have r13 : R (1) (1) v6 := ⟨by omega, by omega⟩
    refine r_iconst S dX6_readCond_10 (by decide) (fun v14 z15 => ?_)
    have r16 := R_eq z15
    refine r_istore_n (lv' := [(2, .int v14), (0, .ref (G.2.2.2.1 16)), (1, .int a0)]) S dX6_readCond_11 rfl hl (by decide) rfl (fun ls hl => ?_)
    have L660 : ∀ (n : Nat) (t654 : Tau) (H : Heap) (lc : List Loc) (ls : Array Slot) (i652 : Int32), Xd G s H lc t654 → Inv t654 → Fr [(16, 1), (16, 2), (17, 4), (1, 3), (1, 4), (1, 5), (1, 7), (1, 8), (16, 4)] [18, 19, 20, 201] τ t654 → YT t654 → R (0) (24) i652 → t654 16 5 = v1 → lv_has ls 3 [(0, .ref (G.2.2.2.1 16)), (1, .int a0), (2, .int i652)] → (24 - i652.toInt).toNat < n → W p l e (Rm 8 171) s m ([.ref (G.2.2.2.1 16), .int a0] : List Value).toArray below meth c H lc 0 0 (MQ below (va_Qi (po_X6_readCond_8 τ  a0  ) (Bs G) G.2.2.2.2) ([.ref (G.2.2.2.1 16), .int a0] : List Value).toArray s 0 0 G.2.2.2.2) (F0 m 12 ls []) := by
      intro n
      induction n with
      | zero => intros; omega
      | succ n ih661 =>
        intro t654 H lc ls i652 X658 I655 F656 hYT657 r653 z659 hl hm
        refine r_iload_n S dX6_readCond_12 rfl (lv_at hl 2 rfl) ?_
        refine r_bipush S dX6_readCond_13 (by decide) (fun v662 z663 => ?_)
        have r664 := R_eq z663
        refine r_icmp_gt (tgt := 66) S dX6_readCond_15 (by decide) (fun c665 => ?_) (fun c665 => ?_)
        ·
          have r666 : R (21) (24) i652 := ⟨by omega, by omega⟩
          refine r_iconst S dX6_readCond_66 (by decide) (fun v667 z668 => ?_)
          have r669 := R_eq z668
          exact r_ret S hr hlk X658 ⟨I655, F656, hYT657, (R_of r669 rfl)⟩ (nr_bool (R_of (lo := 0) (hi := 1) r669 rfl)) dX6_readCond_67
        ·
          have r670 : R (0) (20) i652 := ⟨by omega, by omega⟩
          refine r_aload_n S dX6_readCond_18 rfl (lv_at hl 0 rfl) ?_
          refine r_get (K := 16) (v := .ref (G.2.2.2.1 1)) S X658 (Nat.le_of_ble_eq_true rfl) rfl lk6_39_6 (fun _ => ⟨_, rfl, rfl⟩) dX6_readCond_19 ?_
          refine r_wst (i := 13) S X658 (by decide) kw82 dX6_readCond_22 ?_
          refine r_ki (q_V (As := [.ref (G.2.2.1 13)]) (rest := []) (K := 1) (ci := 7) S X658 (c_X7_is l G t654 I655 13 (by decide)) ck6_60 (Nat.le_of_ble_eq_true rfl) rfl (fun _ => ⟨_, rfl⟩) ⟨_, _, rfl⟩ ⟨Nat.le_of_ble_eq_true rfl, Nat.le_of_ble_eq_true rfl⟩ rfl hl.1 rfl (Nat.le_of_ble_eq_true rfl) dX6_readCond_25 ⟨Nat.le_refl 0, Nat.le_refl 0⟩) X658 (fun v674 t673 H lc q671 X672 => ?_)
          unfold po_X7_is at q671
          obtain ⟨q675, q676⟩ := q671
          rw [q675] at X672
          refine r_if_eq (tgt := 66) S dX6_readCond_28 (by decide) (fun c677 => ?_) (fun c677 => ?_)
          ·
            have r678 : R (0) (0) v674 := ⟨by omega, by omega⟩
            refine r_iconst S dX6_readCond_66 (by decide) (fun v679 z680 => ?_)
            have r681 := R_eq z680
            exact r_ret S hr hlk X672 ⟨I655, F656, hYT657, (R_of r681 rfl)⟩ (nr_bool (R_of (lo := 0) (hi := 1) r681 rfl)) dX6_readCond_67
          ·
            have r682 : R (1) (1) v674 := ⟨by omega, by omega⟩
            refine r_aload_n S dX6_readCond_31 rfl (lv_at hl 0 rfl) ?_
            refine r_get (K := 16) (v := .ref (G.2.2.2.1 1)) S X672 (Nat.le_of_ble_eq_true rfl) rfl lk6_39_6 (fun _ => ⟨_, rfl, rfl⟩) dX6_readCond_32 ?_
            refine r_kv (q_V (As := []) (rest := []) (K := 1) (ci := 7) S X672 (c_X7_step l G t654 I655 ) ck6_64 (Nat.le_of_ble_eq_true rfl) rfl (fun _ => ⟨_, rfl⟩) ⟨_, _, rfl⟩ ⟨Nat.le_of_ble_eq_true rfl, Nat.le_of_ble_eq_true rfl⟩ rfl hl.1 rfl (Nat.le_of_ble_eq_true rfl) dX6_readCond_35 ⟨Nat.le_refl 0, Nat.le_refl 0⟩) X672 (fun t685 H lc q683 X684 => ?_)
            unfold po_X7_step at q683
            obtain ⟨q686, q687⟩ := q683
            have F688 : Fr [(16, 1), (16, 2), (17, 4), (1, 3), (1, 4), (1, 5), (1, 7), (1, 8), (16, 4)] [18, 19, 20, 201] τ t685 := Fr_call F656 q687 (by decide)
            refine r_aload_n S dX6_readCond_38 rfl (lv_at hl 0 rfl) ?_
            refine r_iload_n S dX6_readCond_39 rfl (lv_at hl 1 rfl) ?_
            refine r_ki (q_V (As := [.int a0]) (rest := []) (K := 16) (ci := 6) S X684 (c_X6_readAll_8 l G t685 q686 a0 h_a0 (by rw [((q687 16 5 (by decide)).trans z659)]; exact R_of hf_0 rfl) (YT_eq hYT657 (fun j => ((q687 18 j (by simp [fz])).trans rfl)) (fun j => ((q687 19 j (by simp [fz])).trans rfl)))) ck6_51 (Nat.le_of_ble_eq_true rfl) rfl (fun _ => ⟨_, rfl⟩) ⟨_, _, rfl⟩ ⟨Nat.le_of_ble_eq_true rfl, Nat.le_of_ble_eq_true rfl⟩ rfl hl.1 rfl (Nat.le_of_ble_eq_true rfl) dX6_readCond_40 ⟨Nat.le_refl 0, Nat.le_refl 0⟩) X684 (fun v692 t691 H lc q689 X690 => ?_)
            unfold po_X6_readAll_8 at q689
            obtain ⟨q693, q694, q695, q696⟩ := q689
            have F697 : Fr [(16, 1), (16, 2), (17, 4), (1, 3), (1, 4), (1, 5), (1, 7), (1, 8), (16, 4)] [18, 19, 20, 201] τ t691 := Fr_call F688 q694 (by decide)
            refine r_if_ne (tgt := 48) S dX6_readCond_43 (by decide) (fun c698 => ?_) (fun c698 => ?_)
            ·
              have r699 : R (1) (1) v692 := ⟨by omega, by omega⟩
              refine r_aload_n S dX6_readCond_48 rfl (lv_at hl 0 rfl) ?_
              refine r_get (K := 16) (v := .ref (G.2.2.2.1 17)) S X690 (Nat.le_of_ble_eq_true rfl) rfl lk6_14_6 (fun _ => ⟨_, rfl, rfl⟩) dX6_readCond_49 ?_
              refine r_wst (i := 13) S X690 (by decide) kw82 dX6_readCond_52 ?_
              refine r_iconst S dX6_readCond_55 (by decide) (fun v700 z701 => ?_)
              have r702 := R_eq z701
              refine r_iconst S dX6_readCond_56 (by decide) (fun v703 z704 => ?_)
              have r705 := R_eq z704
              refine r_kv (q_V (As := [.ref (G.2.2.1 13), .int v700, .int v703]) (rest := []) (K := 17) (ci := 5) S X690 (c_X5_add l G t691 q693 13 (by decide) v700 v703 (R_of (lo := -2147483648) (hi := 2147483647) r702 rfl) (R_of (lo := 0) (hi := 99) r705 rfl) q695 (by omega)) ck6_67 (Nat.le_of_ble_eq_true rfl) rfl (fun _ => ⟨_, rfl⟩) ⟨_, _, rfl⟩ ⟨Nat.le_of_ble_eq_true rfl, Nat.le_of_ble_eq_true rfl⟩ rfl hl.1 rfl (Nat.le_of_ble_eq_true rfl) dX6_readCond_57 ⟨Nat.le_refl 0, Nat.le_refl 0⟩) X690 (fun t708 H lc q706 X707 => ?_)
              unfold po_X5_add at q706
              obtain ⟨q709, q710, q711⟩ := q706
              have F712 : Fr [(16, 1), (16, 2), (17, 4), (1, 3), (1, 4), (1, 5), (1, 7), (1, 8), (16, 4)] [18, 19, 20, 201] τ t708 := Fr_call F697 q710 (by decide)
              refine r_iinc (k := 2) S dX6_readCond_60 hl rfl (by decide) (by decide) (fun v713 d714 ls z715 z716 hl => ?_)
              obtain ⟨e717, r718⟩ := i_add (lo := 1) (hi := 21) z715 r670 (R_eq z716) rfl
              have hl : lv_has ls 3 [(2, .int v713), (0, .ref (G.2.2.2.1 16)), (1, .int a0)] := hl
              refine r_goto (tgt := 12) S dX6_readCond_63 (by decide) ?_
              exact ih661 t708 _ _ _ v713 X707 q709 F712 q711 (R_of r718 rfl) ((q710 16 5 (by decide)).trans ((q694 16 5 (by decide)).trans ((q687 16 5 (by decide)).trans z659))) (lv_sub hl [1, 2, 0] rfl) (by omega)
            ·
              have r719 : R (0) (0) v692 := ⟨by omega, by omega⟩
              refine r_iconst S dX6_readCond_46 (by decide) (fun v720 z721 => ?_)
              have r722 := R_eq z721
              exact r_ret S hr hlk X690 ⟨q693, F697, q695, (R_of r722 rfl)⟩ (nr_bool (R_of (lo := 0) (hi := 1) r722 rfl)) dX6_readCond_47
    exact L660 _ t5 _ _ _ v14 X4 q7 F11 q9 (R_of r16 rfl) ((q8 16 5 (by decide)).trans z2) (lv_sub hl [1, 2, 0] rfl) (Nat.lt_succ_self _)
  ·
    have r723 : R (0) (0) v6 := ⟨by omega, by omega⟩
    refine r_iconst S dX6_readCond_8 (by decide) (fun v724 z725 => ?_)
    have r726 := R_eq z725
    exact r_ret S hr hlk X4 ⟨q7, F11, q9, (R_of r726 rfl)⟩ (nr_bool (R_of (lo := 0) (hi := 1) r726 rfl)) dX6_readCond_9
def po_X6_readOne_7 (τ : Tau)  (a0 : Int32)   (r : Int32) (u : Tau) : Prop := Inv u ∧ Fr [(16, 1), (16, 2), (17, 4), (1, 3), (1, 4), (1, 5), (1, 7), (1, 8), (16, 4)] [18, 19, 20, 201] τ u ∧ YT u ∧ R (0) (1) r
set_option maxHeartbeats 4000000 in
set_option maxRecDepth 100000 in
theorem c_X6_readOne_7 (l : Launch) (G : Gx) (τ : Tau) (hI : Inv τ) (a0 : Int32) (h_a0 : R (7) (7) a0) (hf_0 : R (1) (1) (τ 16 5)) (hYT : YT τ) : Ci l G yX6_readOne cX6_readOne 3 (some .boolean) 9 193 [.ref (G.2.2.2.1 16), .int a0] τ (po_X6_readOne_7 τ  a0  ) := by
  unfold Ci
  refine C_of (own := RX6) (by decide) rfl (Nat.le_of_ble_eq_true rfl) ?_
  intro p e s m below meth c ls S hr hlk X hl
  have hl : lv_has ls 3 [(0, .ref (G.2.2.2.1 16)), (1, .int a0)] := hl
  obtain ⟨v1, z2⟩ : ∃ x, τ 16 5 = x := ⟨_, rfl⟩
  rw [z2] at hf_0
  refine r_aload_n S dX6_readOne_0 rfl (lv_at hl 0 rfl) ?_
  refine r_kw2 (q_V (As := []) (rest := []) (K := 16) (ci := 6) S X (c_X6_firstWord l G τ hI ) ck6_77 (Nat.le_of_ble_eq_true rfl) rfl (fun _ => ⟨_, rfl⟩) ⟨_, _, rfl⟩ ⟨Nat.le_of_ble_eq_true rfl, Nat.le_of_ble_eq_true rfl⟩ rfl hl.1 rfl (Nat.le_of_ble_eq_true rfl) dX6_readOne_1 ⟨Nat.le_refl 0, Nat.le_refl 0⟩) X (fun _ _ h => h.2) (fun y6 t5 H lc q3 X4 h7 => ?_) (fun y6 t5 H lc w8 q3 X4 h_w8 e9 => ?_)
  ·
    unfold po_X6_firstWord at q3
    obtain ⟨q10, q11⟩ := q3
    rw [q10] at X4
    refine lv_astore_nN (lv' := [(2, .null), (0, .ref (G.2.2.2.1 16)), (1, .int a0)]) S.1.1 S.1.2.1 dX6_readOne_4 rfl hl (by decide) rfl (fun ls hl => ?_)
    refine lv_aload_nN S.1.1 S.1.2.1 dX6_readOne_5 rfl (lv_at hl 0 rfl) ?_
    refine lv_ifnonnullN S.1.1 S.1.2.1 dX6_readOne_6 ?_
    refine r_aload_n S dX6_readOne_9 rfl (lv_at hl 1 rfl) ?_
    refine r_get (K := 16) (v := .ref (G.2.2.2.1 1)) S X4 (Nat.le_of_ble_eq_true rfl) rfl lk6_39_6 (fun _ => ⟨_, rfl, rfl⟩) dX6_readOne_10 ?_
    refine r_bipush S dX6_readOne_13 (by decide) (fun v12 z13 => ?_)
    have r14 := R_eq z13
    refine r_ki (q_V (As := [.int v12]) (rest := []) (K := 1) (ci := 7) S X4 (c_X7_isSigned l G τ hI v12 (R_of (lo := 0) (hi := 65535) r14 rfl)) ck6_81 (Nat.le_of_ble_eq_true rfl) rfl (fun _ => ⟨_, rfl⟩) ⟨_, _, rfl⟩ ⟨Nat.le_of_ble_eq_true rfl, Nat.le_of_ble_eq_true rfl⟩ rfl hl.1 rfl (Nat.le_of_ble_eq_true rfl) dX6_readOne_15 ⟨Nat.le_refl 0, Nat.le_refl 0⟩) X4 (fun v18 t17 H lc q15 X16 => ?_)
    unfold po_X7_isSigned at q15
    obtain ⟨q19, q20⟩ := q15
    rw [q19] at X16
    refine r_if_ne (tgt := 27) S dX6_readOne_18 (by decide) (fun c21 => ?_) (fun c21 => ?_)
    ·
      have r22 : R (1) (1) v18 := ⟨by omega, by omega⟩
      refine r_aload_n S dX6_readOne_27 rfl (lv_at hl 1 rfl) ?_
      refine r_getn (K := 16) S X16 (Nat.le_of_ble_eq_true rfl) rfl lk6_28_6 (fun _ => ⟨_, rfl, rfl⟩) dX6_readOne_28 (fun v23 z24 => ?_)
      have r25 : R (0) (20) v23 := rd hI rfl z24
      refine r_bipush S dX6_readOne_31 (by decide) (fun v26 z27 => ?_)
      have r28 := R_eq z27
      refine r_icmp_ge (tgt := 42) S dX6_readOne_33 (by decide) (fun c29 => ?_) (fun c29 => ?_)
      ·
        have r30 : R (20) (20) v23 := ⟨by omega, by omega⟩
        refine r_aload_n S dX6_readOne_42 rfl (lv_at hl 1 rfl) ?_
        refine r_iconst S dX6_readOne_43 (by decide) (fun v31 z32 => ?_)
        have r33 := R_eq z32
        refine r_ki (q_U (As := [.int v31]) (rest := []) (K := 16) (ci := 6) S X16 (c_X8_fail_16 l G τ hI v31 (R_of (lo := -2147483648) (hi := 2147483647) r33 rfl)) ck6_48_6 (Nat.le_of_ble_eq_true rfl) rfl (fun _ => ⟨_, rfl⟩) ⟨_, _, rfl⟩ ⟨Nat.le_of_ble_eq_true rfl, Nat.le_of_ble_eq_true rfl⟩ rfl hl.1 rfl (Nat.le_of_ble_eq_true rfl) dX6_readOne_44 ⟨Nat.le_refl 0, Nat.le_refl 0⟩) X16 (fun v37 t36 H lc q34 X35 => ?_)
        unfold po_X8_fail_16 at q34
        obtain ⟨q38, q39, q40⟩ := q34
        have F41 : Fr [(16, 1), (16, 2), (17, 4), (1, 3), (1, 4), (1, 5), (1, 7), (1, 8), (16, 4)] [18, 19, 20, 201] τ t36 := Fr_call Fr_rfl q39 (by decide)
        exact r_ret S hr hlk X35 ⟨q38, F41, (YT_eq hYT (fun j => ((q39 18 j (by simp [fz])).trans rfl)) (fun j => ((q39 19 j (by simp [fz])).trans rfl))), (R_of q40 rfl)⟩ (nr_bool (R_of (lo := 0) (hi := 1) q40 rfl)) dX6_readOne_47
      ·
        have r42 : R (0) (19) v23 := ⟨by omega, by omega⟩
        refine r_iload_n S dX6_readOne_36 rfl (lv_at hl 2 rfl) ?_
        refine r_bipush S dX6_readOne_37 (by decide) (fun v43 z44 => ?_)
        have r45 := R_eq z44
        refine r_icmp_le (tgt := 48) S dX6_readOne_39 (by decide) (fun c46 => ?_) (fun c46 => ?_)
        ·
          refine r_aload_n S dX6_readOne_48 rfl (lv_at hl 1 rfl) ?_
          refine r_dup S dX6_readOne_49 rfl ?_
          refine r_geti (K := 16) S X16 (Nat.le_of_ble_eq_true rfl) rfl lk6_28_6 (fun _ => ⟨_, rfl, rfl⟩) z24 dX6_readOne_50 ?_
          refine r_iconst S dX6_readOne_53 (by decide) (fun v47 z48 => ?_)
          have r49 := R_eq z48
          refine r_iadd S dX6_readOne_54 (fun v50 z51 => ?_)
          obtain ⟨e52, r53⟩ := i_add (lo := 1) (hi := 20) z51 r42 r49 rfl
          refine r_put (K := 16) (ty := .int) S X16 (Nat.le_of_ble_eq_true rfl) rfl lk6_28_6 (fun _ => ⟨_, rfl, Nat.le_of_ble_eq_true rfl, rfl⟩) (fun _ _ _ h => by cases h; exact ⟨rfl, rfl⟩) rfl rfl dX6_readOne_55 (fun t54 H lc M55 X56 => ?_)
          have I57 := Inv_mu hI M55 (show Rg (kd 16) 4 v50 from (R_of (lo := 0) (hi := 20) r53 rfl))
          have F58 : Fr [(16, 1), (16, 2), (17, 4), (1, 3), (1, 4), (1, 5), (1, 7), (1, 8), (16, 4)] [18, 19, 20, 201] τ t54 := Fr_mu Fr_rfl M55 (by decide)
          refine r_aload_n S dX6_readOne_58 rfl (lv_at hl 1 rfl) ?_
          refine r_get (K := 16) (v := .ref (G.2.2.2.1 1)) S X56 (Nat.le_of_ble_eq_true rfl) rfl lk6_39_6 (fun _ => ⟨_, rfl, rfl⟩) dX6_readOne_59 ?_
          refine r_kv (q_V (As := []) (rest := []) (K := 1) (ci := 7) S X56 (c_X7_step l G t54 I57 ) ck6_64 (Nat.le_of_ble_eq_true rfl) rfl (fun _ => ⟨_, rfl⟩) ⟨_, _, rfl⟩ ⟨Nat.le_of_ble_eq_true rfl, Nat.le_of_ble_eq_true rfl⟩ rfl hl.1 rfl (Nat.le_of_ble_eq_true rfl) dX6_readOne_62 ⟨Nat.le_refl 0, Nat.le_refl 0⟩) X56 (fun t61 H lc q59 X60 => ?_)
          unfold po_X7_step at q59
          obtain ⟨q62, q63⟩ := q59
          have F64 : Fr [(16, 1), (16, 2), (17, 4), (1, 3), (1, 4), (1, 5), (1, 7), (1, 8), (16, 4)] [18, 19, 20, 201] τ t61 := Fr_call F58 q63 (by decide)
          refine lv_aload_nN S.1.1 S.1.2.1 dX6_readOne_65 rfl (lv_at hl 0 rfl) ?_
          refine lv_ifnonnullN S.1.1 S.1.2.1 dX6_readOne_66 ?_
          refine r_aload_n S dX6_readOne_69 rfl (lv_at hl 1 rfl) ?_
          refine r_iload_n S dX6_readOne_70 rfl (lv_at hl 2 rfl) ?_
          refine r_iconst S dX6_readOne_71 (by decide) (fun v65 z66 => ?_)
          have r67 := R_eq z66
          refine r_iadd S dX6_readOne_72 (fun v68 z69 => ?_)
          obtain ⟨e70, r71⟩ := i_add (lo := 8) (hi := 8) z69 h_a0 r67 rfl
          refine r_ki (q_V (As := [.int v68]) (rest := []) (K := 16) (ci := 6) S X60 (c_X6_readCond_8 l G t61 q62 v68 r71 (by rw [((q63 16 5 (by decide)).trans ((M55.2 16 5 (Or.inr (by decide))).trans z2))]; exact R_of hf_0 rfl) (YT_eq hYT (fun j => ((q63 18 j (by simp [fz])).trans ((M55.2 18 j (Or.inl (by decide))).trans rfl))) (fun j => ((q63 19 j (by simp [fz])).trans ((M55.2 19 j (Or.inl (by decide))).trans rfl))))) ck6_35 (Nat.le_of_ble_eq_true rfl) rfl (fun _ => ⟨_, rfl⟩) ⟨_, _, rfl⟩ ⟨Nat.le_of_ble_eq_true rfl, Nat.le_of_ble_eq_true rfl⟩ rfl hl.1 rfl (Nat.le_of_ble_eq_true rfl) dX6_readOne_73 ⟨Nat.le_refl 0, Nat.le_refl 0⟩) X60 (fun v75 t74 H lc q72 X73 => ?_)
          unfold po_X6_readCond_8 at q72
          obtain ⟨q76, q77, q78, q79⟩ := q72
          have F80 : Fr [(16, 1), (16, 2), (17, 4), (1, 3), (1, 4), (1, 5), (1, 7), (1, 8), (16, 4)] [18, 19, 20, 201] τ t74 := Fr_call F64 q77 (by decide)
          refine r_if_eq (tgt := 92) S dX6_readOne_76 (by decide) (fun c81 => ?_) (fun c81 => ?_)
          ·
            have r82 : R (0) (0) v75 := ⟨by omega, by omega⟩
            refine r_iconst S dX6_readOne_92 (by decide) (fun v83 z84 => ?_)
            have r85 := R_eq z84
            exact r_ret S hr hlk X73 ⟨q76, F80, q78, (R_of r85 rfl)⟩ (nr_bool (R_of (lo := 0) (hi := 1) r85 rfl)) dX6_readOne_93
          ·
            have r86 : R (1) (1) v75 := ⟨by omega, by omega⟩
            refine r_aload_n S dX6_readOne_79 rfl (lv_at hl 1 rfl) ?_
            refine r_bipush S dX6_readOne_80 (by decide) (fun v87 z88 => ?_)
            have r89 := R_eq z88
            refine r_ki (q_U (As := [.int v87]) (rest := []) (K := 16) (ci := 6) S X73 (c_X8_takeSign_16 l G t74 q76 v87 (R_of (lo := 0) (hi := 65535) r89 rfl)) ck6_85_6 (Nat.le_of_ble_eq_true rfl) rfl (fun _ => ⟨_, rfl⟩) ⟨_, _, rfl⟩ ⟨Nat.le_of_ble_eq_true rfl, Nat.le_of_ble_eq_true rfl⟩ rfl hl.1 rfl (Nat.le_of_ble_eq_true rfl) dX6_readOne_82 ⟨Nat.le_refl 0, Nat.le_refl 0⟩) X73 (fun v93 t92 H lc q90 X91 => ?_)
            unfold po_X8_takeSign_16 at q90
            obtain ⟨q94, q95, q96⟩ := q90
            have F97 : Fr [(16, 1), (16, 2), (17, 4), (1, 3), (1, 4), (1, 5), (1, 7), (1, 8), (16, 4)] [18, 19, 20, 201] τ t92 := Fr_call F80 q95 (by decide)
            refine r_if_eq (tgt := 92) S dX6_readOne_85 (by decide) (fun c98 => ?_) (fun c98 => ?_)
            ·
              have r99 : R (0) (0) v93 := ⟨by omega, by omega⟩
              refine r_iconst S dX6_readOne_92 (by decide) (fun v100 z101 => ?_)
              have r102 := R_eq z101
              exact r_ret S hr hlk X91 ⟨q94, F97, (YT_eq q78 (fun j => ((q95 18 j (by simp [fz])).trans rfl)) (fun j => ((q95 19 j (by simp [fz])).trans rfl))), (R_of r102 rfl)⟩ (nr_bool (R_of (lo := 0) (hi := 1) r102 rfl)) dX6_readOne_93
            ·
              have r103 : R (1) (1) v93 := ⟨by omega, by omega⟩
              refine r_iconst S dX6_readOne_88 (by decide) (fun v104 z105 => ?_)
              have r106 := R_eq z105
              refine r_goto (tgt := 93) S dX6_readOne_89 (by decide) ?_
              exact r_ret S hr hlk X91 ⟨q94, F97, (YT_eq q78 (fun j => ((q95 18 j (by simp [fz])).trans rfl)) (fun j => ((q95 19 j (by simp [fz])).trans rfl))), (R_of r106 rfl)⟩ (nr_bool (R_of (lo := 0) (hi := 1) r106 rfl)) dX6_readOne_93
        ·
          exfalso; omega
    ·
      have r107 : R (0) (0) v18 := ⟨by omega, by omega⟩
      refine r_aload_n S dX6_readOne_21 rfl (lv_at hl 1 rfl) ?_
      refine r_iconst S dX6_readOne_22 (by decide) (fun v108 z109 => ?_)
      have r110 := R_eq z109
      refine r_ki (q_U (As := [.int v108]) (rest := []) (K := 16) (ci := 6) S X16 (c_X8_fail_16 l G τ hI v108 (R_of (lo := -2147483648) (hi := 2147483647) r110 rfl)) ck6_48_6 (Nat.le_of_ble_eq_true rfl) rfl (fun _ => ⟨_, rfl⟩) ⟨_, _, rfl⟩ ⟨Nat.le_of_ble_eq_true rfl, Nat.le_of_ble_eq_true rfl⟩ rfl hl.1 rfl (Nat.le_of_ble_eq_true rfl) dX6_readOne_23 ⟨Nat.le_refl 0, Nat.le_refl 0⟩) X16 (fun v114 t113 H lc q111 X112 => ?_)
      unfold po_X8_fail_16 at q111
      obtain ⟨q115, q116, q117⟩ := q111
      have F118 : Fr [(16, 1), (16, 2), (17, 4), (1, 3), (1, 4), (1, 5), (1, 7), (1, 8), (16, 4)] [18, 19, 20, 201] τ t113 := Fr_call Fr_rfl q116 (by decide)
      exact r_ret S hr hlk X112 ⟨q115, F118, (YT_eq hYT (fun j => ((q116 18 j (by simp [fz])).trans rfl)) (fun j => ((q116 19 j (by simp [fz])).trans rfl))), (R_of q117 rfl)⟩ (nr_bool (R_of (lo := 0) (hi := 1) q117 rfl)) dX6_readOne_26
  ·
    unfold po_X6_firstWord at q3
    obtain ⟨q119, q120⟩ := q3
    rw [q119] at X4
    refine r_astore_n (lv' := [(2, .ref (G.2.2.1 w8)), (0, .ref (G.2.2.2.1 16)), (1, .int a0)]) S dX6_readOne_4 rfl hl (by decide) rfl (fun ls hl => ?_)
    refine r_aload_n S dX6_readOne_5 rfl (lv_at hl 0 rfl) ?_
    refine lv_ifnonnull (tgt := 27) S.1.1 S.1.2.1 dX6_readOne_6 (by decide) ?_
    refine r_aload_n S dX6_readOne_27 rfl (lv_at hl 1 rfl) ?_
    refine r_getn (K := 16) S X4 (Nat.le_of_ble_eq_true rfl) rfl lk6_28_6 (fun _ => ⟨_, rfl, rfl⟩) dX6_readOne_28 (fun v121 z122 => ?_)
    have r123 : R (0) (20) v121 := rd hI rfl z122
    refine r_bipush S dX6_readOne_31 (by decide) (fun v124 z125 => ?_)
    have r126 := R_eq z125
    refine r_icmp_ge (tgt := 42) S dX6_readOne_33 (by decide) (fun c127 => ?_) (fun c127 => ?_)
    ·
      have r128 : R (20) (20) v121 := ⟨by omega, by omega⟩
      refine r_aload_n S dX6_readOne_42 rfl (lv_at hl 1 rfl) ?_
      refine r_iconst S dX6_readOne_43 (by decide) (fun v129 z130 => ?_)
      have r131 := R_eq z130
      refine r_ki (q_U (As := [.int v129]) (rest := []) (K := 16) (ci := 6) S X4 (c_X8_fail_16 l G τ hI v129 (R_of (lo := -2147483648) (hi := 2147483647) r131 rfl)) ck6_48_6 (Nat.le_of_ble_eq_true rfl) rfl (fun _ => ⟨_, rfl⟩) ⟨_, _, rfl⟩ ⟨Nat.le_of_ble_eq_true rfl, Nat.le_of_ble_eq_true rfl⟩ rfl hl.1 rfl (Nat.le_of_ble_eq_true rfl) dX6_readOne_44 ⟨Nat.le_refl 0, Nat.le_refl 0⟩) X4 (fun v135 t134 H lc q132 X133 => ?_)
      unfold po_X8_fail_16 at q132
      obtain ⟨q136, q137, q138⟩ := q132
      have F139 : Fr [(16, 1), (16, 2), (17, 4), (1, 3), (1, 4), (1, 5), (1, 7), (1, 8), (16, 4)] [18, 19, 20, 201] τ t134 := Fr_call Fr_rfl q137 (by decide)
      exact r_ret S hr hlk X133 ⟨q136, F139, (YT_eq hYT (fun j => ((q137 18 j (by simp [fz])).trans rfl)) (fun j => ((q137 19 j (by simp [fz])).trans rfl))), (R_of q138 rfl)⟩ (nr_bool (R_of (lo := 0) (hi := 1) q138 rfl)) dX6_readOne_47
    ·
      have r140 : R (0) (19) v121 := ⟨by omega, by omega⟩
      refine r_iload_n S dX6_readOne_36 rfl (lv_at hl 2 rfl) ?_
      refine r_bipush S dX6_readOne_37 (by decide) (fun v141 z142 => ?_)
      have r143 := R_eq z142
      refine r_icmp_le (tgt := 48) S dX6_readOne_39 (by decide) (fun c144 => ?_) (fun c144 => ?_)
      ·
        refine r_aload_n S dX6_readOne_48 rfl (lv_at hl 1 rfl) ?_
        refine r_dup S dX6_readOne_49 rfl ?_
        refine r_geti (K := 16) S X4 (Nat.le_of_ble_eq_true rfl) rfl lk6_28_6 (fun _ => ⟨_, rfl, rfl⟩) z122 dX6_readOne_50 ?_
        refine r_iconst S dX6_readOne_53 (by decide) (fun v145 z146 => ?_)
        have r147 := R_eq z146
        refine r_iadd S dX6_readOne_54 (fun v148 z149 => ?_)
        obtain ⟨e150, r151⟩ := i_add (lo := 1) (hi := 20) z149 r140 r147 rfl
        refine r_put (K := 16) (ty := .int) S X4 (Nat.le_of_ble_eq_true rfl) rfl lk6_28_6 (fun _ => ⟨_, rfl, Nat.le_of_ble_eq_true rfl, rfl⟩) (fun _ _ _ h => by cases h; exact ⟨rfl, rfl⟩) rfl rfl dX6_readOne_55 (fun t152 H lc M153 X154 => ?_)
        have I155 := Inv_mu hI M153 (show Rg (kd 16) 4 v148 from (R_of (lo := 0) (hi := 20) r151 rfl))
        have F156 : Fr [(16, 1), (16, 2), (17, 4), (1, 3), (1, 4), (1, 5), (1, 7), (1, 8), (16, 4)] [18, 19, 20, 201] τ t152 := Fr_mu Fr_rfl M153 (by decide)
        refine r_aload_n S dX6_readOne_58 rfl (lv_at hl 1 rfl) ?_
        refine r_get (K := 16) (v := .ref (G.2.2.2.1 1)) S X154 (Nat.le_of_ble_eq_true rfl) rfl lk6_39_6 (fun _ => ⟨_, rfl, rfl⟩) dX6_readOne_59 ?_
        refine r_kv (q_V (As := []) (rest := []) (K := 1) (ci := 7) S X154 (c_X7_step l G t152 I155 ) ck6_64 (Nat.le_of_ble_eq_true rfl) rfl (fun _ => ⟨_, rfl⟩) ⟨_, _, rfl⟩ ⟨Nat.le_of_ble_eq_true rfl, Nat.le_of_ble_eq_true rfl⟩ rfl hl.1 rfl (Nat.le_of_ble_eq_true rfl) dX6_readOne_62 ⟨Nat.le_refl 0, Nat.le_refl 0⟩) X154 (fun t159 H lc q157 X158 => ?_)
        unfold po_X7_step at q157
        obtain ⟨q160, q161⟩ := q157
        have F162 : Fr [(16, 1), (16, 2), (17, 4), (1, 3), (1, 4), (1, 5), (1, 7), (1, 8), (16, 4)] [18, 19, 20, 201] τ t159 := Fr_call F156 q161 (by decide)
        refine r_aload_n S dX6_readOne_65 rfl (lv_at hl 0 rfl) ?_
        refine lv_ifnonnull (tgt := 94) S.1.1 S.1.2.1 dX6_readOne_66 (by decide) ?_
        refine r_aload_n S dX6_readOne_94 rfl (lv_at hl 0 rfl) ?_
        refine r_wst (i := 15) S X158 (by decide) kw74 dX6_readOne_95 ?_
        refine r_cacmp_ne (tgt := 127) S h_w8 (by decide) dX6_readOne_98 (by decide) (fun c163 => ?_) (fun c163 => ?_)
        ·
          refine r_aload_n S dX6_readOne_127 rfl (lv_at hl 1 rfl) ?_
          refine r_aload_n S dX6_readOne_128 rfl (lv_at hl 0 rfl) ?_
          refine r_ki (q_V (As := [.ref (G.2.2.1 w8)]) (rest := []) (K := 16) (ci := 6) S X158 (c_X6_readPlainOne l G t159 q160 w8 h_w8 (by rw [((q161 16 5 (by decide)).trans ((M153.2 16 5 (Or.inr (by decide))).trans z2))]; exact R_of hf_0 rfl) (YT_eq hYT (fun j => ((q161 18 j (by simp [fz])).trans ((M153.2 18 j (Or.inl (by decide))).trans rfl))) (fun j => ((q161 19 j (by simp [fz])).trans ((M153.2 19 j (Or.inl (by decide))).trans rfl))))) ck6_91 (Nat.le_of_ble_eq_true rfl) rfl (fun _ => ⟨_, rfl⟩) ⟨_, _, rfl⟩ ⟨Nat.le_of_ble_eq_true rfl, Nat.le_of_ble_eq_true rfl⟩ rfl hl.1 rfl (Nat.le_of_ble_eq_true rfl) dX6_readOne_129 ⟨Nat.le_refl 0, Nat.le_refl 0⟩) X158 (fun v167 t166 H lc q164 X165 => ?_)
          unfold po_X6_readPlainOne at q164
          obtain ⟨q168, q169, q170, q171⟩ := q164
          have F172 : Fr [(16, 1), (16, 2), (17, 4), (1, 3), (1, 4), (1, 5), (1, 7), (1, 8), (16, 4)] [18, 19, 20, 201] τ t166 := Fr_call F162 q169 (by decide)
          exact r_ret S hr hlk X165 ⟨q168, F172, q170, q171⟩ (nr_bool (R_of (lo := 0) (hi := 1) q171 rfl)) dX6_readOne_132
        ·
          refine r_aload_n S dX6_readOne_101 rfl (lv_at hl 1 rfl) ?_
          refine r_iload_n S dX6_readOne_102 rfl (lv_at hl 2 rfl) ?_
          refine r_iconst S dX6_readOne_103 (by decide) (fun v173 z174 => ?_)
          have r175 := R_eq z174
          refine r_iadd S dX6_readOne_104 (fun v176 z177 => ?_)
          obtain ⟨e178, r179⟩ := i_add (lo := 8) (hi := 8) z177 h_a0 r175 rfl
          refine r_ki (q_V (As := [.int v176]) (rest := []) (K := 16) (ci := 6) S X158 (c_X6_readOne_8 l G t159 q160 v176 r179 (by rw [((q161 16 5 (by decide)).trans ((M153.2 16 5 (Or.inr (by decide))).trans z2))]; exact R_of hf_0 rfl) (YT_eq hYT (fun j => ((q161 18 j (by simp [fz])).trans ((M153.2 18 j (Or.inl (by decide))).trans rfl))) (fun j => ((q161 19 j (by simp [fz])).trans ((M153.2 19 j (Or.inl (by decide))).trans rfl))))) ck6_71 (Nat.le_of_ble_eq_true rfl) rfl (fun _ => ⟨_, rfl⟩) ⟨_, _, rfl⟩ ⟨Nat.le_of_ble_eq_true rfl, Nat.le_of_ble_eq_true rfl⟩ rfl hl.1 rfl (Nat.le_of_ble_eq_true rfl) dX6_readOne_105 ⟨Nat.le_refl 0, Nat.le_refl 0⟩) X158 (fun v183 t182 H lc q180 X181 => ?_)
          unfold po_X6_readOne_8 at q180
          obtain ⟨q184, q185, q186, q187⟩ := q180
          have F188 : Fr [(16, 1), (16, 2), (17, 4), (1, 3), (1, 4), (1, 5), (1, 7), (1, 8), (16, 4)] [18, 19, 20, 201] τ t182 := Fr_call F162 q185 (by decide)
          refine r_if_ne (tgt := 113) S dX6_readOne_108 (by decide) (fun c189 => ?_) (fun c189 => ?_)
          ·
            have r190 : R (1) (1) v183 := ⟨by omega, by omega⟩
            refine r_aload_n S dX6_readOne_113 rfl (lv_at hl 1 rfl) ?_
            refine r_get (K := 16) (v := .ref (G.2.2.2.1 17)) S X181 (Nat.le_of_ble_eq_true rfl) rfl lk6_14_6 (fun _ => ⟨_, rfl, rfl⟩) dX6_readOne_114 ?_
            refine r_wst (i := 15) S X181 (by decide) kw74 dX6_readOne_117 ?_
            refine r_iconst S dX6_readOne_120 (by decide) (fun v191 z192 => ?_)
            have r193 := R_eq z192
            refine r_iconst S dX6_readOne_121 (by decide) (fun v194 z195 => ?_)
            have r196 := R_eq z195
            refine r_kv (q_V (As := [.ref (G.2.2.1 15), .int v191, .int v194]) (rest := []) (K := 17) (ci := 5) S X181 (c_X5_add l G t182 q184 15 (by decide) v191 v194 (R_of (lo := -2147483648) (hi := 2147483647) r193 rfl) (R_of (lo := 0) (hi := 99) r196 rfl) q186 (by omega)) ck6_67 (Nat.le_of_ble_eq_true rfl) rfl (fun _ => ⟨_, rfl⟩) ⟨_, _, rfl⟩ ⟨Nat.le_of_ble_eq_true rfl, Nat.le_of_ble_eq_true rfl⟩ rfl hl.1 rfl (Nat.le_of_ble_eq_true rfl) dX6_readOne_122 ⟨Nat.le_refl 0, Nat.le_refl 0⟩) X181 (fun t199 H lc q197 X198 => ?_)
            unfold po_X5_add at q197
            obtain ⟨q200, q201, q202⟩ := q197
            have F203 : Fr [(16, 1), (16, 2), (17, 4), (1, 3), (1, 4), (1, 5), (1, 7), (1, 8), (16, 4)] [18, 19, 20, 201] τ t199 := Fr_call F188 q201 (by decide)
            refine r_iconst S dX6_readOne_125 (by decide) (fun v204 z205 => ?_)
            have r206 := R_eq z205
            exact r_ret S hr hlk X198 ⟨q200, F203, q202, (R_of r206 rfl)⟩ (nr_bool (R_of (lo := 0) (hi := 1) r206 rfl)) dX6_readOne_126
          ·
            have r207 : R (0) (0) v183 := ⟨by omega, by omega⟩
            refine r_iconst S dX6_readOne_111 (by decide) (fun v208 z209 => ?_)
            have r210 := R_eq z209
            exact r_ret S hr hlk X181 ⟨q184, F188, q186, (R_of r210 rfl)⟩ (nr_bool (R_of (lo := 0) (hi := 1) r210 rfl)) dX6_readOne_112
      ·
        exfalso; omega
def po_X6_readAll_7 (τ : Tau)  (a0 : Int32)   (r : Int32) (u : Tau) : Prop := Inv u ∧ Fr [(16, 1), (16, 2), (17, 4), (1, 3), (1, 4), (1, 5), (1, 7), (1, 8), (16, 4)] [18, 19, 20, 201] τ u ∧ YT u ∧ R (0) (1) r
set_option maxHeartbeats 4000000 in
set_option maxRecDepth 100000 in
theorem c_X6_readAll_7 (l : Launch) (G : Gx) (τ : Tau) (hI : Inv τ) (a0 : Int32) (h_a0 : R (7) (7) a0) (hf_0 : R (1) (1) (τ 16 5)) (hYT : YT τ) : Ci l G yX6_readAll cX6_readAll 3 (some .boolean) 10 215 [.ref (G.2.2.2.1 16), .int a0] τ (po_X6_readAll_7 τ  a0  ) := by
  unfold Ci
  refine C_of (own := RX6) (by decide) rfl (Nat.le_of_ble_eq_true rfl) ?_
  intro p e s m below meth c ls S hr hlk X hl
  have hl : lv_has ls 3 [(0, .ref (G.2.2.2.1 16)), (1, .int a0)] := hl
  obtain ⟨v1, z2⟩ : ∃ x, τ 16 5 = x := ⟨_, rfl⟩
  rw [z2] at hf_0
  refine r_aload_n S dX6_readAll_0 rfl (lv_at hl 0 rfl) ?_
  refine r_iload_n S dX6_readAll_1 rfl (lv_at hl 1 rfl) ?_
  refine r_ki (q_V (As := [.int a0]) (rest := []) (K := 16) (ci := 6) S X (c_X6_readOne_7 l G τ hI a0 h_a0 (by rw [z2]; exact R_of hf_0 rfl) hYT) ck6_71 (Nat.le_of_ble_eq_true rfl) rfl (fun _ => ⟨_, rfl⟩) ⟨_, _, rfl⟩ ⟨Nat.le_of_ble_eq_true rfl, Nat.le_of_ble_eq_true rfl⟩ rfl hl.1 rfl (Nat.le_of_ble_eq_true rfl) dX6_readAll_2 ⟨Nat.le_refl 0, Nat.le_refl 0⟩) X (fun v6 t5 H lc q3 X4 => ?_)
  unfold po_X6_readOne_7 at q3
  obtain ⟨q7, q8, q9, q10⟩ := q3
  have F11 : Fr [(16, 1), (16, 2), (17, 4), (1, 3), (1, 4), (1, 5), (1, 7), (1, 8), (16, 4)] [18, 19, 20, 201] τ t5 := Fr_call Fr_rfl q8 (by decide)
  refine r_if_ne (tgt := 10) S dX6_readAll_5 (by decide) (fun c12 => ?_) (fun c12 => ?_)
  ·
    have r13 : R (1) (1) v6 := ⟨by omega, by omega⟩
    refine r_iconst S dX6_readAll_10 (by decide) (fun v14 z15 => ?_)
    have r16 := R_eq z15
    refine r_istore_n (lv' := [(2, .int v14), (0, .ref (G.2.2.2.1 16)), (1, .int a0)]) S dX6_readAll_11 rfl hl (by decide) rfl (fun ls hl => ?_)
    have L660 : ∀ (n : Nat) (t654 : Tau) (H : Heap) (lc : List Loc) (ls : Array Slot) (i652 : Int32), Xd G s H lc t654 → Inv t654 → Fr [(16, 1), (16, 2), (17, 4), (1, 3), (1, 4), (1, 5), (1, 7), (1, 8), (16, 4)] [18, 19, 20, 201] τ t654 → YT t654 → R (0) (24) i652 → t654 16 5 = v1 → lv_has ls 3 [(0, .ref (G.2.2.2.1 16)), (1, .int a0), (2, .int i652)] → (24 - i652.toInt).toNat < n → W p l e (Rm 10 215) s m ([.ref (G.2.2.2.1 16), .int a0] : List Value).toArray below meth c H lc 0 0 (MQ below (va_Qi (po_X6_readAll_7 τ  a0  ) (Bs G) G.2.2.2.2) ([.ref (G.2.2.2.1 16), .int a0] : List Value).toArray s 0 0 G.2.2.2.2) (F0 m 12 ls []) := by
      intro n
      induction n with
      | zero => intros; omega
      | succ n ih661 =>
        intro t654 H lc ls i652 X658 I655 F656 hYT657 r653 z659 hl hm
        refine r_iload_n S dX6_readAll_12 rfl (lv_at hl 2 rfl) ?_
        refine r_bipush S dX6_readAll_13 (by decide) (fun v662 z663 => ?_)
        have r664 := R_eq z663
        refine r_icmp_gt (tgt := 66) S dX6_readAll_15 (by decide) (fun c665 => ?_) (fun c665 => ?_)
        ·
          have r666 : R (21) (24) i652 := ⟨by omega, by omega⟩
          refine r_iconst S dX6_readAll_66 (by decide) (fun v667 z668 => ?_)
          have r669 := R_eq z668
          exact r_ret S hr hlk X658 ⟨I655, F656, hYT657, (R_of r669 rfl)⟩ (nr_bool (R_of (lo := 0) (hi := 1) r669 rfl)) dX6_readAll_67
        ·
          have r670 : R (0) (20) i652 := ⟨by omega, by omega⟩
          refine r_aload_n S dX6_readAll_18 rfl (lv_at hl 0 rfl) ?_
          refine r_get (K := 16) (v := .ref (G.2.2.2.1 1)) S X658 (Nat.le_of_ble_eq_true rfl) rfl lk6_39_6 (fun _ => ⟨_, rfl, rfl⟩) dX6_readAll_19 ?_
          refine r_wst (i := 14) S X658 (by decide) kw81 dX6_readAll_22 ?_
          refine r_ki (q_V (As := [.ref (G.2.2.1 14)]) (rest := []) (K := 1) (ci := 7) S X658 (c_X7_is l G t654 I655 14 (by decide)) ck6_60 (Nat.le_of_ble_eq_true rfl) rfl (fun _ => ⟨_, rfl⟩) ⟨_, _, rfl⟩ ⟨Nat.le_of_ble_eq_true rfl, Nat.le_of_ble_eq_true rfl⟩ rfl hl.1 rfl (Nat.le_of_ble_eq_true rfl) dX6_readAll_25 ⟨Nat.le_refl 0, Nat.le_refl 0⟩) X658 (fun v674 t673 H lc q671 X672 => ?_)
          unfold po_X7_is at q671
          obtain ⟨q675, q676⟩ := q671
          rw [q675] at X672
          refine r_if_eq (tgt := 66) S dX6_readAll_28 (by decide) (fun c677 => ?_) (fun c677 => ?_)
          ·
            have r678 : R (0) (0) v674 := ⟨by omega, by omega⟩
            refine r_iconst S dX6_readAll_66 (by decide) (fun v679 z680 => ?_)
            have r681 := R_eq z680
            exact r_ret S hr hlk X672 ⟨I655, F656, hYT657, (R_of r681 rfl)⟩ (nr_bool (R_of (lo := 0) (hi := 1) r681 rfl)) dX6_readAll_67
          ·
            have r682 : R (1) (1) v674 := ⟨by omega, by omega⟩
            refine r_aload_n S dX6_readAll_31 rfl (lv_at hl 0 rfl) ?_
            refine r_get (K := 16) (v := .ref (G.2.2.2.1 1)) S X672 (Nat.le_of_ble_eq_true rfl) rfl lk6_39_6 (fun _ => ⟨_, rfl, rfl⟩) dX6_readAll_32 ?_
            refine r_kv (q_V (As := []) (rest := []) (K := 1) (ci := 7) S X672 (c_X7_step l G t654 I655 ) ck6_64 (Nat.le_of_ble_eq_true rfl) rfl (fun _ => ⟨_, rfl⟩) ⟨_, _, rfl⟩ ⟨Nat.le_of_ble_eq_true rfl, Nat.le_of_ble_eq_true rfl⟩ rfl hl.1 rfl (Nat.le_of_ble_eq_true rfl) dX6_readAll_35 ⟨Nat.le_refl 0, Nat.le_refl 0⟩) X672 (fun t685 H lc q683 X684 => ?_)
            unfold po_X7_step at q683
            obtain ⟨q686, q687⟩ := q683
            have F688 : Fr [(16, 1), (16, 2), (17, 4), (1, 3), (1, 4), (1, 5), (1, 7), (1, 8), (16, 4)] [18, 19, 20, 201] τ t685 := Fr_call F656 q687 (by decide)
            refine r_aload_n S dX6_readAll_38 rfl (lv_at hl 0 rfl) ?_
            refine r_iload_n S dX6_readAll_39 rfl (lv_at hl 1 rfl) ?_
            refine r_ki (q_V (As := [.int a0]) (rest := []) (K := 16) (ci := 6) S X684 (c_X6_readOne_7 l G t685 q686 a0 h_a0 (by rw [((q687 16 5 (by decide)).trans z659)]; exact R_of hf_0 rfl) (YT_eq hYT657 (fun j => ((q687 18 j (by simp [fz])).trans rfl)) (fun j => ((q687 19 j (by simp [fz])).trans rfl)))) ck6_71 (Nat.le_of_ble_eq_true rfl) rfl (fun _ => ⟨_, rfl⟩) ⟨_, _, rfl⟩ ⟨Nat.le_of_ble_eq_true rfl, Nat.le_of_ble_eq_true rfl⟩ rfl hl.1 rfl (Nat.le_of_ble_eq_true rfl) dX6_readAll_40 ⟨Nat.le_refl 0, Nat.le_refl 0⟩) X684 (fun v692 t691 H lc q689 X690 => ?_)
            unfold po_X6_readOne_7 at q689
            obtain ⟨q693, q694, q695, q696⟩ := q689
            have F697 : Fr [(16, 1), (16, 2), (17, 4), (1, 3), (1, 4), (1, 5), (1, 7), (1, 8), (16, 4)] [18, 19, 20, 201] τ t691 := Fr_call F688 q694 (by decide)
            refine r_if_ne (tgt := 48) S dX6_readAll_43 (by decide) (fun c698 => ?_) (fun c698 => ?_)
            ·
              have r699 : R (1) (1) v692 := ⟨by omega, by omega⟩
              refine r_aload_n S dX6_readAll_48 rfl (lv_at hl 0 rfl) ?_
              refine r_get (K := 16) (v := .ref (G.2.2.2.1 17)) S X690 (Nat.le_of_ble_eq_true rfl) rfl lk6_14_6 (fun _ => ⟨_, rfl, rfl⟩) dX6_readAll_49 ?_
              refine r_wst (i := 14) S X690 (by decide) kw81 dX6_readAll_52 ?_
              refine r_iconst S dX6_readAll_55 (by decide) (fun v700 z701 => ?_)
              have r702 := R_eq z701
              refine r_iconst S dX6_readAll_56 (by decide) (fun v703 z704 => ?_)
              have r705 := R_eq z704
              refine r_kv (q_V (As := [.ref (G.2.2.1 14), .int v700, .int v703]) (rest := []) (K := 17) (ci := 5) S X690 (c_X5_add l G t691 q693 14 (by decide) v700 v703 (R_of (lo := -2147483648) (hi := 2147483647) r702 rfl) (R_of (lo := 0) (hi := 99) r705 rfl) q695 (by omega)) ck6_67 (Nat.le_of_ble_eq_true rfl) rfl (fun _ => ⟨_, rfl⟩) ⟨_, _, rfl⟩ ⟨Nat.le_of_ble_eq_true rfl, Nat.le_of_ble_eq_true rfl⟩ rfl hl.1 rfl (Nat.le_of_ble_eq_true rfl) dX6_readAll_57 ⟨Nat.le_refl 0, Nat.le_refl 0⟩) X690 (fun t708 H lc q706 X707 => ?_)
              unfold po_X5_add at q706
              obtain ⟨q709, q710, q711⟩ := q706
              have F712 : Fr [(16, 1), (16, 2), (17, 4), (1, 3), (1, 4), (1, 5), (1, 7), (1, 8), (16, 4)] [18, 19, 20, 201] τ t708 := Fr_call F697 q710 (by decide)
              refine r_iinc (k := 2) S dX6_readAll_60 hl rfl (by decide) (by decide) (fun v713 d714 ls z715 z716 hl => ?_)
              obtain ⟨e717, r718⟩ := i_add (lo := 1) (hi := 21) z715 r670 (R_eq z716) rfl
              have hl : lv_has ls 3 [(2, .int v713), (0, .ref (G.2.2.2.1 16)), (1, .int a0)] := hl
              refine r_goto (tgt := 12) S dX6_readAll_63 (by decide) ?_
              exact ih661 t708 _ _ _ v713 X707 q709 F712 q711 (R_of r718 rfl) ((q710 16 5 (by decide)).trans ((q694 16 5 (by decide)).trans ((q687 16 5 (by decide)).trans z659))) (lv_sub hl [1, 2, 0] rfl) (by omega)
            ·
              have r719 : R (0) (0) v692 := ⟨by omega, by omega⟩
              refine r_iconst S dX6_readAll_46 (by decide) (fun v720 z721 => ?_)
              have r722 := R_eq z721
              exact r_ret S hr hlk X690 ⟨q693, F697, q695, (R_of r722 rfl)⟩ (nr_bool (R_of (lo := 0) (hi := 1) r722 rfl)) dX6_readAll_47
    exact L660 _ t5 _ _ _ v14 X4 q7 F11 q9 (R_of r16 rfl) ((q8 16 5 (by decide)).trans z2) (lv_sub hl [1, 2, 0] rfl) (Nat.lt_succ_self _)
  ·
    have r723 : R (0) (0) v6 := ⟨by omega, by omega⟩
    refine r_iconst S dX6_readAll_8 (by decide) (fun v724 z725 => ?_)
    have r726 := R_eq z725
    exact r_ret S hr hlk X4 ⟨q7, F11, q9, (R_of r726 rfl)⟩ (nr_bool (R_of (lo := 0) (hi := 1) r726 rfl)) dX6_readAll_9
def po_X6_readCond_7 (τ : Tau)  (a0 : Int32)   (r : Int32) (u : Tau) : Prop := Inv u ∧ Fr [(16, 1), (16, 2), (17, 4), (1, 3), (1, 4), (1, 5), (1, 7), (1, 8), (16, 4)] [18, 19, 20, 201] τ u ∧ YT u ∧ R (0) (1) r
set_option maxHeartbeats 4000000 in
set_option maxRecDepth 100000 in
theorem c_X6_readCond_7 (l : Launch) (G : Gx) (τ : Tau) (hI : Inv τ) (a0 : Int32) (h_a0 : R (7) (7) a0) (hf_0 : R (1) (1) (τ 16 5)) (hYT : YT τ) : Ci l G yX6_readCond cX6_readCond 3 (some .boolean) 11 237 [.ref (G.2.2.2.1 16), .int a0] τ (po_X6_readCond_7 τ  a0  ) := by
  unfold Ci
  refine C_of (own := RX6) (by decide) rfl (Nat.le_of_ble_eq_true rfl) ?_
  intro p e s m below meth c ls S hr hlk X hl
  have hl : lv_has ls 3 [(0, .ref (G.2.2.2.1 16)), (1, .int a0)] := hl
  obtain ⟨v1, z2⟩ : ∃ x, τ 16 5 = x := ⟨_, rfl⟩
  rw [z2] at hf_0
  refine r_aload_n S dX6_readCond_0 rfl (lv_at hl 0 rfl) ?_
  refine r_iload_n S dX6_readCond_1 rfl (lv_at hl 1 rfl) ?_
  refine r_ki (q_V (As := [.int a0]) (rest := []) (K := 16) (ci := 6) S X (c_X6_readAll_7 l G τ hI a0 h_a0 (by rw [z2]; exact R_of hf_0 rfl) hYT) ck6_51 (Nat.le_of_ble_eq_true rfl) rfl (fun _ => ⟨_, rfl⟩) ⟨_, _, rfl⟩ ⟨Nat.le_of_ble_eq_true rfl, Nat.le_of_ble_eq_true rfl⟩ rfl hl.1 rfl (Nat.le_of_ble_eq_true rfl) dX6_readCond_2 ⟨Nat.le_refl 0, Nat.le_refl 0⟩) X (fun v6 t5 H lc q3 X4 => ?_)
  unfold po_X6_readAll_7 at q3
  obtain ⟨q7, q8, q9, q10⟩ := q3
  have F11 : Fr [(16, 1), (16, 2), (17, 4), (1, 3), (1, 4), (1, 5), (1, 7), (1, 8), (16, 4)] [18, 19, 20, 201] τ t5 := Fr_call Fr_rfl q8 (by decide)
  refine r_if_ne (tgt := 10) S dX6_readCond_5 (by decide) (fun c12 => ?_) (fun c12 => ?_)
  ·
    have r13 : R (1) (1) v6 := ⟨by omega, by omega⟩
    refine r_iconst S dX6_readCond_10 (by decide) (fun v14 z15 => ?_)
    have r16 := R_eq z15
    refine r_istore_n (lv' := [(2, .int v14), (0, .ref (G.2.2.2.1 16)), (1, .int a0)]) S dX6_readCond_11 rfl hl (by decide) rfl (fun ls hl => ?_)
    have L660 : ∀ (n : Nat) (t654 : Tau) (H : Heap) (lc : List Loc) (ls : Array Slot) (i652 : Int32), Xd G s H lc t654 → Inv t654 → Fr [(16, 1), (16, 2), (17, 4), (1, 3), (1, 4), (1, 5), (1, 7), (1, 8), (16, 4)] [18, 19, 20, 201] τ t654 → YT t654 → R (0) (24) i652 → t654 16 5 = v1 → lv_has ls 3 [(0, .ref (G.2.2.2.1 16)), (1, .int a0), (2, .int i652)] → (24 - i652.toInt).toNat < n → W p l e (Rm 11 237) s m ([.ref (G.2.2.2.1 16), .int a0] : List Value).toArray below meth c H lc 0 0 (MQ below (va_Qi (po_X6_readCond_7 τ  a0  ) (Bs G) G.2.2.2.2) ([.ref (G.2.2.2.1 16), .int a0] : List Value).toArray s 0 0 G.2.2.2.2) (F0 m 12 ls []) := by
      intro n
      induction n with
      | zero => intros; omega
      | succ n ih661 =>
        intro t654 H lc ls i652 X658 I655 F656 hYT657 r653 z659 hl hm
        refine r_iload_n S dX6_readCond_12 rfl (lv_at hl 2 rfl) ?_
        refine r_bipush S dX6_readCond_13 (by decide) (fun v662 z663 => ?_)
        have r664 := R_eq z663
        refine r_icmp_gt (tgt := 66) S dX6_readCond_15 (by decide) (fun c665 => ?_) (fun c665 => ?_)
        ·
          have r666 : R (21) (24) i652 := ⟨by omega, by omega⟩
          refine r_iconst S dX6_readCond_66 (by decide) (fun v667 z668 => ?_)
          have r669 := R_eq z668
          exact r_ret S hr hlk X658 ⟨I655, F656, hYT657, (R_of r669 rfl)⟩ (nr_bool (R_of (lo := 0) (hi := 1) r669 rfl)) dX6_readCond_67
        ·
          have r670 : R (0) (20) i652 := ⟨by omega, by omega⟩
          refine r_aload_n S dX6_readCond_18 rfl (lv_at hl 0 rfl) ?_
          refine r_get (K := 16) (v := .ref (G.2.2.2.1 1)) S X658 (Nat.le_of_ble_eq_true rfl) rfl lk6_39_6 (fun _ => ⟨_, rfl, rfl⟩) dX6_readCond_19 ?_
          refine r_wst (i := 13) S X658 (by decide) kw82 dX6_readCond_22 ?_
          refine r_ki (q_V (As := [.ref (G.2.2.1 13)]) (rest := []) (K := 1) (ci := 7) S X658 (c_X7_is l G t654 I655 13 (by decide)) ck6_60 (Nat.le_of_ble_eq_true rfl) rfl (fun _ => ⟨_, rfl⟩) ⟨_, _, rfl⟩ ⟨Nat.le_of_ble_eq_true rfl, Nat.le_of_ble_eq_true rfl⟩ rfl hl.1 rfl (Nat.le_of_ble_eq_true rfl) dX6_readCond_25 ⟨Nat.le_refl 0, Nat.le_refl 0⟩) X658 (fun v674 t673 H lc q671 X672 => ?_)
          unfold po_X7_is at q671
          obtain ⟨q675, q676⟩ := q671
          rw [q675] at X672
          refine r_if_eq (tgt := 66) S dX6_readCond_28 (by decide) (fun c677 => ?_) (fun c677 => ?_)
          ·
            have r678 : R (0) (0) v674 := ⟨by omega, by omega⟩
            refine r_iconst S dX6_readCond_66 (by decide) (fun v679 z680 => ?_)
            have r681 := R_eq z680
            exact r_ret S hr hlk X672 ⟨I655, F656, hYT657, (R_of r681 rfl)⟩ (nr_bool (R_of (lo := 0) (hi := 1) r681 rfl)) dX6_readCond_67
          ·
            have r682 : R (1) (1) v674 := ⟨by omega, by omega⟩
            refine r_aload_n S dX6_readCond_31 rfl (lv_at hl 0 rfl) ?_
            refine r_get (K := 16) (v := .ref (G.2.2.2.1 1)) S X672 (Nat.le_of_ble_eq_true rfl) rfl lk6_39_6 (fun _ => ⟨_, rfl, rfl⟩) dX6_readCond_32 ?_
            refine r_kv (q_V (As := []) (rest := []) (K := 1) (ci := 7) S X672 (c_X7_step l G t654 I655 ) ck6_64 (Nat.le_of_ble_eq_true rfl) rfl (fun _ => ⟨_, rfl⟩) ⟨_, _, rfl⟩ ⟨Nat.le_of_ble_eq_true rfl, Nat.le_of_ble_eq_true rfl⟩ rfl hl.1 rfl (Nat.le_of_ble_eq_true rfl) dX6_readCond_35 ⟨Nat.le_refl 0, Nat.le_refl 0⟩) X672 (fun t685 H lc q683 X684 => ?_)
            unfold po_X7_step at q683
            obtain ⟨q686, q687⟩ := q683
            have F688 : Fr [(16, 1), (16, 2), (17, 4), (1, 3), (1, 4), (1, 5), (1, 7), (1, 8), (16, 4)] [18, 19, 20, 201] τ t685 := Fr_call F656 q687 (by decide)
            refine r_aload_n S dX6_readCond_38 rfl (lv_at hl 0 rfl) ?_
            refine r_iload_n S dX6_readCond_39 rfl (lv_at hl 1 rfl) ?_
            refine r_ki (q_V (As := [.int a0]) (rest := []) (K := 16) (ci := 6) S X684 (c_X6_readAll_7 l G t685 q686 a0 h_a0 (by rw [((q687 16 5 (by decide)).trans z659)]; exact R_of hf_0 rfl) (YT_eq hYT657 (fun j => ((q687 18 j (by simp [fz])).trans rfl)) (fun j => ((q687 19 j (by simp [fz])).trans rfl)))) ck6_51 (Nat.le_of_ble_eq_true rfl) rfl (fun _ => ⟨_, rfl⟩) ⟨_, _, rfl⟩ ⟨Nat.le_of_ble_eq_true rfl, Nat.le_of_ble_eq_true rfl⟩ rfl hl.1 rfl (Nat.le_of_ble_eq_true rfl) dX6_readCond_40 ⟨Nat.le_refl 0, Nat.le_refl 0⟩) X684 (fun v692 t691 H lc q689 X690 => ?_)
            unfold po_X6_readAll_7 at q689
            obtain ⟨q693, q694, q695, q696⟩ := q689
            have F697 : Fr [(16, 1), (16, 2), (17, 4), (1, 3), (1, 4), (1, 5), (1, 7), (1, 8), (16, 4)] [18, 19, 20, 201] τ t691 := Fr_call F688 q694 (by decide)
            refine r_if_ne (tgt := 48) S dX6_readCond_43 (by decide) (fun c698 => ?_) (fun c698 => ?_)
            ·
              have r699 : R (1) (1) v692 := ⟨by omega, by omega⟩
              refine r_aload_n S dX6_readCond_48 rfl (lv_at hl 0 rfl) ?_
              refine r_get (K := 16) (v := .ref (G.2.2.2.1 17)) S X690 (Nat.le_of_ble_eq_true rfl) rfl lk6_14_6 (fun _ => ⟨_, rfl, rfl⟩) dX6_readCond_49 ?_
              refine r_wst (i := 13) S X690 (by decide) kw82 dX6_readCond_52 ?_
              refine r_iconst S dX6_readCond_55 (by decide) (fun v700 z701 => ?_)
              have r702 := R_eq z701
              refine r_iconst S dX6_readCond_56 (by decide) (fun v703 z704 => ?_)
              have r705 := R_eq z704
              refine r_kv (q_V (As := [.ref (G.2.2.1 13), .int v700, .int v703]) (rest := []) (K := 17) (ci := 5) S X690 (c_X5_add l G t691 q693 13 (by decide) v700 v703 (R_of (lo := -2147483648) (hi := 2147483647) r702 rfl) (R_of (lo := 0) (hi := 99) r705 rfl) q695 (by omega)) ck6_67 (Nat.le_of_ble_eq_true rfl) rfl (fun _ => ⟨_, rfl⟩) ⟨_, _, rfl⟩ ⟨Nat.le_of_ble_eq_true rfl, Nat.le_of_ble_eq_true rfl⟩ rfl hl.1 rfl (Nat.le_of_ble_eq_true rfl) dX6_readCond_57 ⟨Nat.le_refl 0, Nat.le_refl 0⟩) X690 (fun t708 H lc q706 X707 => ?_)
              unfold po_X5_add at q706
              obtain ⟨q709, q710, q711⟩ := q706
              have F712 : Fr [(16, 1), (16, 2), (17, 4), (1, 3), (1, 4), (1, 5), (1, 7), (1, 8), (16, 4)] [18, 19, 20, 201] τ t708 := Fr_call F697 q710 (by decide)
              refine r_iinc (k := 2) S dX6_readCond_60 hl rfl (by decide) (by decide) (fun v713 d714 ls z715 z716 hl => ?_)
              obtain ⟨e717, r718⟩ := i_add (lo := 1) (hi := 21) z715 r670 (R_eq z716) rfl
              have hl : lv_has ls 3 [(2, .int v713), (0, .ref (G.2.2.2.1 16)), (1, .int a0)] := hl
              refine r_goto (tgt := 12) S dX6_readCond_63 (by decide) ?_
              exact ih661 t708 _ _ _ v713 X707 q709 F712 q711 (R_of r718 rfl) ((q710 16 5 (by decide)).trans ((q694 16 5 (by decide)).trans ((q687 16 5 (by decide)).trans z659))) (lv_sub hl [1, 2, 0] rfl) (by omega)
            ·
              have r719 : R (0) (0) v692 := ⟨by omega, by omega⟩
              refine r_iconst S dX6_readCond_46 (by decide) (fun v720 z721 => ?_)
              have r722 := R_eq z721
              exact r_ret S hr hlk X690 ⟨q693, F697, q695, (R_of r722 rfl)⟩ (nr_bool (R_of (lo := 0) (hi := 1) r722 rfl)) dX6_readCond_47
    exact L660 _ t5 _ _ _ v14 X4 q7 F11 q9 (R_of r16 rfl) ((q8 16 5 (by decide)).trans z2) (lv_sub hl [1, 2, 0] rfl) (Nat.lt_succ_self _)
  ·
    have r723 : R (0) (0) v6 := ⟨by omega, by omega⟩
    refine r_iconst S dX6_readCond_8 (by decide) (fun v724 z725 => ?_)
    have r726 := R_eq z725
    exact r_ret S hr hlk X4 ⟨q7, F11, q9, (R_of r726 rfl)⟩ (nr_bool (R_of (lo := 0) (hi := 1) r726 rfl)) dX6_readCond_9
def po_X6_readOne_6 (τ : Tau)  (a0 : Int32)   (r : Int32) (u : Tau) : Prop := Inv u ∧ Fr [(16, 1), (16, 2), (17, 4), (1, 3), (1, 4), (1, 5), (1, 7), (1, 8), (16, 4)] [18, 19, 20, 201] τ u ∧ YT u ∧ R (0) (1) r
set_option maxHeartbeats 4000000 in
set_option maxRecDepth 100000 in
theorem c_X6_readOne_6 (l : Launch) (G : Gx) (τ : Tau) (hI : Inv τ) (a0 : Int32) (h_a0 : R (6) (6) a0) (hf_0 : R (1) (1) (τ 16 5)) (hYT : YT τ) : Ci l G yX6_readOne cX6_readOne 3 (some .boolean) 12 259 [.ref (G.2.2.2.1 16), .int a0] τ (po_X6_readOne_6 τ  a0  ) := by
  unfold Ci
  refine C_of (own := RX6) (by decide) rfl (Nat.le_of_ble_eq_true rfl) ?_
  intro p e s m below meth c ls S hr hlk X hl
  have hl : lv_has ls 3 [(0, .ref (G.2.2.2.1 16)), (1, .int a0)] := hl
  obtain ⟨v1, z2⟩ : ∃ x, τ 16 5 = x := ⟨_, rfl⟩
  rw [z2] at hf_0
  refine r_aload_n S dX6_readOne_0 rfl (lv_at hl 0 rfl) ?_
  refine r_kw2 (q_V (As := []) (rest := []) (K := 16) (ci := 6) S X (c_X6_firstWord l G τ hI ) ck6_77 (Nat.le_of_ble_eq_true rfl) rfl (fun _ => ⟨_, rfl⟩) ⟨_, _, rfl⟩ ⟨Nat.le_of_ble_eq_true rfl, Nat.le_of_ble_eq_true rfl⟩ rfl hl.1 rfl (Nat.le_of_ble_eq_true rfl) dX6_readOne_1 ⟨Nat.le_refl 0, Nat.le_refl 0⟩) X (fun _ _ h => h.2) (fun y6 t5 H lc q3 X4 h7 => ?_) (fun y6 t5 H lc w8 q3 X4 h_w8 e9 => ?_)
  ·
    unfold po_X6_firstWord at q3
    obtain ⟨q10, q11⟩ := q3
    rw [q10] at X4
    refine lv_astore_nN (lv' := [(2, .null), (0, .ref (G.2.2.2.1 16)), (1, .int a0)]) S.1.1 S.1.2.1 dX6_readOne_4 rfl hl (by decide) rfl (fun ls hl => ?_)
    refine lv_aload_nN S.1.1 S.1.2.1 dX6_readOne_5 rfl (lv_at hl 0 rfl) ?_
    refine lv_ifnonnullN S.1.1 S.1.2.1 dX6_readOne_6 ?_
    refine r_aload_n S dX6_readOne_9 rfl (lv_at hl 1 rfl) ?_
    refine r_get (K := 16) (v := .ref (G.2.2.2.1 1)) S X4 (Nat.le_of_ble_eq_true rfl) rfl lk6_39_6 (fun _ => ⟨_, rfl, rfl⟩) dX6_readOne_10 ?_
    refine r_bipush S dX6_readOne_13 (by decide) (fun v12 z13 => ?_)
    have r14 := R_eq z13
    refine r_ki (q_V (As := [.int v12]) (rest := []) (K := 1) (ci := 7) S X4 (c_X7_isSigned l G τ hI v12 (R_of (lo := 0) (hi := 65535) r14 rfl)) ck6_81 (Nat.le_of_ble_eq_true rfl) rfl (fun _ => ⟨_, rfl⟩) ⟨_, _, rfl⟩ ⟨Nat.le_of_ble_eq_true rfl, Nat.le_of_ble_eq_true rfl⟩ rfl hl.1 rfl (Nat.le_of_ble_eq_true rfl) dX6_readOne_15 ⟨Nat.le_refl 0, Nat.le_refl 0⟩) X4 (fun v18 t17 H lc q15 X16 => ?_)
    unfold po_X7_isSigned at q15
    obtain ⟨q19, q20⟩ := q15
    rw [q19] at X16
    refine r_if_ne (tgt := 27) S dX6_readOne_18 (by decide) (fun c21 => ?_) (fun c21 => ?_)
    ·
      have r22 : R (1) (1) v18 := ⟨by omega, by omega⟩
      refine r_aload_n S dX6_readOne_27 rfl (lv_at hl 1 rfl) ?_
      refine r_getn (K := 16) S X16 (Nat.le_of_ble_eq_true rfl) rfl lk6_28_6 (fun _ => ⟨_, rfl, rfl⟩) dX6_readOne_28 (fun v23 z24 => ?_)
      have r25 : R (0) (20) v23 := rd hI rfl z24
      refine r_bipush S dX6_readOne_31 (by decide) (fun v26 z27 => ?_)
      have r28 := R_eq z27
      refine r_icmp_ge (tgt := 42) S dX6_readOne_33 (by decide) (fun c29 => ?_) (fun c29 => ?_)
      ·
        have r30 : R (20) (20) v23 := ⟨by omega, by omega⟩
        refine r_aload_n S dX6_readOne_42 rfl (lv_at hl 1 rfl) ?_
        refine r_iconst S dX6_readOne_43 (by decide) (fun v31 z32 => ?_)
        have r33 := R_eq z32
        refine r_ki (q_U (As := [.int v31]) (rest := []) (K := 16) (ci := 6) S X16 (c_X8_fail_16 l G τ hI v31 (R_of (lo := -2147483648) (hi := 2147483647) r33 rfl)) ck6_48_6 (Nat.le_of_ble_eq_true rfl) rfl (fun _ => ⟨_, rfl⟩) ⟨_, _, rfl⟩ ⟨Nat.le_of_ble_eq_true rfl, Nat.le_of_ble_eq_true rfl⟩ rfl hl.1 rfl (Nat.le_of_ble_eq_true rfl) dX6_readOne_44 ⟨Nat.le_refl 0, Nat.le_refl 0⟩) X16 (fun v37 t36 H lc q34 X35 => ?_)
        unfold po_X8_fail_16 at q34
        obtain ⟨q38, q39, q40⟩ := q34
        have F41 : Fr [(16, 1), (16, 2), (17, 4), (1, 3), (1, 4), (1, 5), (1, 7), (1, 8), (16, 4)] [18, 19, 20, 201] τ t36 := Fr_call Fr_rfl q39 (by decide)
        exact r_ret S hr hlk X35 ⟨q38, F41, (YT_eq hYT (fun j => ((q39 18 j (by simp [fz])).trans rfl)) (fun j => ((q39 19 j (by simp [fz])).trans rfl))), (R_of q40 rfl)⟩ (nr_bool (R_of (lo := 0) (hi := 1) q40 rfl)) dX6_readOne_47
      ·
        have r42 : R (0) (19) v23 := ⟨by omega, by omega⟩
        refine r_iload_n S dX6_readOne_36 rfl (lv_at hl 2 rfl) ?_
        refine r_bipush S dX6_readOne_37 (by decide) (fun v43 z44 => ?_)
        have r45 := R_eq z44
        refine r_icmp_le (tgt := 48) S dX6_readOne_39 (by decide) (fun c46 => ?_) (fun c46 => ?_)
        ·
          refine r_aload_n S dX6_readOne_48 rfl (lv_at hl 1 rfl) ?_
          refine r_dup S dX6_readOne_49 rfl ?_
          refine r_geti (K := 16) S X16 (Nat.le_of_ble_eq_true rfl) rfl lk6_28_6 (fun _ => ⟨_, rfl, rfl⟩) z24 dX6_readOne_50 ?_
          refine r_iconst S dX6_readOne_53 (by decide) (fun v47 z48 => ?_)
          have r49 := R_eq z48
          refine r_iadd S dX6_readOne_54 (fun v50 z51 => ?_)
          obtain ⟨e52, r53⟩ := i_add (lo := 1) (hi := 20) z51 r42 r49 rfl
          refine r_put (K := 16) (ty := .int) S X16 (Nat.le_of_ble_eq_true rfl) rfl lk6_28_6 (fun _ => ⟨_, rfl, Nat.le_of_ble_eq_true rfl, rfl⟩) (fun _ _ _ h => by cases h; exact ⟨rfl, rfl⟩) rfl rfl dX6_readOne_55 (fun t54 H lc M55 X56 => ?_)
          have I57 := Inv_mu hI M55 (show Rg (kd 16) 4 v50 from (R_of (lo := 0) (hi := 20) r53 rfl))
          have F58 : Fr [(16, 1), (16, 2), (17, 4), (1, 3), (1, 4), (1, 5), (1, 7), (1, 8), (16, 4)] [18, 19, 20, 201] τ t54 := Fr_mu Fr_rfl M55 (by decide)
          refine r_aload_n S dX6_readOne_58 rfl (lv_at hl 1 rfl) ?_
          refine r_get (K := 16) (v := .ref (G.2.2.2.1 1)) S X56 (Nat.le_of_ble_eq_true rfl) rfl lk6_39_6 (fun _ => ⟨_, rfl, rfl⟩) dX6_readOne_59 ?_
          refine r_kv (q_V (As := []) (rest := []) (K := 1) (ci := 7) S X56 (c_X7_step l G t54 I57 ) ck6_64 (Nat.le_of_ble_eq_true rfl) rfl (fun _ => ⟨_, rfl⟩) ⟨_, _, rfl⟩ ⟨Nat.le_of_ble_eq_true rfl, Nat.le_of_ble_eq_true rfl⟩ rfl hl.1 rfl (Nat.le_of_ble_eq_true rfl) dX6_readOne_62 ⟨Nat.le_refl 0, Nat.le_refl 0⟩) X56 (fun t61 H lc q59 X60 => ?_)
          unfold po_X7_step at q59
          obtain ⟨q62, q63⟩ := q59
          have F64 : Fr [(16, 1), (16, 2), (17, 4), (1, 3), (1, 4), (1, 5), (1, 7), (1, 8), (16, 4)] [18, 19, 20, 201] τ t61 := Fr_call F58 q63 (by decide)
          refine lv_aload_nN S.1.1 S.1.2.1 dX6_readOne_65 rfl (lv_at hl 0 rfl) ?_
          refine lv_ifnonnullN S.1.1 S.1.2.1 dX6_readOne_66 ?_
          refine r_aload_n S dX6_readOne_69 rfl (lv_at hl 1 rfl) ?_
          refine r_iload_n S dX6_readOne_70 rfl (lv_at hl 2 rfl) ?_
          refine r_iconst S dX6_readOne_71 (by decide) (fun v65 z66 => ?_)
          have r67 := R_eq z66
          refine r_iadd S dX6_readOne_72 (fun v68 z69 => ?_)
          obtain ⟨e70, r71⟩ := i_add (lo := 7) (hi := 7) z69 h_a0 r67 rfl
          refine r_ki (q_V (As := [.int v68]) (rest := []) (K := 16) (ci := 6) S X60 (c_X6_readCond_7 l G t61 q62 v68 r71 (by rw [((q63 16 5 (by decide)).trans ((M55.2 16 5 (Or.inr (by decide))).trans z2))]; exact R_of hf_0 rfl) (YT_eq hYT (fun j => ((q63 18 j (by simp [fz])).trans ((M55.2 18 j (Or.inl (by decide))).trans rfl))) (fun j => ((q63 19 j (by simp [fz])).trans ((M55.2 19 j (Or.inl (by decide))).trans rfl))))) ck6_35 (Nat.le_of_ble_eq_true rfl) rfl (fun _ => ⟨_, rfl⟩) ⟨_, _, rfl⟩ ⟨Nat.le_of_ble_eq_true rfl, Nat.le_of_ble_eq_true rfl⟩ rfl hl.1 rfl (Nat.le_of_ble_eq_true rfl) dX6_readOne_73 ⟨Nat.le_refl 0, Nat.le_refl 0⟩) X60 (fun v75 t74 H lc q72 X73 => ?_)
          unfold po_X6_readCond_7 at q72
          obtain ⟨q76, q77, q78, q79⟩ := q72
          have F80 : Fr [(16, 1), (16, 2), (17, 4), (1, 3), (1, 4), (1, 5), (1, 7), (1, 8), (16, 4)] [18, 19, 20, 201] τ t74 := Fr_call F64 q77 (by decide)
          refine r_if_eq (tgt := 92) S dX6_readOne_76 (by decide) (fun c81 => ?_) (fun c81 => ?_)
          ·
            have r82 : R (0) (0) v75 := ⟨by omega, by omega⟩
            refine r_iconst S dX6_readOne_92 (by decide) (fun v83 z84 => ?_)
            have r85 := R_eq z84
            exact r_ret S hr hlk X73 ⟨q76, F80, q78, (R_of r85 rfl)⟩ (nr_bool (R_of (lo := 0) (hi := 1) r85 rfl)) dX6_readOne_93
          ·
            have r86 : R (1) (1) v75 := ⟨by omega, by omega⟩
            refine r_aload_n S dX6_readOne_79 rfl (lv_at hl 1 rfl) ?_
            refine r_bipush S dX6_readOne_80 (by decide) (fun v87 z88 => ?_)
            have r89 := R_eq z88
            refine r_ki (q_U (As := [.int v87]) (rest := []) (K := 16) (ci := 6) S X73 (c_X8_takeSign_16 l G t74 q76 v87 (R_of (lo := 0) (hi := 65535) r89 rfl)) ck6_85_6 (Nat.le_of_ble_eq_true rfl) rfl (fun _ => ⟨_, rfl⟩) ⟨_, _, rfl⟩ ⟨Nat.le_of_ble_eq_true rfl, Nat.le_of_ble_eq_true rfl⟩ rfl hl.1 rfl (Nat.le_of_ble_eq_true rfl) dX6_readOne_82 ⟨Nat.le_refl 0, Nat.le_refl 0⟩) X73 (fun v93 t92 H lc q90 X91 => ?_)
            unfold po_X8_takeSign_16 at q90
            obtain ⟨q94, q95, q96⟩ := q90
            have F97 : Fr [(16, 1), (16, 2), (17, 4), (1, 3), (1, 4), (1, 5), (1, 7), (1, 8), (16, 4)] [18, 19, 20, 201] τ t92 := Fr_call F80 q95 (by decide)
            refine r_if_eq (tgt := 92) S dX6_readOne_85 (by decide) (fun c98 => ?_) (fun c98 => ?_)
            ·
              have r99 : R (0) (0) v93 := ⟨by omega, by omega⟩
              refine r_iconst S dX6_readOne_92 (by decide) (fun v100 z101 => ?_)
              have r102 := R_eq z101
              exact r_ret S hr hlk X91 ⟨q94, F97, (YT_eq q78 (fun j => ((q95 18 j (by simp [fz])).trans rfl)) (fun j => ((q95 19 j (by simp [fz])).trans rfl))), (R_of r102 rfl)⟩ (nr_bool (R_of (lo := 0) (hi := 1) r102 rfl)) dX6_readOne_93
            ·
              have r103 : R (1) (1) v93 := ⟨by omega, by omega⟩
              refine r_iconst S dX6_readOne_88 (by decide) (fun v104 z105 => ?_)
              have r106 := R_eq z105
              refine r_goto (tgt := 93) S dX6_readOne_89 (by decide) ?_
              exact r_ret S hr hlk X91 ⟨q94, F97, (YT_eq q78 (fun j => ((q95 18 j (by simp [fz])).trans rfl)) (fun j => ((q95 19 j (by simp [fz])).trans rfl))), (R_of r106 rfl)⟩ (nr_bool (R_of (lo := 0) (hi := 1) r106 rfl)) dX6_readOne_93
        ·
          exfalso; omega
    ·
      have r107 : R (0) (0) v18 := ⟨by omega, by omega⟩
      refine r_aload_n S dX6_readOne_21 rfl (lv_at hl 1 rfl) ?_
      refine r_iconst S dX6_readOne_22 (by decide) (fun v108 z109 => ?_)
      have r110 := R_eq z109
      refine r_ki (q_U (As := [.int v108]) (rest := []) (K := 16) (ci := 6) S X16 (c_X8_fail_16 l G τ hI v108 (R_of (lo := -2147483648) (hi := 2147483647) r110 rfl)) ck6_48_6 (Nat.le_of_ble_eq_true rfl) rfl (fun _ => ⟨_, rfl⟩) ⟨_, _, rfl⟩ ⟨Nat.le_of_ble_eq_true rfl, Nat.le_of_ble_eq_true rfl⟩ rfl hl.1 rfl (Nat.le_of_ble_eq_true rfl) dX6_readOne_23 ⟨Nat.le_refl 0, Nat.le_refl 0⟩) X16 (fun v114 t113 H lc q111 X112 => ?_)
      unfold po_X8_fail_16 at q111
      obtain ⟨q115, q116, q117⟩ := q111
      have F118 : Fr [(16, 1), (16, 2), (17, 4), (1, 3), (1, 4), (1, 5), (1, 7), (1, 8), (16, 4)] [18, 19, 20, 201] τ t113 := Fr_call Fr_rfl q116 (by decide)
      exact r_ret S hr hlk X112 ⟨q115, F118, (YT_eq hYT (fun j => ((q116 18 j (by simp [fz])).trans rfl)) (fun j => ((q116 19 j (by simp [fz])).trans rfl))), (R_of q117 rfl)⟩ (nr_bool (R_of (lo := 0) (hi := 1) q117 rfl)) dX6_readOne_26
  ·
    unfold po_X6_firstWord at q3
    obtain ⟨q119, q120⟩ := q3
    rw [q119] at X4
    refine r_astore_n (lv' := [(2, .ref (G.2.2.1 w8)), (0, .ref (G.2.2.2.1 16)), (1, .int a0)]) S dX6_readOne_4 rfl hl (by decide) rfl (fun ls hl => ?_)
    refine r_aload_n S dX6_readOne_5 rfl (lv_at hl 0 rfl) ?_
    refine lv_ifnonnull (tgt := 27) S.1.1 S.1.2.1 dX6_readOne_6 (by decide) ?_
    refine r_aload_n S dX6_readOne_27 rfl (lv_at hl 1 rfl) ?_
    refine r_getn (K := 16) S X4 (Nat.le_of_ble_eq_true rfl) rfl lk6_28_6 (fun _ => ⟨_, rfl, rfl⟩) dX6_readOne_28 (fun v121 z122 => ?_)
    have r123 : R (0) (20) v121 := rd hI rfl z122
    refine r_bipush S dX6_readOne_31 (by decide) (fun v124 z125 => ?_)
    have r126 := R_eq z125
    refine r_icmp_ge (tgt := 42) S dX6_readOne_33 (by decide) (fun c127 => ?_) (fun c127 => ?_)
    ·
      have r128 : R (20) (20) v121 := ⟨by omega, by omega⟩
      refine r_aload_n S dX6_readOne_42 rfl (lv_at hl 1 rfl) ?_
      refine r_iconst S dX6_readOne_43 (by decide) (fun v129 z130 => ?_)
      have r131 := R_eq z130
      refine r_ki (q_U (As := [.int v129]) (rest := []) (K := 16) (ci := 6) S X4 (c_X8_fail_16 l G τ hI v129 (R_of (lo := -2147483648) (hi := 2147483647) r131 rfl)) ck6_48_6 (Nat.le_of_ble_eq_true rfl) rfl (fun _ => ⟨_, rfl⟩) ⟨_, _, rfl⟩ ⟨Nat.le_of_ble_eq_true rfl, Nat.le_of_ble_eq_true rfl⟩ rfl hl.1 rfl (Nat.le_of_ble_eq_true rfl) dX6_readOne_44 ⟨Nat.le_refl 0, Nat.le_refl 0⟩) X4 (fun v135 t134 H lc q132 X133 => ?_)
      unfold po_X8_fail_16 at q132
      obtain ⟨q136, q137, q138⟩ := q132
      have F139 : Fr [(16, 1), (16, 2), (17, 4), (1, 3), (1, 4), (1, 5), (1, 7), (1, 8), (16, 4)] [18, 19, 20, 201] τ t134 := Fr_call Fr_rfl q137 (by decide)
      exact r_ret S hr hlk X133 ⟨q136, F139, (YT_eq hYT (fun j => ((q137 18 j (by simp [fz])).trans rfl)) (fun j => ((q137 19 j (by simp [fz])).trans rfl))), (R_of q138 rfl)⟩ (nr_bool (R_of (lo := 0) (hi := 1) q138 rfl)) dX6_readOne_47
    ·
      have r140 : R (0) (19) v121 := ⟨by omega, by omega⟩
      refine r_iload_n S dX6_readOne_36 rfl (lv_at hl 2 rfl) ?_
      refine r_bipush S dX6_readOne_37 (by decide) (fun v141 z142 => ?_)
      have r143 := R_eq z142
      refine r_icmp_le (tgt := 48) S dX6_readOne_39 (by decide) (fun c144 => ?_) (fun c144 => ?_)
      ·
        refine r_aload_n S dX6_readOne_48 rfl (lv_at hl 1 rfl) ?_
        refine r_dup S dX6_readOne_49 rfl ?_
        refine r_geti (K := 16) S X4 (Nat.le_of_ble_eq_true rfl) rfl lk6_28_6 (fun _ => ⟨_, rfl, rfl⟩) z122 dX6_readOne_50 ?_
        refine r_iconst S dX6_readOne_53 (by decide) (fun v145 z146 => ?_)
        have r147 := R_eq z146
        refine r_iadd S dX6_readOne_54 (fun v148 z149 => ?_)
        obtain ⟨e150, r151⟩ := i_add (lo := 1) (hi := 20) z149 r140 r147 rfl
        refine r_put (K := 16) (ty := .int) S X4 (Nat.le_of_ble_eq_true rfl) rfl lk6_28_6 (fun _ => ⟨_, rfl, Nat.le_of_ble_eq_true rfl, rfl⟩) (fun _ _ _ h => by cases h; exact ⟨rfl, rfl⟩) rfl rfl dX6_readOne_55 (fun t152 H lc M153 X154 => ?_)
        have I155 := Inv_mu hI M153 (show Rg (kd 16) 4 v148 from (R_of (lo := 0) (hi := 20) r151 rfl))
        have F156 : Fr [(16, 1), (16, 2), (17, 4), (1, 3), (1, 4), (1, 5), (1, 7), (1, 8), (16, 4)] [18, 19, 20, 201] τ t152 := Fr_mu Fr_rfl M153 (by decide)
        refine r_aload_n S dX6_readOne_58 rfl (lv_at hl 1 rfl) ?_
        refine r_get (K := 16) (v := .ref (G.2.2.2.1 1)) S X154 (Nat.le_of_ble_eq_true rfl) rfl lk6_39_6 (fun _ => ⟨_, rfl, rfl⟩) dX6_readOne_59 ?_
        refine r_kv (q_V (As := []) (rest := []) (K := 1) (ci := 7) S X154 (c_X7_step l G t152 I155 ) ck6_64 (Nat.le_of_ble_eq_true rfl) rfl (fun _ => ⟨_, rfl⟩) ⟨_, _, rfl⟩ ⟨Nat.le_of_ble_eq_true rfl, Nat.le_of_ble_eq_true rfl⟩ rfl hl.1 rfl (Nat.le_of_ble_eq_true rfl) dX6_readOne_62 ⟨Nat.le_refl 0, Nat.le_refl 0⟩) X154 (fun t159 H lc q157 X158 => ?_)
        unfold po_X7_step at q157
        obtain ⟨q160, q161⟩ := q157
        have F162 : Fr [(16, 1), (16, 2), (17, 4), (1, 3), (1, 4), (1, 5), (1, 7), (1, 8), (16, 4)] [18, 19, 20, 201] τ t159 := Fr_call F156 q161 (by decide)
        refine r_aload_n S dX6_readOne_65 rfl (lv_at hl 0 rfl) ?_
        refine lv_ifnonnull (tgt := 94) S.1.1 S.1.2.1 dX6_readOne_66 (by decide) ?_
        refine r_aload_n S dX6_readOne_94 rfl (lv_at hl 0 rfl) ?_
        refine r_wst (i := 15) S X158 (by decide) kw74 dX6_readOne_95 ?_
        refine r_cacmp_ne (tgt := 127) S h_w8 (by decide) dX6_readOne_98 (by decide) (fun c163 => ?_) (fun c163 => ?_)
        ·
          refine r_aload_n S dX6_readOne_127 rfl (lv_at hl 1 rfl) ?_
          refine r_aload_n S dX6_readOne_128 rfl (lv_at hl 0 rfl) ?_
          refine r_ki (q_V (As := [.ref (G.2.2.1 w8)]) (rest := []) (K := 16) (ci := 6) S X158 (c_X6_readPlainOne l G t159 q160 w8 h_w8 (by rw [((q161 16 5 (by decide)).trans ((M153.2 16 5 (Or.inr (by decide))).trans z2))]; exact R_of hf_0 rfl) (YT_eq hYT (fun j => ((q161 18 j (by simp [fz])).trans ((M153.2 18 j (Or.inl (by decide))).trans rfl))) (fun j => ((q161 19 j (by simp [fz])).trans ((M153.2 19 j (Or.inl (by decide))).trans rfl))))) ck6_91 (Nat.le_of_ble_eq_true rfl) rfl (fun _ => ⟨_, rfl⟩) ⟨_, _, rfl⟩ ⟨Nat.le_of_ble_eq_true rfl, Nat.le_of_ble_eq_true rfl⟩ rfl hl.1 rfl (Nat.le_of_ble_eq_true rfl) dX6_readOne_129 ⟨Nat.le_refl 0, Nat.le_refl 0⟩) X158 (fun v167 t166 H lc q164 X165 => ?_)
          unfold po_X6_readPlainOne at q164
          obtain ⟨q168, q169, q170, q171⟩ := q164
          have F172 : Fr [(16, 1), (16, 2), (17, 4), (1, 3), (1, 4), (1, 5), (1, 7), (1, 8), (16, 4)] [18, 19, 20, 201] τ t166 := Fr_call F162 q169 (by decide)
          exact r_ret S hr hlk X165 ⟨q168, F172, q170, q171⟩ (nr_bool (R_of (lo := 0) (hi := 1) q171 rfl)) dX6_readOne_132
        ·
          refine r_aload_n S dX6_readOne_101 rfl (lv_at hl 1 rfl) ?_
          refine r_iload_n S dX6_readOne_102 rfl (lv_at hl 2 rfl) ?_
          refine r_iconst S dX6_readOne_103 (by decide) (fun v173 z174 => ?_)
          have r175 := R_eq z174
          refine r_iadd S dX6_readOne_104 (fun v176 z177 => ?_)
          obtain ⟨e178, r179⟩ := i_add (lo := 7) (hi := 7) z177 h_a0 r175 rfl
          refine r_ki (q_V (As := [.int v176]) (rest := []) (K := 16) (ci := 6) S X158 (c_X6_readOne_7 l G t159 q160 v176 r179 (by rw [((q161 16 5 (by decide)).trans ((M153.2 16 5 (Or.inr (by decide))).trans z2))]; exact R_of hf_0 rfl) (YT_eq hYT (fun j => ((q161 18 j (by simp [fz])).trans ((M153.2 18 j (Or.inl (by decide))).trans rfl))) (fun j => ((q161 19 j (by simp [fz])).trans ((M153.2 19 j (Or.inl (by decide))).trans rfl))))) ck6_71 (Nat.le_of_ble_eq_true rfl) rfl (fun _ => ⟨_, rfl⟩) ⟨_, _, rfl⟩ ⟨Nat.le_of_ble_eq_true rfl, Nat.le_of_ble_eq_true rfl⟩ rfl hl.1 rfl (Nat.le_of_ble_eq_true rfl) dX6_readOne_105 ⟨Nat.le_refl 0, Nat.le_refl 0⟩) X158 (fun v183 t182 H lc q180 X181 => ?_)
          unfold po_X6_readOne_7 at q180
          obtain ⟨q184, q185, q186, q187⟩ := q180
          have F188 : Fr [(16, 1), (16, 2), (17, 4), (1, 3), (1, 4), (1, 5), (1, 7), (1, 8), (16, 4)] [18, 19, 20, 201] τ t182 := Fr_call F162 q185 (by decide)
          refine r_if_ne (tgt := 113) S dX6_readOne_108 (by decide) (fun c189 => ?_) (fun c189 => ?_)
          ·
            have r190 : R (1) (1) v183 := ⟨by omega, by omega⟩
            refine r_aload_n S dX6_readOne_113 rfl (lv_at hl 1 rfl) ?_
            refine r_get (K := 16) (v := .ref (G.2.2.2.1 17)) S X181 (Nat.le_of_ble_eq_true rfl) rfl lk6_14_6 (fun _ => ⟨_, rfl, rfl⟩) dX6_readOne_114 ?_
            refine r_wst (i := 15) S X181 (by decide) kw74 dX6_readOne_117 ?_
            refine r_iconst S dX6_readOne_120 (by decide) (fun v191 z192 => ?_)
            have r193 := R_eq z192
            refine r_iconst S dX6_readOne_121 (by decide) (fun v194 z195 => ?_)
            have r196 := R_eq z195
            refine r_kv (q_V (As := [.ref (G.2.2.1 15), .int v191, .int v194]) (rest := []) (K := 17) (ci := 5) S X181 (c_X5_add l G t182 q184 15 (by decide) v191 v194 (R_of (lo := -2147483648) (hi := 2147483647) r193 rfl) (R_of (lo := 0) (hi := 99) r196 rfl) q186 (by omega)) ck6_67 (Nat.le_of_ble_eq_true rfl) rfl (fun _ => ⟨_, rfl⟩) ⟨_, _, rfl⟩ ⟨Nat.le_of_ble_eq_true rfl, Nat.le_of_ble_eq_true rfl⟩ rfl hl.1 rfl (Nat.le_of_ble_eq_true rfl) dX6_readOne_122 ⟨Nat.le_refl 0, Nat.le_refl 0⟩) X181 (fun t199 H lc q197 X198 => ?_)
            unfold po_X5_add at q197
            obtain ⟨q200, q201, q202⟩ := q197
            have F203 : Fr [(16, 1), (16, 2), (17, 4), (1, 3), (1, 4), (1, 5), (1, 7), (1, 8), (16, 4)] [18, 19, 20, 201] τ t199 := Fr_call F188 q201 (by decide)
            refine r_iconst S dX6_readOne_125 (by decide) (fun v204 z205 => ?_)
            have r206 := R_eq z205
            exact r_ret S hr hlk X198 ⟨q200, F203, q202, (R_of r206 rfl)⟩ (nr_bool (R_of (lo := 0) (hi := 1) r206 rfl)) dX6_readOne_126
          ·
            have r207 : R (0) (0) v183 := ⟨by omega, by omega⟩
            refine r_iconst S dX6_readOne_111 (by decide) (fun v208 z209 => ?_)
            have r210 := R_eq z209
            exact r_ret S hr hlk X181 ⟨q184, F188, q186, (R_of r210 rfl)⟩ (nr_bool (R_of (lo := 0) (hi := 1) r210 rfl)) dX6_readOne_112
      ·
        exfalso; omega
def po_X6_readAll_6 (τ : Tau)  (a0 : Int32)   (r : Int32) (u : Tau) : Prop := Inv u ∧ Fr [(16, 1), (16, 2), (17, 4), (1, 3), (1, 4), (1, 5), (1, 7), (1, 8), (16, 4)] [18, 19, 20, 201] τ u ∧ YT u ∧ R (0) (1) r
set_option maxHeartbeats 4000000 in
set_option maxRecDepth 100000 in
theorem c_X6_readAll_6 (l : Launch) (G : Gx) (τ : Tau) (hI : Inv τ) (a0 : Int32) (h_a0 : R (6) (6) a0) (hf_0 : R (1) (1) (τ 16 5)) (hYT : YT τ) : Ci l G yX6_readAll cX6_readAll 3 (some .boolean) 13 281 [.ref (G.2.2.2.1 16), .int a0] τ (po_X6_readAll_6 τ  a0  ) := by
  unfold Ci
  refine C_of (own := RX6) (by decide) rfl (Nat.le_of_ble_eq_true rfl) ?_
  intro p e s m below meth c ls S hr hlk X hl
  have hl : lv_has ls 3 [(0, .ref (G.2.2.2.1 16)), (1, .int a0)] := hl
  obtain ⟨v1, z2⟩ : ∃ x, τ 16 5 = x := ⟨_, rfl⟩
  rw [z2] at hf_0
  refine r_aload_n S dX6_readAll_0 rfl (lv_at hl 0 rfl) ?_
  refine r_iload_n S dX6_readAll_1 rfl (lv_at hl 1 rfl) ?_
  refine r_ki (q_V (As := [.int a0]) (rest := []) (K := 16) (ci := 6) S X (c_X6_readOne_6 l G τ hI a0 h_a0 (by rw [z2]; exact R_of hf_0 rfl) hYT) ck6_71 (Nat.le_of_ble_eq_true rfl) rfl (fun _ => ⟨_, rfl⟩) ⟨_, _, rfl⟩ ⟨Nat.le_of_ble_eq_true rfl, Nat.le_of_ble_eq_true rfl⟩ rfl hl.1 rfl (Nat.le_of_ble_eq_true rfl) dX6_readAll_2 ⟨Nat.le_refl 0, Nat.le_refl 0⟩) X (fun v6 t5 H lc q3 X4 => ?_)
  unfold po_X6_readOne_6 at q3
  obtain ⟨q7, q8, q9, q10⟩ := q3
  have F11 : Fr [(16, 1), (16, 2), (17, 4), (1, 3), (1, 4), (1, 5), (1, 7), (1, 8), (16, 4)] [18, 19, 20, 201] τ t5 := Fr_call Fr_rfl q8 (by decide)
  refine r_if_ne (tgt := 10) S dX6_readAll_5 (by decide) (fun c12 => ?_) (fun c12 => ?_)
  ·
    have r13 : R (1) (1) v6 := ⟨by omega, by omega⟩
    refine r_iconst S dX6_readAll_10 (by decide) (fun v14 z15 => ?_)
    have r16 := R_eq z15
    refine r_istore_n (lv' := [(2, .int v14), (0, .ref (G.2.2.2.1 16)), (1, .int a0)]) S dX6_readAll_11 rfl hl (by decide) rfl (fun ls hl => ?_)
    have L660 : ∀ (n : Nat) (t654 : Tau) (H : Heap) (lc : List Loc) (ls : Array Slot) (i652 : Int32), Xd G s H lc t654 → Inv t654 → Fr [(16, 1), (16, 2), (17, 4), (1, 3), (1, 4), (1, 5), (1, 7), (1, 8), (16, 4)] [18, 19, 20, 201] τ t654 → YT t654 → R (0) (24) i652 → t654 16 5 = v1 → lv_has ls 3 [(0, .ref (G.2.2.2.1 16)), (1, .int a0), (2, .int i652)] → (24 - i652.toInt).toNat < n → W p l e (Rm 13 281) s m ([.ref (G.2.2.2.1 16), .int a0] : List Value).toArray below meth c H lc 0 0 (MQ below (va_Qi (po_X6_readAll_6 τ  a0  ) (Bs G) G.2.2.2.2) ([.ref (G.2.2.2.1 16), .int a0] : List Value).toArray s 0 0 G.2.2.2.2) (F0 m 12 ls []) := by
      intro n
      induction n with
      | zero => intros; omega
      | succ n ih661 =>
        intro t654 H lc ls i652 X658 I655 F656 hYT657 r653 z659 hl hm
        refine r_iload_n S dX6_readAll_12 rfl (lv_at hl 2 rfl) ?_
        refine r_bipush S dX6_readAll_13 (by decide) (fun v662 z663 => ?_)
        have r664 := R_eq z663
        refine r_icmp_gt (tgt := 66) S dX6_readAll_15 (by decide) (fun c665 => ?_) (fun c665 => ?_)
        ·
          have r666 : R (21) (24) i652 := ⟨by omega, by omega⟩
          refine r_iconst S dX6_readAll_66 (by decide) (fun v667 z668 => ?_)
          have r669 := R_eq z668
          exact r_ret S hr hlk X658 ⟨I655, F656, hYT657, (R_of r669 rfl)⟩ (nr_bool (R_of (lo := 0) (hi := 1) r669 rfl)) dX6_readAll_67
        ·
          have r670 : R (0) (20) i652 := ⟨by omega, by omega⟩
          refine r_aload_n S dX6_readAll_18 rfl (lv_at hl 0 rfl) ?_
          refine r_get (K := 16) (v := .ref (G.2.2.2.1 1)) S X658 (Nat.le_of_ble_eq_true rfl) rfl lk6_39_6 (fun _ => ⟨_, rfl, rfl⟩) dX6_readAll_19 ?_
          refine r_wst (i := 14) S X658 (by decide) kw81 dX6_readAll_22 ?_
          refine r_ki (q_V (As := [.ref (G.2.2.1 14)]) (rest := []) (K := 1) (ci := 7) S X658 (c_X7_is l G t654 I655 14 (by decide)) ck6_60 (Nat.le_of_ble_eq_true rfl) rfl (fun _ => ⟨_, rfl⟩) ⟨_, _, rfl⟩ ⟨Nat.le_of_ble_eq_true rfl, Nat.le_of_ble_eq_true rfl⟩ rfl hl.1 rfl (Nat.le_of_ble_eq_true rfl) dX6_readAll_25 ⟨Nat.le_refl 0, Nat.le_refl 0⟩) X658 (fun v674 t673 H lc q671 X672 => ?_)
          unfold po_X7_is at q671
          obtain ⟨q675, q676⟩ := q671
          rw [q675] at X672
          refine r_if_eq (tgt := 66) S dX6_readAll_28 (by decide) (fun c677 => ?_) (fun c677 => ?_)
          ·
            have r678 : R (0) (0) v674 := ⟨by omega, by omega⟩
            refine r_iconst S dX6_readAll_66 (by decide) (fun v679 z680 => ?_)
            have r681 := R_eq z680
            exact r_ret S hr hlk X672 ⟨I655, F656, hYT657, (R_of r681 rfl)⟩ (nr_bool (R_of (lo := 0) (hi := 1) r681 rfl)) dX6_readAll_67
          ·
            have r682 : R (1) (1) v674 := ⟨by omega, by omega⟩
            refine r_aload_n S dX6_readAll_31 rfl (lv_at hl 0 rfl) ?_
            refine r_get (K := 16) (v := .ref (G.2.2.2.1 1)) S X672 (Nat.le_of_ble_eq_true rfl) rfl lk6_39_6 (fun _ => ⟨_, rfl, rfl⟩) dX6_readAll_32 ?_
            refine r_kv (q_V (As := []) (rest := []) (K := 1) (ci := 7) S X672 (c_X7_step l G t654 I655 ) ck6_64 (Nat.le_of_ble_eq_true rfl) rfl (fun _ => ⟨_, rfl⟩) ⟨_, _, rfl⟩ ⟨Nat.le_of_ble_eq_true rfl, Nat.le_of_ble_eq_true rfl⟩ rfl hl.1 rfl (Nat.le_of_ble_eq_true rfl) dX6_readAll_35 ⟨Nat.le_refl 0, Nat.le_refl 0⟩) X672 (fun t685 H lc q683 X684 => ?_)
            unfold po_X7_step at q683
            obtain ⟨q686, q687⟩ := q683
            have F688 : Fr [(16, 1), (16, 2), (17, 4), (1, 3), (1, 4), (1, 5), (1, 7), (1, 8), (16, 4)] [18, 19, 20, 201] τ t685 := Fr_call F656 q687 (by decide)
            refine r_aload_n S dX6_readAll_38 rfl (lv_at hl 0 rfl) ?_
            refine r_iload_n S dX6_readAll_39 rfl (lv_at hl 1 rfl) ?_
            refine r_ki (q_V (As := [.int a0]) (rest := []) (K := 16) (ci := 6) S X684 (c_X6_readOne_6 l G t685 q686 a0 h_a0 (by rw [((q687 16 5 (by decide)).trans z659)]; exact R_of hf_0 rfl) (YT_eq hYT657 (fun j => ((q687 18 j (by simp [fz])).trans rfl)) (fun j => ((q687 19 j (by simp [fz])).trans rfl)))) ck6_71 (Nat.le_of_ble_eq_true rfl) rfl (fun _ => ⟨_, rfl⟩) ⟨_, _, rfl⟩ ⟨Nat.le_of_ble_eq_true rfl, Nat.le_of_ble_eq_true rfl⟩ rfl hl.1 rfl (Nat.le_of_ble_eq_true rfl) dX6_readAll_40 ⟨Nat.le_refl 0, Nat.le_refl 0⟩) X684 (fun v692 t691 H lc q689 X690 => ?_)
            unfold po_X6_readOne_6 at q689
            obtain ⟨q693, q694, q695, q696⟩ := q689
            have F697 : Fr [(16, 1), (16, 2), (17, 4), (1, 3), (1, 4), (1, 5), (1, 7), (1, 8), (16, 4)] [18, 19, 20, 201] τ t691 := Fr_call F688 q694 (by decide)
            refine r_if_ne (tgt := 48) S dX6_readAll_43 (by decide) (fun c698 => ?_) (fun c698 => ?_)
            ·
              have r699 : R (1) (1) v692 := ⟨by omega, by omega⟩
              refine r_aload_n S dX6_readAll_48 rfl (lv_at hl 0 rfl) ?_
              refine r_get (K := 16) (v := .ref (G.2.2.2.1 17)) S X690 (Nat.le_of_ble_eq_true rfl) rfl lk6_14_6 (fun _ => ⟨_, rfl, rfl⟩) dX6_readAll_49 ?_
              refine r_wst (i := 14) S X690 (by decide) kw81 dX6_readAll_52 ?_
              refine r_iconst S dX6_readAll_55 (by decide) (fun v700 z701 => ?_)
              have r702 := R_eq z701
              refine r_iconst S dX6_readAll_56 (by decide) (fun v703 z704 => ?_)
              have r705 := R_eq z704
              refine r_kv (q_V (As := [.ref (G.2.2.1 14), .int v700, .int v703]) (rest := []) (K := 17) (ci := 5) S X690 (c_X5_add l G t691 q693 14 (by decide) v700 v703 (R_of (lo := -2147483648) (hi := 2147483647) r702 rfl) (R_of (lo := 0) (hi := 99) r705 rfl) q695 (by omega)) ck6_67 (Nat.le_of_ble_eq_true rfl) rfl (fun _ => ⟨_, rfl⟩) ⟨_, _, rfl⟩ ⟨Nat.le_of_ble_eq_true rfl, Nat.le_of_ble_eq_true rfl⟩ rfl hl.1 rfl (Nat.le_of_ble_eq_true rfl) dX6_readAll_57 ⟨Nat.le_refl 0, Nat.le_refl 0⟩) X690 (fun t708 H lc q706 X707 => ?_)
              unfold po_X5_add at q706
              obtain ⟨q709, q710, q711⟩ := q706
              have F712 : Fr [(16, 1), (16, 2), (17, 4), (1, 3), (1, 4), (1, 5), (1, 7), (1, 8), (16, 4)] [18, 19, 20, 201] τ t708 := Fr_call F697 q710 (by decide)
              refine r_iinc (k := 2) S dX6_readAll_60 hl rfl (by decide) (by decide) (fun v713 d714 ls z715 z716 hl => ?_)
              obtain ⟨e717, r718⟩ := i_add (lo := 1) (hi := 21) z715 r670 (R_eq z716) rfl
              have hl : lv_has ls 3 [(2, .int v713), (0, .ref (G.2.2.2.1 16)), (1, .int a0)] := hl
              refine r_goto (tgt := 12) S dX6_readAll_63 (by decide) ?_
              exact ih661 t708 _ _ _ v713 X707 q709 F712 q711 (R_of r718 rfl) ((q710 16 5 (by decide)).trans ((q694 16 5 (by decide)).trans ((q687 16 5 (by decide)).trans z659))) (lv_sub hl [1, 2, 0] rfl) (by omega)
            ·
              have r719 : R (0) (0) v692 := ⟨by omega, by omega⟩
              refine r_iconst S dX6_readAll_46 (by decide) (fun v720 z721 => ?_)
              have r722 := R_eq z721
              exact r_ret S hr hlk X690 ⟨q693, F697, q695, (R_of r722 rfl)⟩ (nr_bool (R_of (lo := 0) (hi := 1) r722 rfl)) dX6_readAll_47
    exact L660 _ t5 _ _ _ v14 X4 q7 F11 q9 (R_of r16 rfl) ((q8 16 5 (by decide)).trans z2) (lv_sub hl [1, 2, 0] rfl) (Nat.lt_succ_self _)
  ·
    have r723 : R (0) (0) v6 := ⟨by omega, by omega⟩
    refine r_iconst S dX6_readAll_8 (by decide) (fun v724 z725 => ?_)
    have r726 := R_eq z725
    exact r_ret S hr hlk X4 ⟨q7, F11, q9, (R_of r726 rfl)⟩ (nr_bool (R_of (lo := 0) (hi := 1) r726 rfl)) dX6_readAll_9
def po_X6_readCond_6 (τ : Tau)  (a0 : Int32)   (r : Int32) (u : Tau) : Prop := Inv u ∧ Fr [(16, 1), (16, 2), (17, 4), (1, 3), (1, 4), (1, 5), (1, 7), (1, 8), (16, 4)] [18, 19, 20, 201] τ u ∧ YT u ∧ R (0) (1) r
set_option maxHeartbeats 4000000 in
set_option maxRecDepth 100000 in
theorem c_X6_readCond_6 (l : Launch) (G : Gx) (τ : Tau) (hI : Inv τ) (a0 : Int32) (h_a0 : R (6) (6) a0) (hf_0 : R (1) (1) (τ 16 5)) (hYT : YT τ) : Ci l G yX6_readCond cX6_readCond 3 (some .boolean) 14 303 [.ref (G.2.2.2.1 16), .int a0] τ (po_X6_readCond_6 τ  a0  ) := by
  unfold Ci
  refine C_of (own := RX6) (by decide) rfl (Nat.le_of_ble_eq_true rfl) ?_
  intro p e s m below meth c ls S hr hlk X hl
  have hl : lv_has ls 3 [(0, .ref (G.2.2.2.1 16)), (1, .int a0)] := hl
  obtain ⟨v1, z2⟩ : ∃ x, τ 16 5 = x := ⟨_, rfl⟩
  rw [z2] at hf_0
  refine r_aload_n S dX6_readCond_0 rfl (lv_at hl 0 rfl) ?_
  refine r_iload_n S dX6_readCond_1 rfl (lv_at hl 1 rfl) ?_
  refine r_ki (q_V (As := [.int a0]) (rest := []) (K := 16) (ci := 6) S X (c_X6_readAll_6 l G τ hI a0 h_a0 (by rw [z2]; exact R_of hf_0 rfl) hYT) ck6_51 (Nat.le_of_ble_eq_true rfl) rfl (fun _ => ⟨_, rfl⟩) ⟨_, _, rfl⟩ ⟨Nat.le_of_ble_eq_true rfl, Nat.le_of_ble_eq_true rfl⟩ rfl hl.1 rfl (Nat.le_of_ble_eq_true rfl) dX6_readCond_2 ⟨Nat.le_refl 0, Nat.le_refl 0⟩) X (fun v6 t5 H lc q3 X4 => ?_)
  unfold po_X6_readAll_6 at q3
  obtain ⟨q7, q8, q9, q10⟩ := q3
  have F11 : Fr [(16, 1), (16, 2), (17, 4), (1, 3), (1, 4), (1, 5), (1, 7), (1, 8), (16, 4)] [18, 19, 20, 201] τ t5 := Fr_call Fr_rfl q8 (by decide)
  refine r_if_ne (tgt := 10) S dX6_readCond_5 (by decide) (fun c12 => ?_) (fun c12 => ?_)
  ·
    have r13 : R (1) (1) v6 := ⟨by omega, by omega⟩
    refine r_iconst S dX6_readCond_10 (by decide) (fun v14 z15 => ?_)
    have r16 := R_eq z15
    refine r_istore_n (lv' := [(2, .int v14), (0, .ref (G.2.2.2.1 16)), (1, .int a0)]) S dX6_readCond_11 rfl hl (by decide) rfl (fun ls hl => ?_)
    have L660 : ∀ (n : Nat) (t654 : Tau) (H : Heap) (lc : List Loc) (ls : Array Slot) (i652 : Int32), Xd G s H lc t654 → Inv t654 → Fr [(16, 1), (16, 2), (17, 4), (1, 3), (1, 4), (1, 5), (1, 7), (1, 8), (16, 4)] [18, 19, 20, 201] τ t654 → YT t654 → R (0) (24) i652 → t654 16 5 = v1 → lv_has ls 3 [(0, .ref (G.2.2.2.1 16)), (1, .int a0), (2, .int i652)] → (24 - i652.toInt).toNat < n → W p l e (Rm 14 303) s m ([.ref (G.2.2.2.1 16), .int a0] : List Value).toArray below meth c H lc 0 0 (MQ below (va_Qi (po_X6_readCond_6 τ  a0  ) (Bs G) G.2.2.2.2) ([.ref (G.2.2.2.1 16), .int a0] : List Value).toArray s 0 0 G.2.2.2.2) (F0 m 12 ls []) := by
      intro n
      induction n with
      | zero => intros; omega
      | succ n ih661 =>
        intro t654 H lc ls i652 X658 I655 F656 hYT657 r653 z659 hl hm
        refine r_iload_n S dX6_readCond_12 rfl (lv_at hl 2 rfl) ?_
        refine r_bipush S dX6_readCond_13 (by decide) (fun v662 z663 => ?_)
        have r664 := R_eq z663
        refine r_icmp_gt (tgt := 66) S dX6_readCond_15 (by decide) (fun c665 => ?_) (fun c665 => ?_)
        ·
          have r666 : R (21) (24) i652 := ⟨by omega, by omega⟩
          refine r_iconst S dX6_readCond_66 (by decide) (fun v667 z668 => ?_)
          have r669 := R_eq z668
          exact r_ret S hr hlk X658 ⟨I655, F656, hYT657, (R_of r669 rfl)⟩ (nr_bool (R_of (lo := 0) (hi := 1) r669 rfl)) dX6_readCond_67
        ·
          have r670 : R (0) (20) i652 := ⟨by omega, by omega⟩
          refine r_aload_n S dX6_readCond_18 rfl (lv_at hl 0 rfl) ?_
          refine r_get (K := 16) (v := .ref (G.2.2.2.1 1)) S X658 (Nat.le_of_ble_eq_true rfl) rfl lk6_39_6 (fun _ => ⟨_, rfl, rfl⟩) dX6_readCond_19 ?_
          refine r_wst (i := 13) S X658 (by decide) kw82 dX6_readCond_22 ?_
          refine r_ki (q_V (As := [.ref (G.2.2.1 13)]) (rest := []) (K := 1) (ci := 7) S X658 (c_X7_is l G t654 I655 13 (by decide)) ck6_60 (Nat.le_of_ble_eq_true rfl) rfl (fun _ => ⟨_, rfl⟩) ⟨_, _, rfl⟩ ⟨Nat.le_of_ble_eq_true rfl, Nat.le_of_ble_eq_true rfl⟩ rfl hl.1 rfl (Nat.le_of_ble_eq_true rfl) dX6_readCond_25 ⟨Nat.le_refl 0, Nat.le_refl 0⟩) X658 (fun v674 t673 H lc q671 X672 => ?_)
          unfold po_X7_is at q671
          obtain ⟨q675, q676⟩ := q671
          rw [q675] at X672
          refine r_if_eq (tgt := 66) S dX6_readCond_28 (by decide) (fun c677 => ?_) (fun c677 => ?_)
          ·
            have r678 : R (0) (0) v674 := ⟨by omega, by omega⟩
            refine r_iconst S dX6_readCond_66 (by decide) (fun v679 z680 => ?_)
            have r681 := R_eq z680
            exact r_ret S hr hlk X672 ⟨I655, F656, hYT657, (R_of r681 rfl)⟩ (nr_bool (R_of (lo := 0) (hi := 1) r681 rfl)) dX6_readCond_67
          ·
            have r682 : R (1) (1) v674 := ⟨by omega, by omega⟩
            refine r_aload_n S dX6_readCond_31 rfl (lv_at hl 0 rfl) ?_
            refine r_get (K := 16) (v := .ref (G.2.2.2.1 1)) S X672 (Nat.le_of_ble_eq_true rfl) rfl lk6_39_6 (fun _ => ⟨_, rfl, rfl⟩) dX6_readCond_32 ?_
            refine r_kv (q_V (As := []) (rest := []) (K := 1) (ci := 7) S X672 (c_X7_step l G t654 I655 ) ck6_64 (Nat.le_of_ble_eq_true rfl) rfl (fun _ => ⟨_, rfl⟩) ⟨_, _, rfl⟩ ⟨Nat.le_of_ble_eq_true rfl, Nat.le_of_ble_eq_true rfl⟩ rfl hl.1 rfl (Nat.le_of_ble_eq_true rfl) dX6_readCond_35 ⟨Nat.le_refl 0, Nat.le_refl 0⟩) X672 (fun t685 H lc q683 X684 => ?_)
            unfold po_X7_step at q683
            obtain ⟨q686, q687⟩ := q683
            have F688 : Fr [(16, 1), (16, 2), (17, 4), (1, 3), (1, 4), (1, 5), (1, 7), (1, 8), (16, 4)] [18, 19, 20, 201] τ t685 := Fr_call F656 q687 (by decide)
            refine r_aload_n S dX6_readCond_38 rfl (lv_at hl 0 rfl) ?_
            refine r_iload_n S dX6_readCond_39 rfl (lv_at hl 1 rfl) ?_
            refine r_ki (q_V (As := [.int a0]) (rest := []) (K := 16) (ci := 6) S X684 (c_X6_readAll_6 l G t685 q686 a0 h_a0 (by rw [((q687 16 5 (by decide)).trans z659)]; exact R_of hf_0 rfl) (YT_eq hYT657 (fun j => ((q687 18 j (by simp [fz])).trans rfl)) (fun j => ((q687 19 j (by simp [fz])).trans rfl)))) ck6_51 (Nat.le_of_ble_eq_true rfl) rfl (fun _ => ⟨_, rfl⟩) ⟨_, _, rfl⟩ ⟨Nat.le_of_ble_eq_true rfl, Nat.le_of_ble_eq_true rfl⟩ rfl hl.1 rfl (Nat.le_of_ble_eq_true rfl) dX6_readCond_40 ⟨Nat.le_refl 0, Nat.le_refl 0⟩) X684 (fun v692 t691 H lc q689 X690 => ?_)
            unfold po_X6_readAll_6 at q689
            obtain ⟨q693, q694, q695, q696⟩ := q689
            have F697 : Fr [(16, 1), (16, 2), (17, 4), (1, 3), (1, 4), (1, 5), (1, 7), (1, 8), (16, 4)] [18, 19, 20, 201] τ t691 := Fr_call F688 q694 (by decide)
            refine r_if_ne (tgt := 48) S dX6_readCond_43 (by decide) (fun c698 => ?_) (fun c698 => ?_)
            ·
              have r699 : R (1) (1) v692 := ⟨by omega, by omega⟩
              refine r_aload_n S dX6_readCond_48 rfl (lv_at hl 0 rfl) ?_
              refine r_get (K := 16) (v := .ref (G.2.2.2.1 17)) S X690 (Nat.le_of_ble_eq_true rfl) rfl lk6_14_6 (fun _ => ⟨_, rfl, rfl⟩) dX6_readCond_49 ?_
              refine r_wst (i := 13) S X690 (by decide) kw82 dX6_readCond_52 ?_
              refine r_iconst S dX6_readCond_55 (by decide) (fun v700 z701 => ?_)
              have r702 := R_eq z701
              refine r_iconst S dX6_readCond_56 (by decide) (fun v703 z704 => ?_)
              have r705 := R_eq z704
              refine r_kv (q_V (As := [.ref (G.2.2.1 13), .int v700, .int v703]) (rest := []) (K := 17) (ci := 5) S X690 (c_X5_add l G t691 q693 13 (by decide) v700 v703 (R_of (lo := -2147483648) (hi := 2147483647) r702 rfl) (R_of (lo := 0) (hi := 99) r705 rfl) q695 (by omega)) ck6_67 (Nat.le_of_ble_eq_true rfl) rfl (fun _ => ⟨_, rfl⟩) ⟨_, _, rfl⟩ ⟨Nat.le_of_ble_eq_true rfl, Nat.le_of_ble_eq_true rfl⟩ rfl hl.1 rfl (Nat.le_of_ble_eq_true rfl) dX6_readCond_57 ⟨Nat.le_refl 0, Nat.le_refl 0⟩) X690 (fun t708 H lc q706 X707 => ?_)
              unfold po_X5_add at q706
              obtain ⟨q709, q710, q711⟩ := q706
              have F712 : Fr [(16, 1), (16, 2), (17, 4), (1, 3), (1, 4), (1, 5), (1, 7), (1, 8), (16, 4)] [18, 19, 20, 201] τ t708 := Fr_call F697 q710 (by decide)
              refine r_iinc (k := 2) S dX6_readCond_60 hl rfl (by decide) (by decide) (fun v713 d714 ls z715 z716 hl => ?_)
              obtain ⟨e717, r718⟩ := i_add (lo := 1) (hi := 21) z715 r670 (R_eq z716) rfl
              have hl : lv_has ls 3 [(2, .int v713), (0, .ref (G.2.2.2.1 16)), (1, .int a0)] := hl
              refine r_goto (tgt := 12) S dX6_readCond_63 (by decide) ?_
              exact ih661 t708 _ _ _ v713 X707 q709 F712 q711 (R_of r718 rfl) ((q710 16 5 (by decide)).trans ((q694 16 5 (by decide)).trans ((q687 16 5 (by decide)).trans z659))) (lv_sub hl [1, 2, 0] rfl) (by omega)
            ·
              have r719 : R (0) (0) v692 := ⟨by omega, by omega⟩
              refine r_iconst S dX6_readCond_46 (by decide) (fun v720 z721 => ?_)
              have r722 := R_eq z721
              exact r_ret S hr hlk X690 ⟨q693, F697, q695, (R_of r722 rfl)⟩ (nr_bool (R_of (lo := 0) (hi := 1) r722 rfl)) dX6_readCond_47
    exact L660 _ t5 _ _ _ v14 X4 q7 F11 q9 (R_of r16 rfl) ((q8 16 5 (by decide)).trans z2) (lv_sub hl [1, 2, 0] rfl) (Nat.lt_succ_self _)
  ·
    have r723 : R (0) (0) v6 := ⟨by omega, by omega⟩
    refine r_iconst S dX6_readCond_8 (by decide) (fun v724 z725 => ?_)
    have r726 := R_eq z725
    exact r_ret S hr hlk X4 ⟨q7, F11, q9, (R_of r726 rfl)⟩ (nr_bool (R_of (lo := 0) (hi := 1) r726 rfl)) dX6_readCond_9
def po_X6_readOne_5 (τ : Tau)  (a0 : Int32)   (r : Int32) (u : Tau) : Prop := Inv u ∧ Fr [(16, 1), (16, 2), (17, 4), (1, 3), (1, 4), (1, 5), (1, 7), (1, 8), (16, 4)] [18, 19, 20, 201] τ u ∧ YT u ∧ R (0) (1) r
set_option maxHeartbeats 4000000 in
set_option maxRecDepth 100000 in
theorem c_X6_readOne_5 (l : Launch) (G : Gx) (τ : Tau) (hI : Inv τ) (a0 : Int32) (h_a0 : R (5) (5) a0) (hf_0 : R (1) (1) (τ 16 5)) (hYT : YT τ) : Ci l G yX6_readOne cX6_readOne 3 (some .boolean) 15 325 [.ref (G.2.2.2.1 16), .int a0] τ (po_X6_readOne_5 τ  a0  ) := by
  unfold Ci
  refine C_of (own := RX6) (by decide) rfl (Nat.le_of_ble_eq_true rfl) ?_
  intro p e s m below meth c ls S hr hlk X hl
  have hl : lv_has ls 3 [(0, .ref (G.2.2.2.1 16)), (1, .int a0)] := hl
  obtain ⟨v1, z2⟩ : ∃ x, τ 16 5 = x := ⟨_, rfl⟩
  rw [z2] at hf_0
  refine r_aload_n S dX6_readOne_0 rfl (lv_at hl 0 rfl) ?_
  refine r_kw2 (q_V (As := []) (rest := []) (K := 16) (ci := 6) S X (c_X6_firstWord l G τ hI ) ck6_77 (Nat.le_of_ble_eq_true rfl) rfl (fun _ => ⟨_, rfl⟩) ⟨_, _, rfl⟩ ⟨Nat.le_of_ble_eq_true rfl, Nat.le_of_ble_eq_true rfl⟩ rfl hl.1 rfl (Nat.le_of_ble_eq_true rfl) dX6_readOne_1 ⟨Nat.le_refl 0, Nat.le_refl 0⟩) X (fun _ _ h => h.2) (fun y6 t5 H lc q3 X4 h7 => ?_) (fun y6 t5 H lc w8 q3 X4 h_w8 e9 => ?_)
  ·
    unfold po_X6_firstWord at q3
    obtain ⟨q10, q11⟩ := q3
    rw [q10] at X4
    refine lv_astore_nN (lv' := [(2, .null), (0, .ref (G.2.2.2.1 16)), (1, .int a0)]) S.1.1 S.1.2.1 dX6_readOne_4 rfl hl (by decide) rfl (fun ls hl => ?_)
    refine lv_aload_nN S.1.1 S.1.2.1 dX6_readOne_5 rfl (lv_at hl 0 rfl) ?_
    refine lv_ifnonnullN S.1.1 S.1.2.1 dX6_readOne_6 ?_
    refine r_aload_n S dX6_readOne_9 rfl (lv_at hl 1 rfl) ?_
    refine r_get (K := 16) (v := .ref (G.2.2.2.1 1)) S X4 (Nat.le_of_ble_eq_true rfl) rfl lk6_39_6 (fun _ => ⟨_, rfl, rfl⟩) dX6_readOne_10 ?_
    refine r_bipush S dX6_readOne_13 (by decide) (fun v12 z13 => ?_)
    have r14 := R_eq z13
    refine r_ki (q_V (As := [.int v12]) (rest := []) (K := 1) (ci := 7) S X4 (c_X7_isSigned l G τ hI v12 (R_of (lo := 0) (hi := 65535) r14 rfl)) ck6_81 (Nat.le_of_ble_eq_true rfl) rfl (fun _ => ⟨_, rfl⟩) ⟨_, _, rfl⟩ ⟨Nat.le_of_ble_eq_true rfl, Nat.le_of_ble_eq_true rfl⟩ rfl hl.1 rfl (Nat.le_of_ble_eq_true rfl) dX6_readOne_15 ⟨Nat.le_refl 0, Nat.le_refl 0⟩) X4 (fun v18 t17 H lc q15 X16 => ?_)
    unfold po_X7_isSigned at q15
    obtain ⟨q19, q20⟩ := q15
    rw [q19] at X16
    refine r_if_ne (tgt := 27) S dX6_readOne_18 (by decide) (fun c21 => ?_) (fun c21 => ?_)
    ·
      have r22 : R (1) (1) v18 := ⟨by omega, by omega⟩
      refine r_aload_n S dX6_readOne_27 rfl (lv_at hl 1 rfl) ?_
      refine r_getn (K := 16) S X16 (Nat.le_of_ble_eq_true rfl) rfl lk6_28_6 (fun _ => ⟨_, rfl, rfl⟩) dX6_readOne_28 (fun v23 z24 => ?_)
      have r25 : R (0) (20) v23 := rd hI rfl z24
      refine r_bipush S dX6_readOne_31 (by decide) (fun v26 z27 => ?_)
      have r28 := R_eq z27
      refine r_icmp_ge (tgt := 42) S dX6_readOne_33 (by decide) (fun c29 => ?_) (fun c29 => ?_)
      ·
        have r30 : R (20) (20) v23 := ⟨by omega, by omega⟩
        refine r_aload_n S dX6_readOne_42 rfl (lv_at hl 1 rfl) ?_
        refine r_iconst S dX6_readOne_43 (by decide) (fun v31 z32 => ?_)
        have r33 := R_eq z32
        refine r_ki (q_U (As := [.int v31]) (rest := []) (K := 16) (ci := 6) S X16 (c_X8_fail_16 l G τ hI v31 (R_of (lo := -2147483648) (hi := 2147483647) r33 rfl)) ck6_48_6 (Nat.le_of_ble_eq_true rfl) rfl (fun _ => ⟨_, rfl⟩) ⟨_, _, rfl⟩ ⟨Nat.le_of_ble_eq_true rfl, Nat.le_of_ble_eq_true rfl⟩ rfl hl.1 rfl (Nat.le_of_ble_eq_true rfl) dX6_readOne_44 ⟨Nat.le_refl 0, Nat.le_refl 0⟩) X16 (fun v37 t36 H lc q34 X35 => ?_)
        unfold po_X8_fail_16 at q34
        obtain ⟨q38, q39, q40⟩ := q34
        have F41 : Fr [(16, 1), (16, 2), (17, 4), (1, 3), (1, 4), (1, 5), (1, 7), (1, 8), (16, 4)] [18, 19, 20, 201] τ t36 := Fr_call Fr_rfl q39 (by decide)
        exact r_ret S hr hlk X35 ⟨q38, F41, (YT_eq hYT (fun j => ((q39 18 j (by simp [fz])).trans rfl)) (fun j => ((q39 19 j (by simp [fz])).trans rfl))), (R_of q40 rfl)⟩ (nr_bool (R_of (lo := 0) (hi := 1) q40 rfl)) dX6_readOne_47
      ·
        have r42 : R (0) (19) v23 := ⟨by omega, by omega⟩
        refine r_iload_n S dX6_readOne_36 rfl (lv_at hl 2 rfl) ?_
        refine r_bipush S dX6_readOne_37 (by decide) (fun v43 z44 => ?_)
        have r45 := R_eq z44
        refine r_icmp_le (tgt := 48) S dX6_readOne_39 (by decide) (fun c46 => ?_) (fun c46 => ?_)
        ·
          refine r_aload_n S dX6_readOne_48 rfl (lv_at hl 1 rfl) ?_
          refine r_dup S dX6_readOne_49 rfl ?_
          refine r_geti (K := 16) S X16 (Nat.le_of_ble_eq_true rfl) rfl lk6_28_6 (fun _ => ⟨_, rfl, rfl⟩) z24 dX6_readOne_50 ?_
          refine r_iconst S dX6_readOne_53 (by decide) (fun v47 z48 => ?_)
          have r49 := R_eq z48
          refine r_iadd S dX6_readOne_54 (fun v50 z51 => ?_)
          obtain ⟨e52, r53⟩ := i_add (lo := 1) (hi := 20) z51 r42 r49 rfl
          refine r_put (K := 16) (ty := .int) S X16 (Nat.le_of_ble_eq_true rfl) rfl lk6_28_6 (fun _ => ⟨_, rfl, Nat.le_of_ble_eq_true rfl, rfl⟩) (fun _ _ _ h => by cases h; exact ⟨rfl, rfl⟩) rfl rfl dX6_readOne_55 (fun t54 H lc M55 X56 => ?_)
          have I57 := Inv_mu hI M55 (show Rg (kd 16) 4 v50 from (R_of (lo := 0) (hi := 20) r53 rfl))
          have F58 : Fr [(16, 1), (16, 2), (17, 4), (1, 3), (1, 4), (1, 5), (1, 7), (1, 8), (16, 4)] [18, 19, 20, 201] τ t54 := Fr_mu Fr_rfl M55 (by decide)
          refine r_aload_n S dX6_readOne_58 rfl (lv_at hl 1 rfl) ?_
          refine r_get (K := 16) (v := .ref (G.2.2.2.1 1)) S X56 (Nat.le_of_ble_eq_true rfl) rfl lk6_39_6 (fun _ => ⟨_, rfl, rfl⟩) dX6_readOne_59 ?_
          refine r_kv (q_V (As := []) (rest := []) (K := 1) (ci := 7) S X56 (c_X7_step l G t54 I57 ) ck6_64 (Nat.le_of_ble_eq_true rfl) rfl (fun _ => ⟨_, rfl⟩) ⟨_, _, rfl⟩ ⟨Nat.le_of_ble_eq_true rfl, Nat.le_of_ble_eq_true rfl⟩ rfl hl.1 rfl (Nat.le_of_ble_eq_true rfl) dX6_readOne_62 ⟨Nat.le_refl 0, Nat.le_refl 0⟩) X56 (fun t61 H lc q59 X60 => ?_)
          unfold po_X7_step at q59
          obtain ⟨q62, q63⟩ := q59
          have F64 : Fr [(16, 1), (16, 2), (17, 4), (1, 3), (1, 4), (1, 5), (1, 7), (1, 8), (16, 4)] [18, 19, 20, 201] τ t61 := Fr_call F58 q63 (by decide)
          refine lv_aload_nN S.1.1 S.1.2.1 dX6_readOne_65 rfl (lv_at hl 0 rfl) ?_
          refine lv_ifnonnullN S.1.1 S.1.2.1 dX6_readOne_66 ?_
          refine r_aload_n S dX6_readOne_69 rfl (lv_at hl 1 rfl) ?_
          refine r_iload_n S dX6_readOne_70 rfl (lv_at hl 2 rfl) ?_
          refine r_iconst S dX6_readOne_71 (by decide) (fun v65 z66 => ?_)
          have r67 := R_eq z66
          refine r_iadd S dX6_readOne_72 (fun v68 z69 => ?_)
          obtain ⟨e70, r71⟩ := i_add (lo := 6) (hi := 6) z69 h_a0 r67 rfl
          refine r_ki (q_V (As := [.int v68]) (rest := []) (K := 16) (ci := 6) S X60 (c_X6_readCond_6 l G t61 q62 v68 r71 (by rw [((q63 16 5 (by decide)).trans ((M55.2 16 5 (Or.inr (by decide))).trans z2))]; exact R_of hf_0 rfl) (YT_eq hYT (fun j => ((q63 18 j (by simp [fz])).trans ((M55.2 18 j (Or.inl (by decide))).trans rfl))) (fun j => ((q63 19 j (by simp [fz])).trans ((M55.2 19 j (Or.inl (by decide))).trans rfl))))) ck6_35 (Nat.le_of_ble_eq_true rfl) rfl (fun _ => ⟨_, rfl⟩) ⟨_, _, rfl⟩ ⟨Nat.le_of_ble_eq_true rfl, Nat.le_of_ble_eq_true rfl⟩ rfl hl.1 rfl (Nat.le_of_ble_eq_true rfl) dX6_readOne_73 ⟨Nat.le_refl 0, Nat.le_refl 0⟩) X60 (fun v75 t74 H lc q72 X73 => ?_)
          unfold po_X6_readCond_6 at q72
          obtain ⟨q76, q77, q78, q79⟩ := q72
          have F80 : Fr [(16, 1), (16, 2), (17, 4), (1, 3), (1, 4), (1, 5), (1, 7), (1, 8), (16, 4)] [18, 19, 20, 201] τ t74 := Fr_call F64 q77 (by decide)
          refine r_if_eq (tgt := 92) S dX6_readOne_76 (by decide) (fun c81 => ?_) (fun c81 => ?_)
          ·
            have r82 : R (0) (0) v75 := ⟨by omega, by omega⟩
            refine r_iconst S dX6_readOne_92 (by decide) (fun v83 z84 => ?_)
            have r85 := R_eq z84
            exact r_ret S hr hlk X73 ⟨q76, F80, q78, (R_of r85 rfl)⟩ (nr_bool (R_of (lo := 0) (hi := 1) r85 rfl)) dX6_readOne_93
          ·
            have r86 : R (1) (1) v75 := ⟨by omega, by omega⟩
            refine r_aload_n S dX6_readOne_79 rfl (lv_at hl 1 rfl) ?_
            refine r_bipush S dX6_readOne_80 (by decide) (fun v87 z88 => ?_)
            have r89 := R_eq z88
            refine r_ki (q_U (As := [.int v87]) (rest := []) (K := 16) (ci := 6) S X73 (c_X8_takeSign_16 l G t74 q76 v87 (R_of (lo := 0) (hi := 65535) r89 rfl)) ck6_85_6 (Nat.le_of_ble_eq_true rfl) rfl (fun _ => ⟨_, rfl⟩) ⟨_, _, rfl⟩ ⟨Nat.le_of_ble_eq_true rfl, Nat.le_of_ble_eq_true rfl⟩ rfl hl.1 rfl (Nat.le_of_ble_eq_true rfl) dX6_readOne_82 ⟨Nat.le_refl 0, Nat.le_refl 0⟩) X73 (fun v93 t92 H lc q90 X91 => ?_)
            unfold po_X8_takeSign_16 at q90
            obtain ⟨q94, q95, q96⟩ := q90
            have F97 : Fr [(16, 1), (16, 2), (17, 4), (1, 3), (1, 4), (1, 5), (1, 7), (1, 8), (16, 4)] [18, 19, 20, 201] τ t92 := Fr_call F80 q95 (by decide)
            refine r_if_eq (tgt := 92) S dX6_readOne_85 (by decide) (fun c98 => ?_) (fun c98 => ?_)
            ·
              have r99 : R (0) (0) v93 := ⟨by omega, by omega⟩
              refine r_iconst S dX6_readOne_92 (by decide) (fun v100 z101 => ?_)
              have r102 := R_eq z101
              exact r_ret S hr hlk X91 ⟨q94, F97, (YT_eq q78 (fun j => ((q95 18 j (by simp [fz])).trans rfl)) (fun j => ((q95 19 j (by simp [fz])).trans rfl))), (R_of r102 rfl)⟩ (nr_bool (R_of (lo := 0) (hi := 1) r102 rfl)) dX6_readOne_93
            ·
              have r103 : R (1) (1) v93 := ⟨by omega, by omega⟩
              refine r_iconst S dX6_readOne_88 (by decide) (fun v104 z105 => ?_)
              have r106 := R_eq z105
              refine r_goto (tgt := 93) S dX6_readOne_89 (by decide) ?_
              exact r_ret S hr hlk X91 ⟨q94, F97, (YT_eq q78 (fun j => ((q95 18 j (by simp [fz])).trans rfl)) (fun j => ((q95 19 j (by simp [fz])).trans rfl))), (R_of r106 rfl)⟩ (nr_bool (R_of (lo := 0) (hi := 1) r106 rfl)) dX6_readOne_93
        ·
          exfalso; omega
    ·
      have r107 : R (0) (0) v18 := ⟨by omega, by omega⟩
      refine r_aload_n S dX6_readOne_21 rfl (lv_at hl 1 rfl) ?_
      refine r_iconst S dX6_readOne_22 (by decide) (fun v108 z109 => ?_)
      have r110 := R_eq z109
      refine r_ki (q_U (As := [.int v108]) (rest := []) (K := 16) (ci := 6) S X16 (c_X8_fail_16 l G τ hI v108 (R_of (lo := -2147483648) (hi := 2147483647) r110 rfl)) ck6_48_6 (Nat.le_of_ble_eq_true rfl) rfl (fun _ => ⟨_, rfl⟩) ⟨_, _, rfl⟩ ⟨Nat.le_of_ble_eq_true rfl, Nat.le_of_ble_eq_true rfl⟩ rfl hl.1 rfl (Nat.le_of_ble_eq_true rfl) dX6_readOne_23 ⟨Nat.le_refl 0, Nat.le_refl 0⟩) X16 (fun v114 t113 H lc q111 X112 => ?_)
      unfold po_X8_fail_16 at q111
      obtain ⟨q115, q116, q117⟩ := q111
      have F118 : Fr [(16, 1), (16, 2), (17, 4), (1, 3), (1, 4), (1, 5), (1, 7), (1, 8), (16, 4)] [18, 19, 20, 201] τ t113 := Fr_call Fr_rfl q116 (by decide)
      exact r_ret S hr hlk X112 ⟨q115, F118, (YT_eq hYT (fun j => ((q116 18 j (by simp [fz])).trans rfl)) (fun j => ((q116 19 j (by simp [fz])).trans rfl))), (R_of q117 rfl)⟩ (nr_bool (R_of (lo := 0) (hi := 1) q117 rfl)) dX6_readOne_26
  ·
    unfold po_X6_firstWord at q3
    obtain ⟨q119, q120⟩ := q3
    rw [q119] at X4
    refine r_astore_n (lv' := [(2, .ref (G.2.2.1 w8)), (0, .ref (G.2.2.2.1 16)), (1, .int a0)]) S dX6_readOne_4 rfl hl (by decide) rfl (fun ls hl => ?_)
    refine r_aload_n S dX6_readOne_5 rfl (lv_at hl 0 rfl) ?_
    refine lv_ifnonnull (tgt := 27) S.1.1 S.1.2.1 dX6_readOne_6 (by decide) ?_
    refine r_aload_n S dX6_readOne_27 rfl (lv_at hl 1 rfl) ?_
    refine r_getn (K := 16) S X4 (Nat.le_of_ble_eq_true rfl) rfl lk6_28_6 (fun _ => ⟨_, rfl, rfl⟩) dX6_readOne_28 (fun v121 z122 => ?_)
    have r123 : R (0) (20) v121 := rd hI rfl z122
    refine r_bipush S dX6_readOne_31 (by decide) (fun v124 z125 => ?_)
    have r126 := R_eq z125
    refine r_icmp_ge (tgt := 42) S dX6_readOne_33 (by decide) (fun c127 => ?_) (fun c127 => ?_)
    ·
      have r128 : R (20) (20) v121 := ⟨by omega, by omega⟩
      refine r_aload_n S dX6_readOne_42 rfl (lv_at hl 1 rfl) ?_
      refine r_iconst S dX6_readOne_43 (by decide) (fun v129 z130 => ?_)
      have r131 := R_eq z130
      refine r_ki (q_U (As := [.int v129]) (rest := []) (K := 16) (ci := 6) S X4 (c_X8_fail_16 l G τ hI v129 (R_of (lo := -2147483648) (hi := 2147483647) r131 rfl)) ck6_48_6 (Nat.le_of_ble_eq_true rfl) rfl (fun _ => ⟨_, rfl⟩) ⟨_, _, rfl⟩ ⟨Nat.le_of_ble_eq_true rfl, Nat.le_of_ble_eq_true rfl⟩ rfl hl.1 rfl (Nat.le_of_ble_eq_true rfl) dX6_readOne_44 ⟨Nat.le_refl 0, Nat.le_refl 0⟩) X4 (fun v135 t134 H lc q132 X133 => ?_)
      unfold po_X8_fail_16 at q132
      obtain ⟨q136, q137, q138⟩ := q132
      have F139 : Fr [(16, 1), (16, 2), (17, 4), (1, 3), (1, 4), (1, 5), (1, 7), (1, 8), (16, 4)] [18, 19, 20, 201] τ t134 := Fr_call Fr_rfl q137 (by decide)
      exact r_ret S hr hlk X133 ⟨q136, F139, (YT_eq hYT (fun j => ((q137 18 j (by simp [fz])).trans rfl)) (fun j => ((q137 19 j (by simp [fz])).trans rfl))), (R_of q138 rfl)⟩ (nr_bool (R_of (lo := 0) (hi := 1) q138 rfl)) dX6_readOne_47
    ·
      have r140 : R (0) (19) v121 := ⟨by omega, by omega⟩
      refine r_iload_n S dX6_readOne_36 rfl (lv_at hl 2 rfl) ?_
      refine r_bipush S dX6_readOne_37 (by decide) (fun v141 z142 => ?_)
      have r143 := R_eq z142
      refine r_icmp_le (tgt := 48) S dX6_readOne_39 (by decide) (fun c144 => ?_) (fun c144 => ?_)
      ·
        refine r_aload_n S dX6_readOne_48 rfl (lv_at hl 1 rfl) ?_
        refine r_dup S dX6_readOne_49 rfl ?_
        refine r_geti (K := 16) S X4 (Nat.le_of_ble_eq_true rfl) rfl lk6_28_6 (fun _ => ⟨_, rfl, rfl⟩) z122 dX6_readOne_50 ?_
        refine r_iconst S dX6_readOne_53 (by decide) (fun v145 z146 => ?_)
        have r147 := R_eq z146
        refine r_iadd S dX6_readOne_54 (fun v148 z149 => ?_)
        obtain ⟨e150, r151⟩ := i_add (lo := 1) (hi := 20) z149 r140 r147 rfl
        refine r_put (K := 16) (ty := .int) S X4 (Nat.le_of_ble_eq_true rfl) rfl lk6_28_6 (fun _ => ⟨_, rfl, Nat.le_of_ble_eq_true rfl, rfl⟩) (fun _ _ _ h => by cases h; exact ⟨rfl, rfl⟩) rfl rfl dX6_readOne_55 (fun t152 H lc M153 X154 => ?_)
        have I155 := Inv_mu hI M153 (show Rg (kd 16) 4 v148 from (R_of (lo := 0) (hi := 20) r151 rfl))
        have F156 : Fr [(16, 1), (16, 2), (17, 4), (1, 3), (1, 4), (1, 5), (1, 7), (1, 8), (16, 4)] [18, 19, 20, 201] τ t152 := Fr_mu Fr_rfl M153 (by decide)
        refine r_aload_n S dX6_readOne_58 rfl (lv_at hl 1 rfl) ?_
        refine r_get (K := 16) (v := .ref (G.2.2.2.1 1)) S X154 (Nat.le_of_ble_eq_true rfl) rfl lk6_39_6 (fun _ => ⟨_, rfl, rfl⟩) dX6_readOne_59 ?_
        refine r_kv (q_V (As := []) (rest := []) (K := 1) (ci := 7) S X154 (c_X7_step l G t152 I155 ) ck6_64 (Nat.le_of_ble_eq_true rfl) rfl (fun _ => ⟨_, rfl⟩) ⟨_, _, rfl⟩ ⟨Nat.le_of_ble_eq_true rfl, Nat.le_of_ble_eq_true rfl⟩ rfl hl.1 rfl (Nat.le_of_ble_eq_true rfl) dX6_readOne_62 ⟨Nat.le_refl 0, Nat.le_refl 0⟩) X154 (fun t159 H lc q157 X158 => ?_)
        unfold po_X7_step at q157
        obtain ⟨q160, q161⟩ := q157
        have F162 : Fr [(16, 1), (16, 2), (17, 4), (1, 3), (1, 4), (1, 5), (1, 7), (1, 8), (16, 4)] [18, 19, 20, 201] τ t159 := Fr_call F156 q161 (by decide)
        refine r_aload_n S dX6_readOne_65 rfl (lv_at hl 0 rfl) ?_
        refine lv_ifnonnull (tgt := 94) S.1.1 S.1.2.1 dX6_readOne_66 (by decide) ?_
        refine r_aload_n S dX6_readOne_94 rfl (lv_at hl 0 rfl) ?_
        refine r_wst (i := 15) S X158 (by decide) kw74 dX6_readOne_95 ?_
        refine r_cacmp_ne (tgt := 127) S h_w8 (by decide) dX6_readOne_98 (by decide) (fun c163 => ?_) (fun c163 => ?_)
        ·
          refine r_aload_n S dX6_readOne_127 rfl (lv_at hl 1 rfl) ?_
          refine r_aload_n S dX6_readOne_128 rfl (lv_at hl 0 rfl) ?_
          refine r_ki (q_V (As := [.ref (G.2.2.1 w8)]) (rest := []) (K := 16) (ci := 6) S X158 (c_X6_readPlainOne l G t159 q160 w8 h_w8 (by rw [((q161 16 5 (by decide)).trans ((M153.2 16 5 (Or.inr (by decide))).trans z2))]; exact R_of hf_0 rfl) (YT_eq hYT (fun j => ((q161 18 j (by simp [fz])).trans ((M153.2 18 j (Or.inl (by decide))).trans rfl))) (fun j => ((q161 19 j (by simp [fz])).trans ((M153.2 19 j (Or.inl (by decide))).trans rfl))))) ck6_91 (Nat.le_of_ble_eq_true rfl) rfl (fun _ => ⟨_, rfl⟩) ⟨_, _, rfl⟩ ⟨Nat.le_of_ble_eq_true rfl, Nat.le_of_ble_eq_true rfl⟩ rfl hl.1 rfl (Nat.le_of_ble_eq_true rfl) dX6_readOne_129 ⟨Nat.le_refl 0, Nat.le_refl 0⟩) X158 (fun v167 t166 H lc q164 X165 => ?_)
          unfold po_X6_readPlainOne at q164
          obtain ⟨q168, q169, q170, q171⟩ := q164
          have F172 : Fr [(16, 1), (16, 2), (17, 4), (1, 3), (1, 4), (1, 5), (1, 7), (1, 8), (16, 4)] [18, 19, 20, 201] τ t166 := Fr_call F162 q169 (by decide)
          exact r_ret S hr hlk X165 ⟨q168, F172, q170, q171⟩ (nr_bool (R_of (lo := 0) (hi := 1) q171 rfl)) dX6_readOne_132
        ·
          refine r_aload_n S dX6_readOne_101 rfl (lv_at hl 1 rfl) ?_
          refine r_iload_n S dX6_readOne_102 rfl (lv_at hl 2 rfl) ?_
          refine r_iconst S dX6_readOne_103 (by decide) (fun v173 z174 => ?_)
          have r175 := R_eq z174
          refine r_iadd S dX6_readOne_104 (fun v176 z177 => ?_)
          obtain ⟨e178, r179⟩ := i_add (lo := 6) (hi := 6) z177 h_a0 r175 rfl
          refine r_ki (q_V (As := [.int v176]) (rest := []) (K := 16) (ci := 6) S X158 (c_X6_readOne_6 l G t159 q160 v176 r179 (by rw [((q161 16 5 (by decide)).trans ((M153.2 16 5 (Or.inr (by decide))).trans z2))]; exact R_of hf_0 rfl) (YT_eq hYT (fun j => ((q161 18 j (by simp [fz])).trans ((M153.2 18 j (Or.inl (by decide))).trans rfl))) (fun j => ((q161 19 j (by simp [fz])).trans ((M153.2 19 j (Or.inl (by decide))).trans rfl))))) ck6_71 (Nat.le_of_ble_eq_true rfl) rfl (fun _ => ⟨_, rfl⟩) ⟨_, _, rfl⟩ ⟨Nat.le_of_ble_eq_true rfl, Nat.le_of_ble_eq_true rfl⟩ rfl hl.1 rfl (Nat.le_of_ble_eq_true rfl) dX6_readOne_105 ⟨Nat.le_refl 0, Nat.le_refl 0⟩) X158 (fun v183 t182 H lc q180 X181 => ?_)
          unfold po_X6_readOne_6 at q180
          obtain ⟨q184, q185, q186, q187⟩ := q180
          have F188 : Fr [(16, 1), (16, 2), (17, 4), (1, 3), (1, 4), (1, 5), (1, 7), (1, 8), (16, 4)] [18, 19, 20, 201] τ t182 := Fr_call F162 q185 (by decide)
          refine r_if_ne (tgt := 113) S dX6_readOne_108 (by decide) (fun c189 => ?_) (fun c189 => ?_)
          ·
            have r190 : R (1) (1) v183 := ⟨by omega, by omega⟩
            refine r_aload_n S dX6_readOne_113 rfl (lv_at hl 1 rfl) ?_
            refine r_get (K := 16) (v := .ref (G.2.2.2.1 17)) S X181 (Nat.le_of_ble_eq_true rfl) rfl lk6_14_6 (fun _ => ⟨_, rfl, rfl⟩) dX6_readOne_114 ?_
            refine r_wst (i := 15) S X181 (by decide) kw74 dX6_readOne_117 ?_
            refine r_iconst S dX6_readOne_120 (by decide) (fun v191 z192 => ?_)
            have r193 := R_eq z192
            refine r_iconst S dX6_readOne_121 (by decide) (fun v194 z195 => ?_)
            have r196 := R_eq z195
            refine r_kv (q_V (As := [.ref (G.2.2.1 15), .int v191, .int v194]) (rest := []) (K := 17) (ci := 5) S X181 (c_X5_add l G t182 q184 15 (by decide) v191 v194 (R_of (lo := -2147483648) (hi := 2147483647) r193 rfl) (R_of (lo := 0) (hi := 99) r196 rfl) q186 (by omega)) ck6_67 (Nat.le_of_ble_eq_true rfl) rfl (fun _ => ⟨_, rfl⟩) ⟨_, _, rfl⟩ ⟨Nat.le_of_ble_eq_true rfl, Nat.le_of_ble_eq_true rfl⟩ rfl hl.1 rfl (Nat.le_of_ble_eq_true rfl) dX6_readOne_122 ⟨Nat.le_refl 0, Nat.le_refl 0⟩) X181 (fun t199 H lc q197 X198 => ?_)
            unfold po_X5_add at q197
            obtain ⟨q200, q201, q202⟩ := q197
            have F203 : Fr [(16, 1), (16, 2), (17, 4), (1, 3), (1, 4), (1, 5), (1, 7), (1, 8), (16, 4)] [18, 19, 20, 201] τ t199 := Fr_call F188 q201 (by decide)
            refine r_iconst S dX6_readOne_125 (by decide) (fun v204 z205 => ?_)
            have r206 := R_eq z205
            exact r_ret S hr hlk X198 ⟨q200, F203, q202, (R_of r206 rfl)⟩ (nr_bool (R_of (lo := 0) (hi := 1) r206 rfl)) dX6_readOne_126
          ·
            have r207 : R (0) (0) v183 := ⟨by omega, by omega⟩
            refine r_iconst S dX6_readOne_111 (by decide) (fun v208 z209 => ?_)
            have r210 := R_eq z209
            exact r_ret S hr hlk X181 ⟨q184, F188, q186, (R_of r210 rfl)⟩ (nr_bool (R_of (lo := 0) (hi := 1) r210 rfl)) dX6_readOne_112
      ·
        exfalso; omega
def po_X6_readAll_5 (τ : Tau)  (a0 : Int32)   (r : Int32) (u : Tau) : Prop := Inv u ∧ Fr [(16, 1), (16, 2), (17, 4), (1, 3), (1, 4), (1, 5), (1, 7), (1, 8), (16, 4)] [18, 19, 20, 201] τ u ∧ YT u ∧ R (0) (1) r
set_option maxHeartbeats 4000000 in
set_option maxRecDepth 100000 in
theorem c_X6_readAll_5 (l : Launch) (G : Gx) (τ : Tau) (hI : Inv τ) (a0 : Int32) (h_a0 : R (5) (5) a0) (hf_0 : R (1) (1) (τ 16 5)) (hYT : YT τ) : Ci l G yX6_readAll cX6_readAll 3 (some .boolean) 16 347 [.ref (G.2.2.2.1 16), .int a0] τ (po_X6_readAll_5 τ  a0  ) := by
  unfold Ci
  refine C_of (own := RX6) (by decide) rfl (Nat.le_of_ble_eq_true rfl) ?_
  intro p e s m below meth c ls S hr hlk X hl
  have hl : lv_has ls 3 [(0, .ref (G.2.2.2.1 16)), (1, .int a0)] := hl
  obtain ⟨v1, z2⟩ : ∃ x, τ 16 5 = x := ⟨_, rfl⟩
  rw [z2] at hf_0
  refine r_aload_n S dX6_readAll_0 rfl (lv_at hl 0 rfl) ?_
  refine r_iload_n S dX6_readAll_1 rfl (lv_at hl 1 rfl) ?_
  refine r_ki (q_V (As := [.int a0]) (rest := []) (K := 16) (ci := 6) S X (c_X6_readOne_5 l G τ hI a0 h_a0 (by rw [z2]; exact R_of hf_0 rfl) hYT) ck6_71 (Nat.le_of_ble_eq_true rfl) rfl (fun _ => ⟨_, rfl⟩) ⟨_, _, rfl⟩ ⟨Nat.le_of_ble_eq_true rfl, Nat.le_of_ble_eq_true rfl⟩ rfl hl.1 rfl (Nat.le_of_ble_eq_true rfl) dX6_readAll_2 ⟨Nat.le_refl 0, Nat.le_refl 0⟩) X (fun v6 t5 H lc q3 X4 => ?_)
  unfold po_X6_readOne_5 at q3
  obtain ⟨q7, q8, q9, q10⟩ := q3
  have F11 : Fr [(16, 1), (16, 2), (17, 4), (1, 3), (1, 4), (1, 5), (1, 7), (1, 8), (16, 4)] [18, 19, 20, 201] τ t5 := Fr_call Fr_rfl q8 (by decide)
  refine r_if_ne (tgt := 10) S dX6_readAll_5 (by decide) (fun c12 => ?_) (fun c12 => ?_)
  ·
    have r13 : R (1) (1) v6 := ⟨by omega, by omega⟩
    refine r_iconst S dX6_readAll_10 (by decide) (fun v14 z15 => ?_)
    have r16 := R_eq z15
    refine r_istore_n (lv' := [(2, .int v14), (0, .ref (G.2.2.2.1 16)), (1, .int a0)]) S dX6_readAll_11 rfl hl (by decide) rfl (fun ls hl => ?_)
    have L660 : ∀ (n : Nat) (t654 : Tau) (H : Heap) (lc : List Loc) (ls : Array Slot) (i652 : Int32), Xd G s H lc t654 → Inv t654 → Fr [(16, 1), (16, 2), (17, 4), (1, 3), (1, 4), (1, 5), (1, 7), (1, 8), (16, 4)] [18, 19, 20, 201] τ t654 → YT t654 → R (0) (24) i652 → t654 16 5 = v1 → lv_has ls 3 [(0, .ref (G.2.2.2.1 16)), (1, .int a0), (2, .int i652)] → (24 - i652.toInt).toNat < n → W p l e (Rm 16 347) s m ([.ref (G.2.2.2.1 16), .int a0] : List Value).toArray below meth c H lc 0 0 (MQ below (va_Qi (po_X6_readAll_5 τ  a0  ) (Bs G) G.2.2.2.2) ([.ref (G.2.2.2.1 16), .int a0] : List Value).toArray s 0 0 G.2.2.2.2) (F0 m 12 ls []) := by
      intro n
      induction n with
      | zero => intros; omega
      | succ n ih661 =>
        intro t654 H lc ls i652 X658 I655 F656 hYT657 r653 z659 hl hm
        refine r_iload_n S dX6_readAll_12 rfl (lv_at hl 2 rfl) ?_
        refine r_bipush S dX6_readAll_13 (by decide) (fun v662 z663 => ?_)
        have r664 := R_eq z663
        refine r_icmp_gt (tgt := 66) S dX6_readAll_15 (by decide) (fun c665 => ?_) (fun c665 => ?_)
        ·
          have r666 : R (21) (24) i652 := ⟨by omega, by omega⟩
          refine r_iconst S dX6_readAll_66 (by decide) (fun v667 z668 => ?_)
          have r669 := R_eq z668
          exact r_ret S hr hlk X658 ⟨I655, F656, hYT657, (R_of r669 rfl)⟩ (nr_bool (R_of (lo := 0) (hi := 1) r669 rfl)) dX6_readAll_67
        ·
          have r670 : R (0) (20) i652 := ⟨by omega, by omega⟩
          refine r_aload_n S dX6_readAll_18 rfl (lv_at hl 0 rfl) ?_
          refine r_get (K := 16) (v := .ref (G.2.2.2.1 1)) S X658 (Nat.le_of_ble_eq_true rfl) rfl lk6_39_6 (fun _ => ⟨_, rfl, rfl⟩) dX6_readAll_19 ?_
          refine r_wst (i := 14) S X658 (by decide) kw81 dX6_readAll_22 ?_
          refine r_ki (q_V (As := [.ref (G.2.2.1 14)]) (rest := []) (K := 1) (ci := 7) S X658 (c_X7_is l G t654 I655 14 (by decide)) ck6_60 (Nat.le_of_ble_eq_true rfl) rfl (fun _ => ⟨_, rfl⟩) ⟨_, _, rfl⟩ ⟨Nat.le_of_ble_eq_true rfl, Nat.le_of_ble_eq_true rfl⟩ rfl hl.1 rfl (Nat.le_of_ble_eq_true rfl) dX6_readAll_25 ⟨Nat.le_refl 0, Nat.le_refl 0⟩) X658 (fun v674 t673 H lc q671 X672 => ?_)
          unfold po_X7_is at q671
          obtain ⟨q675, q676⟩ := q671
          rw [q675] at X672
          refine r_if_eq (tgt := 66) S dX6_readAll_28 (by decide) (fun c677 => ?_) (fun c677 => ?_)
          ·
            have r678 : R (0) (0) v674 := ⟨by omega, by omega⟩
            refine r_iconst S dX6_readAll_66 (by decide) (fun v679 z680 => ?_)
            have r681 := R_eq z680
            exact r_ret S hr hlk X672 ⟨I655, F656, hYT657, (R_of r681 rfl)⟩ (nr_bool (R_of (lo := 0) (hi := 1) r681 rfl)) dX6_readAll_67
          ·
            have r682 : R (1) (1) v674 := ⟨by omega, by omega⟩
            refine r_aload_n S dX6_readAll_31 rfl (lv_at hl 0 rfl) ?_
            refine r_get (K := 16) (v := .ref (G.2.2.2.1 1)) S X672 (Nat.le_of_ble_eq_true rfl) rfl lk6_39_6 (fun _ => ⟨_, rfl, rfl⟩) dX6_readAll_32 ?_
            refine r_kv (q_V (As := []) (rest := []) (K := 1) (ci := 7) S X672 (c_X7_step l G t654 I655 ) ck6_64 (Nat.le_of_ble_eq_true rfl) rfl (fun _ => ⟨_, rfl⟩) ⟨_, _, rfl⟩ ⟨Nat.le_of_ble_eq_true rfl, Nat.le_of_ble_eq_true rfl⟩ rfl hl.1 rfl (Nat.le_of_ble_eq_true rfl) dX6_readAll_35 ⟨Nat.le_refl 0, Nat.le_refl 0⟩) X672 (fun t685 H lc q683 X684 => ?_)
            unfold po_X7_step at q683
            obtain ⟨q686, q687⟩ := q683
            have F688 : Fr [(16, 1), (16, 2), (17, 4), (1, 3), (1, 4), (1, 5), (1, 7), (1, 8), (16, 4)] [18, 19, 20, 201] τ t685 := Fr_call F656 q687 (by decide)
            refine r_aload_n S dX6_readAll_38 rfl (lv_at hl 0 rfl) ?_
            refine r_iload_n S dX6_readAll_39 rfl (lv_at hl 1 rfl) ?_
            refine r_ki (q_V (As := [.int a0]) (rest := []) (K := 16) (ci := 6) S X684 (c_X6_readOne_5 l G t685 q686 a0 h_a0 (by rw [((q687 16 5 (by decide)).trans z659)]; exact R_of hf_0 rfl) (YT_eq hYT657 (fun j => ((q687 18 j (by simp [fz])).trans rfl)) (fun j => ((q687 19 j (by simp [fz])).trans rfl)))) ck6_71 (Nat.le_of_ble_eq_true rfl) rfl (fun _ => ⟨_, rfl⟩) ⟨_, _, rfl⟩ ⟨Nat.le_of_ble_eq_true rfl, Nat.le_of_ble_eq_true rfl⟩ rfl hl.1 rfl (Nat.le_of_ble_eq_true rfl) dX6_readAll_40 ⟨Nat.le_refl 0, Nat.le_refl 0⟩) X684 (fun v692 t691 H lc q689 X690 => ?_)
            unfold po_X6_readOne_5 at q689
            obtain ⟨q693, q694, q695, q696⟩ := q689
            have F697 : Fr [(16, 1), (16, 2), (17, 4), (1, 3), (1, 4), (1, 5), (1, 7), (1, 8), (16, 4)] [18, 19, 20, 201] τ t691 := Fr_call F688 q694 (by decide)
            refine r_if_ne (tgt := 48) S dX6_readAll_43 (by decide) (fun c698 => ?_) (fun c698 => ?_)
            ·
              have r699 : R (1) (1) v692 := ⟨by omega, by omega⟩
              refine r_aload_n S dX6_readAll_48 rfl (lv_at hl 0 rfl) ?_
              refine r_get (K := 16) (v := .ref (G.2.2.2.1 17)) S X690 (Nat.le_of_ble_eq_true rfl) rfl lk6_14_6 (fun _ => ⟨_, rfl, rfl⟩) dX6_readAll_49 ?_
              refine r_wst (i := 14) S X690 (by decide) kw81 dX6_readAll_52 ?_
              refine r_iconst S dX6_readAll_55 (by decide) (fun v700 z701 => ?_)
              have r702 := R_eq z701
              refine r_iconst S dX6_readAll_56 (by decide) (fun v703 z704 => ?_)
              have r705 := R_eq z704
              refine r_kv (q_V (As := [.ref (G.2.2.1 14), .int v700, .int v703]) (rest := []) (K := 17) (ci := 5) S X690 (c_X5_add l G t691 q693 14 (by decide) v700 v703 (R_of (lo := -2147483648) (hi := 2147483647) r702 rfl) (R_of (lo := 0) (hi := 99) r705 rfl) q695 (by omega)) ck6_67 (Nat.le_of_ble_eq_true rfl) rfl (fun _ => ⟨_, rfl⟩) ⟨_, _, rfl⟩ ⟨Nat.le_of_ble_eq_true rfl, Nat.le_of_ble_eq_true rfl⟩ rfl hl.1 rfl (Nat.le_of_ble_eq_true rfl) dX6_readAll_57 ⟨Nat.le_refl 0, Nat.le_refl 0⟩) X690 (fun t708 H lc q706 X707 => ?_)
              unfold po_X5_add at q706
              obtain ⟨q709, q710, q711⟩ := q706
              have F712 : Fr [(16, 1), (16, 2), (17, 4), (1, 3), (1, 4), (1, 5), (1, 7), (1, 8), (16, 4)] [18, 19, 20, 201] τ t708 := Fr_call F697 q710 (by decide)
              refine r_iinc (k := 2) S dX6_readAll_60 hl rfl (by decide) (by decide) (fun v713 d714 ls z715 z716 hl => ?_)
              obtain ⟨e717, r718⟩ := i_add (lo := 1) (hi := 21) z715 r670 (R_eq z716) rfl
              have hl : lv_has ls 3 [(2, .int v713), (0, .ref (G.2.2.2.1 16)), (1, .int a0)] := hl
              refine r_goto (tgt := 12) S dX6_readAll_63 (by decide) ?_
              exact ih661 t708 _ _ _ v713 X707 q709 F712 q711 (R_of r718 rfl) ((q710 16 5 (by decide)).trans ((q694 16 5 (by decide)).trans ((q687 16 5 (by decide)).trans z659))) (lv_sub hl [1, 2, 0] rfl) (by omega)
            ·
              have r719 : R (0) (0) v692 := ⟨by omega, by omega⟩
              refine r_iconst S dX6_readAll_46 (by decide) (fun v720 z721 => ?_)
              have r722 := R_eq z721
              exact r_ret S hr hlk X690 ⟨q693, F697, q695, (R_of r722 rfl)⟩ (nr_bool (R_of (lo := 0) (hi := 1) r722 rfl)) dX6_readAll_47
    exact L660 _ t5 _ _ _ v14 X4 q7 F11 q9 (R_of r16 rfl) ((q8 16 5 (by decide)).trans z2) (lv_sub hl [1, 2, 0] rfl) (Nat.lt_succ_self _)
  ·
    have r723 : R (0) (0) v6 := ⟨by omega, by omega⟩
    refine r_iconst S dX6_readAll_8 (by decide) (fun v724 z725 => ?_)
    have r726 := R_eq z725
    exact r_ret S hr hlk X4 ⟨q7, F11, q9, (R_of r726 rfl)⟩ (nr_bool (R_of (lo := 0) (hi := 1) r726 rfl)) dX6_readAll_9
def po_X6_readCond_5 (τ : Tau)  (a0 : Int32)   (r : Int32) (u : Tau) : Prop := Inv u ∧ Fr [(16, 1), (16, 2), (17, 4), (1, 3), (1, 4), (1, 5), (1, 7), (1, 8), (16, 4)] [18, 19, 20, 201] τ u ∧ YT u ∧ R (0) (1) r
set_option maxHeartbeats 4000000 in
set_option maxRecDepth 100000 in
theorem c_X6_readCond_5 (l : Launch) (G : Gx) (τ : Tau) (hI : Inv τ) (a0 : Int32) (h_a0 : R (5) (5) a0) (hf_0 : R (1) (1) (τ 16 5)) (hYT : YT τ) : Ci l G yX6_readCond cX6_readCond 3 (some .boolean) 17 369 [.ref (G.2.2.2.1 16), .int a0] τ (po_X6_readCond_5 τ  a0  ) := by
  unfold Ci
  refine C_of (own := RX6) (by decide) rfl (Nat.le_of_ble_eq_true rfl) ?_
  intro p e s m below meth c ls S hr hlk X hl
  have hl : lv_has ls 3 [(0, .ref (G.2.2.2.1 16)), (1, .int a0)] := hl
  obtain ⟨v1, z2⟩ : ∃ x, τ 16 5 = x := ⟨_, rfl⟩
  rw [z2] at hf_0
  refine r_aload_n S dX6_readCond_0 rfl (lv_at hl 0 rfl) ?_
  refine r_iload_n S dX6_readCond_1 rfl (lv_at hl 1 rfl) ?_
  refine r_ki (q_V (As := [.int a0]) (rest := []) (K := 16) (ci := 6) S X (c_X6_readAll_5 l G τ hI a0 h_a0 (by rw [z2]; exact R_of hf_0 rfl) hYT) ck6_51 (Nat.le_of_ble_eq_true rfl) rfl (fun _ => ⟨_, rfl⟩) ⟨_, _, rfl⟩ ⟨Nat.le_of_ble_eq_true rfl, Nat.le_of_ble_eq_true rfl⟩ rfl hl.1 rfl (Nat.le_of_ble_eq_true rfl) dX6_readCond_2 ⟨Nat.le_refl 0, Nat.le_refl 0⟩) X (fun v6 t5 H lc q3 X4 => ?_)
  unfold po_X6_readAll_5 at q3
  obtain ⟨q7, q8, q9, q10⟩ := q3
  have F11 : Fr [(16, 1), (16, 2), (17, 4), (1, 3), (1, 4), (1, 5), (1, 7), (1, 8), (16, 4)] [18, 19, 20, 201] τ t5 := Fr_call Fr_rfl q8 (by decide)
  refine r_if_ne (tgt := 10) S dX6_readCond_5 (by decide) (fun c12 => ?_) (fun c12 => ?_)
  ·
    have r13 : R (1) (1) v6 := ⟨by omega, by omega⟩
    refine r_iconst S dX6_readCond_10 (by decide) (fun v14 z15 => ?_)
    have r16 := R_eq z15
    refine r_istore_n (lv' := [(2, .int v14), (0, .ref (G.2.2.2.1 16)), (1, .int a0)]) S dX6_readCond_11 rfl hl (by decide) rfl (fun ls hl => ?_)
    have L660 : ∀ (n : Nat) (t654 : Tau) (H : Heap) (lc : List Loc) (ls : Array Slot) (i652 : Int32), Xd G s H lc t654 → Inv t654 → Fr [(16, 1), (16, 2), (17, 4), (1, 3), (1, 4), (1, 5), (1, 7), (1, 8), (16, 4)] [18, 19, 20, 201] τ t654 → YT t654 → R (0) (24) i652 → t654 16 5 = v1 → lv_has ls 3 [(0, .ref (G.2.2.2.1 16)), (1, .int a0), (2, .int i652)] → (24 - i652.toInt).toNat < n → W p l e (Rm 17 369) s m ([.ref (G.2.2.2.1 16), .int a0] : List Value).toArray below meth c H lc 0 0 (MQ below (va_Qi (po_X6_readCond_5 τ  a0  ) (Bs G) G.2.2.2.2) ([.ref (G.2.2.2.1 16), .int a0] : List Value).toArray s 0 0 G.2.2.2.2) (F0 m 12 ls []) := by
      intro n
      induction n with
      | zero => intros; omega
      | succ n ih661 =>
        intro t654 H lc ls i652 X658 I655 F656 hYT657 r653 z659 hl hm
        refine r_iload_n S dX6_readCond_12 rfl (lv_at hl 2 rfl) ?_
        refine r_bipush S dX6_readCond_13 (by decide) (fun v662 z663 => ?_)
        have r664 := R_eq z663
        refine r_icmp_gt (tgt := 66) S dX6_readCond_15 (by decide) (fun c665 => ?_) (fun c665 => ?_)
        ·
          have r666 : R (21) (24) i652 := ⟨by omega, by omega⟩
          refine r_iconst S dX6_readCond_66 (by decide) (fun v667 z668 => ?_)
          have r669 := R_eq z668
          exact r_ret S hr hlk X658 ⟨I655, F656, hYT657, (R_of r669 rfl)⟩ (nr_bool (R_of (lo := 0) (hi := 1) r669 rfl)) dX6_readCond_67
        ·
          have r670 : R (0) (20) i652 := ⟨by omega, by omega⟩
          refine r_aload_n S dX6_readCond_18 rfl (lv_at hl 0 rfl) ?_
          refine r_get (K := 16) (v := .ref (G.2.2.2.1 1)) S X658 (Nat.le_of_ble_eq_true rfl) rfl lk6_39_6 (fun _ => ⟨_, rfl, rfl⟩) dX6_readCond_19 ?_
          refine r_wst (i := 13) S X658 (by decide) kw82 dX6_readCond_22 ?_
          refine r_ki (q_V (As := [.ref (G.2.2.1 13)]) (rest := []) (K := 1) (ci := 7) S X658 (c_X7_is l G t654 I655 13 (by decide)) ck6_60 (Nat.le_of_ble_eq_true rfl) rfl (fun _ => ⟨_, rfl⟩) ⟨_, _, rfl⟩ ⟨Nat.le_of_ble_eq_true rfl, Nat.le_of_ble_eq_true rfl⟩ rfl hl.1 rfl (Nat.le_of_ble_eq_true rfl) dX6_readCond_25 ⟨Nat.le_refl 0, Nat.le_refl 0⟩) X658 (fun v674 t673 H lc q671 X672 => ?_)
          unfold po_X7_is at q671
          obtain ⟨q675, q676⟩ := q671
          rw [q675] at X672
          refine r_if_eq (tgt := 66) S dX6_readCond_28 (by decide) (fun c677 => ?_) (fun c677 => ?_)
          ·
            have r678 : R (0) (0) v674 := ⟨by omega, by omega⟩
            refine r_iconst S dX6_readCond_66 (by decide) (fun v679 z680 => ?_)
            have r681 := R_eq z680
            exact r_ret S hr hlk X672 ⟨I655, F656, hYT657, (R_of r681 rfl)⟩ (nr_bool (R_of (lo := 0) (hi := 1) r681 rfl)) dX6_readCond_67
          ·
            have r682 : R (1) (1) v674 := ⟨by omega, by omega⟩
            refine r_aload_n S dX6_readCond_31 rfl (lv_at hl 0 rfl) ?_
            refine r_get (K := 16) (v := .ref (G.2.2.2.1 1)) S X672 (Nat.le_of_ble_eq_true rfl) rfl lk6_39_6 (fun _ => ⟨_, rfl, rfl⟩) dX6_readCond_32 ?_
            refine r_kv (q_V (As := []) (rest := []) (K := 1) (ci := 7) S X672 (c_X7_step l G t654 I655 ) ck6_64 (Nat.le_of_ble_eq_true rfl) rfl (fun _ => ⟨_, rfl⟩) ⟨_, _, rfl⟩ ⟨Nat.le_of_ble_eq_true rfl, Nat.le_of_ble_eq_true rfl⟩ rfl hl.1 rfl (Nat.le_of_ble_eq_true rfl) dX6_readCond_35 ⟨Nat.le_refl 0, Nat.le_refl 0⟩) X672 (fun t685 H lc q683 X684 => ?_)
            unfold po_X7_step at q683
            obtain ⟨q686, q687⟩ := q683
            have F688 : Fr [(16, 1), (16, 2), (17, 4), (1, 3), (1, 4), (1, 5), (1, 7), (1, 8), (16, 4)] [18, 19, 20, 201] τ t685 := Fr_call F656 q687 (by decide)
            refine r_aload_n S dX6_readCond_38 rfl (lv_at hl 0 rfl) ?_
            refine r_iload_n S dX6_readCond_39 rfl (lv_at hl 1 rfl) ?_
            refine r_ki (q_V (As := [.int a0]) (rest := []) (K := 16) (ci := 6) S X684 (c_X6_readAll_5 l G t685 q686 a0 h_a0 (by rw [((q687 16 5 (by decide)).trans z659)]; exact R_of hf_0 rfl) (YT_eq hYT657 (fun j => ((q687 18 j (by simp [fz])).trans rfl)) (fun j => ((q687 19 j (by simp [fz])).trans rfl)))) ck6_51 (Nat.le_of_ble_eq_true rfl) rfl (fun _ => ⟨_, rfl⟩) ⟨_, _, rfl⟩ ⟨Nat.le_of_ble_eq_true rfl, Nat.le_of_ble_eq_true rfl⟩ rfl hl.1 rfl (Nat.le_of_ble_eq_true rfl) dX6_readCond_40 ⟨Nat.le_refl 0, Nat.le_refl 0⟩) X684 (fun v692 t691 H lc q689 X690 => ?_)
            unfold po_X6_readAll_5 at q689
            obtain ⟨q693, q694, q695, q696⟩ := q689
            have F697 : Fr [(16, 1), (16, 2), (17, 4), (1, 3), (1, 4), (1, 5), (1, 7), (1, 8), (16, 4)] [18, 19, 20, 201] τ t691 := Fr_call F688 q694 (by decide)
            refine r_if_ne (tgt := 48) S dX6_readCond_43 (by decide) (fun c698 => ?_) (fun c698 => ?_)
            ·
              have r699 : R (1) (1) v692 := ⟨by omega, by omega⟩
              refine r_aload_n S dX6_readCond_48 rfl (lv_at hl 0 rfl) ?_
              refine r_get (K := 16) (v := .ref (G.2.2.2.1 17)) S X690 (Nat.le_of_ble_eq_true rfl) rfl lk6_14_6 (fun _ => ⟨_, rfl, rfl⟩) dX6_readCond_49 ?_
              refine r_wst (i := 13) S X690 (by decide) kw82 dX6_readCond_52 ?_
              refine r_iconst S dX6_readCond_55 (by decide) (fun v700 z701 => ?_)
              have r702 := R_eq z701
              refine r_iconst S dX6_readCond_56 (by decide) (fun v703 z704 => ?_)
              have r705 := R_eq z704
              refine r_kv (q_V (As := [.ref (G.2.2.1 13), .int v700, .int v703]) (rest := []) (K := 17) (ci := 5) S X690 (c_X5_add l G t691 q693 13 (by decide) v700 v703 (R_of (lo := -2147483648) (hi := 2147483647) r702 rfl) (R_of (lo := 0) (hi := 99) r705 rfl) q695 (by omega)) ck6_67 (Nat.le_of_ble_eq_true rfl) rfl (fun _ => ⟨_, rfl⟩) ⟨_, _, rfl⟩ ⟨Nat.le_of_ble_eq_true rfl, Nat.le_of_ble_eq_true rfl⟩ rfl hl.1 rfl (Nat.le_of_ble_eq_true rfl) dX6_readCond_57 ⟨Nat.le_refl 0, Nat.le_refl 0⟩) X690 (fun t708 H lc q706 X707 => ?_)
              unfold po_X5_add at q706
              obtain ⟨q709, q710, q711⟩ := q706
              have F712 : Fr [(16, 1), (16, 2), (17, 4), (1, 3), (1, 4), (1, 5), (1, 7), (1, 8), (16, 4)] [18, 19, 20, 201] τ t708 := Fr_call F697 q710 (by decide)
              refine r_iinc (k := 2) S dX6_readCond_60 hl rfl (by decide) (by decide) (fun v713 d714 ls z715 z716 hl => ?_)
              obtain ⟨e717, r718⟩ := i_add (lo := 1) (hi := 21) z715 r670 (R_eq z716) rfl
              have hl : lv_has ls 3 [(2, .int v713), (0, .ref (G.2.2.2.1 16)), (1, .int a0)] := hl
              refine r_goto (tgt := 12) S dX6_readCond_63 (by decide) ?_
              exact ih661 t708 _ _ _ v713 X707 q709 F712 q711 (R_of r718 rfl) ((q710 16 5 (by decide)).trans ((q694 16 5 (by decide)).trans ((q687 16 5 (by decide)).trans z659))) (lv_sub hl [1, 2, 0] rfl) (by omega)
            ·
              have r719 : R (0) (0) v692 := ⟨by omega, by omega⟩
              refine r_iconst S dX6_readCond_46 (by decide) (fun v720 z721 => ?_)
              have r722 := R_eq z721
              exact r_ret S hr hlk X690 ⟨q693, F697, q695, (R_of r722 rfl)⟩ (nr_bool (R_of (lo := 0) (hi := 1) r722 rfl)) dX6_readCond_47
    exact L660 _ t5 _ _ _ v14 X4 q7 F11 q9 (R_of r16 rfl) ((q8 16 5 (by decide)).trans z2) (lv_sub hl [1, 2, 0] rfl) (Nat.lt_succ_self _)
  ·
    have r723 : R (0) (0) v6 := ⟨by omega, by omega⟩
    refine r_iconst S dX6_readCond_8 (by decide) (fun v724 z725 => ?_)
    have r726 := R_eq z725
    exact r_ret S hr hlk X4 ⟨q7, F11, q9, (R_of r726 rfl)⟩ (nr_bool (R_of (lo := 0) (hi := 1) r726 rfl)) dX6_readCond_9
def po_X6_readOne_4 (τ : Tau)  (a0 : Int32)   (r : Int32) (u : Tau) : Prop := Inv u ∧ Fr [(16, 1), (16, 2), (17, 4), (1, 3), (1, 4), (1, 5), (1, 7), (1, 8), (16, 4)] [18, 19, 20, 201] τ u ∧ YT u ∧ R (0) (1) r
set_option maxHeartbeats 4000000 in
set_option maxRecDepth 100000 in
theorem c_X6_readOne_4 (l : Launch) (G : Gx) (τ : Tau) (hI : Inv τ) (a0 : Int32) (h_a0 : R (4) (4) a0) (hf_0 : R (1) (1) (τ 16 5)) (hYT : YT τ) : Ci l G yX6_readOne cX6_readOne 3 (some .boolean) 18 391 [.ref (G.2.2.2.1 16), .int a0] τ (po_X6_readOne_4 τ  a0  ) := by
  unfold Ci
  refine C_of (own := RX6) (by decide) rfl (Nat.le_of_ble_eq_true rfl) ?_
  intro p e s m below meth c ls S hr hlk X hl
  have hl : lv_has ls 3 [(0, .ref (G.2.2.2.1 16)), (1, .int a0)] := hl
  obtain ⟨v1, z2⟩ : ∃ x, τ 16 5 = x := ⟨_, rfl⟩
  rw [z2] at hf_0
  refine r_aload_n S dX6_readOne_0 rfl (lv_at hl 0 rfl) ?_
  refine r_kw2 (q_V (As := []) (rest := []) (K := 16) (ci := 6) S X (c_X6_firstWord l G τ hI ) ck6_77 (Nat.le_of_ble_eq_true rfl) rfl (fun _ => ⟨_, rfl⟩) ⟨_, _, rfl⟩ ⟨Nat.le_of_ble_eq_true rfl, Nat.le_of_ble_eq_true rfl⟩ rfl hl.1 rfl (Nat.le_of_ble_eq_true rfl) dX6_readOne_1 ⟨Nat.le_refl 0, Nat.le_refl 0⟩) X (fun _ _ h => h.2) (fun y6 t5 H lc q3 X4 h7 => ?_) (fun y6 t5 H lc w8 q3 X4 h_w8 e9 => ?_)
  ·
    unfold po_X6_firstWord at q3
    obtain ⟨q10, q11⟩ := q3
    rw [q10] at X4
    refine lv_astore_nN (lv' := [(2, .null), (0, .ref (G.2.2.2.1 16)), (1, .int a0)]) S.1.1 S.1.2.1 dX6_readOne_4 rfl hl (by decide) rfl (fun ls hl => ?_)
    refine lv_aload_nN S.1.1 S.1.2.1 dX6_readOne_5 rfl (lv_at hl 0 rfl) ?_
    refine lv_ifnonnullN S.1.1 S.1.2.1 dX6_readOne_6 ?_
    refine r_aload_n S dX6_readOne_9 rfl (lv_at hl 1 rfl) ?_
    refine r_get (K := 16) (v := .ref (G.2.2.2.1 1)) S X4 (Nat.le_of_ble_eq_true rfl) rfl lk6_39_6 (fun _ => ⟨_, rfl, rfl⟩) dX6_readOne_10 ?_
    refine r_bipush S dX6_readOne_13 (by decide) (fun v12 z13 => ?_)
    have r14 := R_eq z13
    refine r_ki (q_V (As := [.int v12]) (rest := []) (K := 1) (ci := 7) S X4 (c_X7_isSigned l G τ hI v12 (R_of (lo := 0) (hi := 65535) r14 rfl)) ck6_81 (Nat.le_of_ble_eq_true rfl) rfl (fun _ => ⟨_, rfl⟩) ⟨_, _, rfl⟩ ⟨Nat.le_of_ble_eq_true rfl, Nat.le_of_ble_eq_true rfl⟩ rfl hl.1 rfl (Nat.le_of_ble_eq_true rfl) dX6_readOne_15 ⟨Nat.le_refl 0, Nat.le_refl 0⟩) X4 (fun v18 t17 H lc q15 X16 => ?_)
    unfold po_X7_isSigned at q15
    obtain ⟨q19, q20⟩ := q15
    rw [q19] at X16
    refine r_if_ne (tgt := 27) S dX6_readOne_18 (by decide) (fun c21 => ?_) (fun c21 => ?_)
    ·
      have r22 : R (1) (1) v18 := ⟨by omega, by omega⟩
      refine r_aload_n S dX6_readOne_27 rfl (lv_at hl 1 rfl) ?_
      refine r_getn (K := 16) S X16 (Nat.le_of_ble_eq_true rfl) rfl lk6_28_6 (fun _ => ⟨_, rfl, rfl⟩) dX6_readOne_28 (fun v23 z24 => ?_)
      have r25 : R (0) (20) v23 := rd hI rfl z24
      refine r_bipush S dX6_readOne_31 (by decide) (fun v26 z27 => ?_)
      have r28 := R_eq z27
      refine r_icmp_ge (tgt := 42) S dX6_readOne_33 (by decide) (fun c29 => ?_) (fun c29 => ?_)
      ·
        have r30 : R (20) (20) v23 := ⟨by omega, by omega⟩
        refine r_aload_n S dX6_readOne_42 rfl (lv_at hl 1 rfl) ?_
        refine r_iconst S dX6_readOne_43 (by decide) (fun v31 z32 => ?_)
        have r33 := R_eq z32
        refine r_ki (q_U (As := [.int v31]) (rest := []) (K := 16) (ci := 6) S X16 (c_X8_fail_16 l G τ hI v31 (R_of (lo := -2147483648) (hi := 2147483647) r33 rfl)) ck6_48_6 (Nat.le_of_ble_eq_true rfl) rfl (fun _ => ⟨_, rfl⟩) ⟨_, _, rfl⟩ ⟨Nat.le_of_ble_eq_true rfl, Nat.le_of_ble_eq_true rfl⟩ rfl hl.1 rfl (Nat.le_of_ble_eq_true rfl) dX6_readOne_44 ⟨Nat.le_refl 0, Nat.le_refl 0⟩) X16 (fun v37 t36 H lc q34 X35 => ?_)
        unfold po_X8_fail_16 at q34
        obtain ⟨q38, q39, q40⟩ := q34
        have F41 : Fr [(16, 1), (16, 2), (17, 4), (1, 3), (1, 4), (1, 5), (1, 7), (1, 8), (16, 4)] [18, 19, 20, 201] τ t36 := Fr_call Fr_rfl q39 (by decide)
        exact r_ret S hr hlk X35 ⟨q38, F41, (YT_eq hYT (fun j => ((q39 18 j (by simp [fz])).trans rfl)) (fun j => ((q39 19 j (by simp [fz])).trans rfl))), (R_of q40 rfl)⟩ (nr_bool (R_of (lo := 0) (hi := 1) q40 rfl)) dX6_readOne_47
      ·
        have r42 : R (0) (19) v23 := ⟨by omega, by omega⟩
        refine r_iload_n S dX6_readOne_36 rfl (lv_at hl 2 rfl) ?_
        refine r_bipush S dX6_readOne_37 (by decide) (fun v43 z44 => ?_)
        have r45 := R_eq z44
        refine r_icmp_le (tgt := 48) S dX6_readOne_39 (by decide) (fun c46 => ?_) (fun c46 => ?_)
        ·
          refine r_aload_n S dX6_readOne_48 rfl (lv_at hl 1 rfl) ?_
          refine r_dup S dX6_readOne_49 rfl ?_
          refine r_geti (K := 16) S X16 (Nat.le_of_ble_eq_true rfl) rfl lk6_28_6 (fun _ => ⟨_, rfl, rfl⟩) z24 dX6_readOne_50 ?_
          refine r_iconst S dX6_readOne_53 (by decide) (fun v47 z48 => ?_)
          have r49 := R_eq z48
          refine r_iadd S dX6_readOne_54 (fun v50 z51 => ?_)
          obtain ⟨e52, r53⟩ := i_add (lo := 1) (hi := 20) z51 r42 r49 rfl
          refine r_put (K := 16) (ty := .int) S X16 (Nat.le_of_ble_eq_true rfl) rfl lk6_28_6 (fun _ => ⟨_, rfl, Nat.le_of_ble_eq_true rfl, rfl⟩) (fun _ _ _ h => by cases h; exact ⟨rfl, rfl⟩) rfl rfl dX6_readOne_55 (fun t54 H lc M55 X56 => ?_)
          have I57 := Inv_mu hI M55 (show Rg (kd 16) 4 v50 from (R_of (lo := 0) (hi := 20) r53 rfl))
          have F58 : Fr [(16, 1), (16, 2), (17, 4), (1, 3), (1, 4), (1, 5), (1, 7), (1, 8), (16, 4)] [18, 19, 20, 201] τ t54 := Fr_mu Fr_rfl M55 (by decide)
          refine r_aload_n S dX6_readOne_58 rfl (lv_at hl 1 rfl) ?_
          refine r_get (K := 16) (v := .ref (G.2.2.2.1 1)) S X56 (Nat.le_of_ble_eq_true rfl) rfl lk6_39_6 (fun _ => ⟨_, rfl, rfl⟩) dX6_readOne_59 ?_
          refine r_kv (q_V (As := []) (rest := []) (K := 1) (ci := 7) S X56 (c_X7_step l G t54 I57 ) ck6_64 (Nat.le_of_ble_eq_true rfl) rfl (fun _ => ⟨_, rfl⟩) ⟨_, _, rfl⟩ ⟨Nat.le_of_ble_eq_true rfl, Nat.le_of_ble_eq_true rfl⟩ rfl hl.1 rfl (Nat.le_of_ble_eq_true rfl) dX6_readOne_62 ⟨Nat.le_refl 0, Nat.le_refl 0⟩) X56 (fun t61 H lc q59 X60 => ?_)
          unfold po_X7_step at q59
          obtain ⟨q62, q63⟩ := q59
          have F64 : Fr [(16, 1), (16, 2), (17, 4), (1, 3), (1, 4), (1, 5), (1, 7), (1, 8), (16, 4)] [18, 19, 20, 201] τ t61 := Fr_call F58 q63 (by decide)
          refine lv_aload_nN S.1.1 S.1.2.1 dX6_readOne_65 rfl (lv_at hl 0 rfl) ?_
          refine lv_ifnonnullN S.1.1 S.1.2.1 dX6_readOne_66 ?_
          refine r_aload_n S dX6_readOne_69 rfl (lv_at hl 1 rfl) ?_
          refine r_iload_n S dX6_readOne_70 rfl (lv_at hl 2 rfl) ?_
          refine r_iconst S dX6_readOne_71 (by decide) (fun v65 z66 => ?_)
          have r67 := R_eq z66
          refine r_iadd S dX6_readOne_72 (fun v68 z69 => ?_)
          obtain ⟨e70, r71⟩ := i_add (lo := 5) (hi := 5) z69 h_a0 r67 rfl
          refine r_ki (q_V (As := [.int v68]) (rest := []) (K := 16) (ci := 6) S X60 (c_X6_readCond_5 l G t61 q62 v68 r71 (by rw [((q63 16 5 (by decide)).trans ((M55.2 16 5 (Or.inr (by decide))).trans z2))]; exact R_of hf_0 rfl) (YT_eq hYT (fun j => ((q63 18 j (by simp [fz])).trans ((M55.2 18 j (Or.inl (by decide))).trans rfl))) (fun j => ((q63 19 j (by simp [fz])).trans ((M55.2 19 j (Or.inl (by decide))).trans rfl))))) ck6_35 (Nat.le_of_ble_eq_true rfl) rfl (fun _ => ⟨_, rfl⟩) ⟨_, _, rfl⟩ ⟨Nat.le_of_ble_eq_true rfl, Nat.le_of_ble_eq_true rfl⟩ rfl hl.1 rfl (Nat.le_of_ble_eq_true rfl) dX6_readOne_73 ⟨Nat.le_refl 0, Nat.le_refl 0⟩) X60 (fun v75 t74 H lc q72 X73 => ?_)
          unfold po_X6_readCond_5 at q72
          obtain ⟨q76, q77, q78, q79⟩ := q72
          have F80 : Fr [(16, 1), (16, 2), (17, 4), (1, 3), (1, 4), (1, 5), (1, 7), (1, 8), (16, 4)] [18, 19, 20, 201] τ t74 := Fr_call F64 q77 (by decide)
          refine r_if_eq (tgt := 92) S dX6_readOne_76 (by decide) (fun c81 => ?_) (fun c81 => ?_)
          ·
            have r82 : R (0) (0) v75 := ⟨by omega, by omega⟩
            refine r_iconst S dX6_readOne_92 (by decide) (fun v83 z84 => ?_)
            have r85 := R_eq z84
            exact r_ret S hr hlk X73 ⟨q76, F80, q78, (R_of r85 rfl)⟩ (nr_bool (R_of (lo := 0) (hi := 1) r85 rfl)) dX6_readOne_93
          ·
            have r86 : R (1) (1) v75 := ⟨by omega, by omega⟩
            refine r_aload_n S dX6_readOne_79 rfl (lv_at hl 1 rfl) ?_
            refine r_bipush S dX6_readOne_80 (by decide) (fun v87 z88 => ?_)
            have r89 := R_eq z88
            refine r_ki (q_U (As := [.int v87]) (rest := []) (K := 16) (ci := 6) S X73 (c_X8_takeSign_16 l G t74 q76 v87 (R_of (lo := 0) (hi := 65535) r89 rfl)) ck6_85_6 (Nat.le_of_ble_eq_true rfl) rfl (fun _ => ⟨_, rfl⟩) ⟨_, _, rfl⟩ ⟨Nat.le_of_ble_eq_true rfl, Nat.le_of_ble_eq_true rfl⟩ rfl hl.1 rfl (Nat.le_of_ble_eq_true rfl) dX6_readOne_82 ⟨Nat.le_refl 0, Nat.le_refl 0⟩) X73 (fun v93 t92 H lc q90 X91 => ?_)
            unfold po_X8_takeSign_16 at q90
            obtain ⟨q94, q95, q96⟩ := q90
            have F97 : Fr [(16, 1), (16, 2), (17, 4), (1, 3), (1, 4), (1, 5), (1, 7), (1, 8), (16, 4)] [18, 19, 20, 201] τ t92 := Fr_call F80 q95 (by decide)
            refine r_if_eq (tgt := 92) S dX6_readOne_85 (by decide) (fun c98 => ?_) (fun c98 => ?_)
            ·
              have r99 : R (0) (0) v93 := ⟨by omega, by omega⟩
              refine r_iconst S dX6_readOne_92 (by decide) (fun v100 z101 => ?_)
              have r102 := R_eq z101
              exact r_ret S hr hlk X91 ⟨q94, F97, (YT_eq q78 (fun j => ((q95 18 j (by simp [fz])).trans rfl)) (fun j => ((q95 19 j (by simp [fz])).trans rfl))), (R_of r102 rfl)⟩ (nr_bool (R_of (lo := 0) (hi := 1) r102 rfl)) dX6_readOne_93
            ·
              have r103 : R (1) (1) v93 := ⟨by omega, by omega⟩
              refine r_iconst S dX6_readOne_88 (by decide) (fun v104 z105 => ?_)
              have r106 := R_eq z105
              refine r_goto (tgt := 93) S dX6_readOne_89 (by decide) ?_
              exact r_ret S hr hlk X91 ⟨q94, F97, (YT_eq q78 (fun j => ((q95 18 j (by simp [fz])).trans rfl)) (fun j => ((q95 19 j (by simp [fz])).trans rfl))), (R_of r106 rfl)⟩ (nr_bool (R_of (lo := 0) (hi := 1) r106 rfl)) dX6_readOne_93
        ·
          exfalso; omega
    ·
      have r107 : R (0) (0) v18 := ⟨by omega, by omega⟩
      refine r_aload_n S dX6_readOne_21 rfl (lv_at hl 1 rfl) ?_
      refine r_iconst S dX6_readOne_22 (by decide) (fun v108 z109 => ?_)
      have r110 := R_eq z109
      refine r_ki (q_U (As := [.int v108]) (rest := []) (K := 16) (ci := 6) S X16 (c_X8_fail_16 l G τ hI v108 (R_of (lo := -2147483648) (hi := 2147483647) r110 rfl)) ck6_48_6 (Nat.le_of_ble_eq_true rfl) rfl (fun _ => ⟨_, rfl⟩) ⟨_, _, rfl⟩ ⟨Nat.le_of_ble_eq_true rfl, Nat.le_of_ble_eq_true rfl⟩ rfl hl.1 rfl (Nat.le_of_ble_eq_true rfl) dX6_readOne_23 ⟨Nat.le_refl 0, Nat.le_refl 0⟩) X16 (fun v114 t113 H lc q111 X112 => ?_)
      unfold po_X8_fail_16 at q111
      obtain ⟨q115, q116, q117⟩ := q111
      have F118 : Fr [(16, 1), (16, 2), (17, 4), (1, 3), (1, 4), (1, 5), (1, 7), (1, 8), (16, 4)] [18, 19, 20, 201] τ t113 := Fr_call Fr_rfl q116 (by decide)
      exact r_ret S hr hlk X112 ⟨q115, F118, (YT_eq hYT (fun j => ((q116 18 j (by simp [fz])).trans rfl)) (fun j => ((q116 19 j (by simp [fz])).trans rfl))), (R_of q117 rfl)⟩ (nr_bool (R_of (lo := 0) (hi := 1) q117 rfl)) dX6_readOne_26
  ·
    unfold po_X6_firstWord at q3
    obtain ⟨q119, q120⟩ := q3
    rw [q119] at X4
    refine r_astore_n (lv' := [(2, .ref (G.2.2.1 w8)), (0, .ref (G.2.2.2.1 16)), (1, .int a0)]) S dX6_readOne_4 rfl hl (by decide) rfl (fun ls hl => ?_)
    refine r_aload_n S dX6_readOne_5 rfl (lv_at hl 0 rfl) ?_
    refine lv_ifnonnull (tgt := 27) S.1.1 S.1.2.1 dX6_readOne_6 (by decide) ?_
    refine r_aload_n S dX6_readOne_27 rfl (lv_at hl 1 rfl) ?_
    refine r_getn (K := 16) S X4 (Nat.le_of_ble_eq_true rfl) rfl lk6_28_6 (fun _ => ⟨_, rfl, rfl⟩) dX6_readOne_28 (fun v121 z122 => ?_)
    have r123 : R (0) (20) v121 := rd hI rfl z122
    refine r_bipush S dX6_readOne_31 (by decide) (fun v124 z125 => ?_)
    have r126 := R_eq z125
    refine r_icmp_ge (tgt := 42) S dX6_readOne_33 (by decide) (fun c127 => ?_) (fun c127 => ?_)
    ·
      have r128 : R (20) (20) v121 := ⟨by omega, by omega⟩
      refine r_aload_n S dX6_readOne_42 rfl (lv_at hl 1 rfl) ?_
      refine r_iconst S dX6_readOne_43 (by decide) (fun v129 z130 => ?_)
      have r131 := R_eq z130
      refine r_ki (q_U (As := [.int v129]) (rest := []) (K := 16) (ci := 6) S X4 (c_X8_fail_16 l G τ hI v129 (R_of (lo := -2147483648) (hi := 2147483647) r131 rfl)) ck6_48_6 (Nat.le_of_ble_eq_true rfl) rfl (fun _ => ⟨_, rfl⟩) ⟨_, _, rfl⟩ ⟨Nat.le_of_ble_eq_true rfl, Nat.le_of_ble_eq_true rfl⟩ rfl hl.1 rfl (Nat.le_of_ble_eq_true rfl) dX6_readOne_44 ⟨Nat.le_refl 0, Nat.le_refl 0⟩) X4 (fun v135 t134 H lc q132 X133 => ?_)
      unfold po_X8_fail_16 at q132
      obtain ⟨q136, q137, q138⟩ := q132
      have F139 : Fr [(16, 1), (16, 2), (17, 4), (1, 3), (1, 4), (1, 5), (1, 7), (1, 8), (16, 4)] [18, 19, 20, 201] τ t134 := Fr_call Fr_rfl q137 (by decide)
      exact r_ret S hr hlk X133 ⟨q136, F139, (YT_eq hYT (fun j => ((q137 18 j (by simp [fz])).trans rfl)) (fun j => ((q137 19 j (by simp [fz])).trans rfl))), (R_of q138 rfl)⟩ (nr_bool (R_of (lo := 0) (hi := 1) q138 rfl)) dX6_readOne_47
    ·
      have r140 : R (0) (19) v121 := ⟨by omega, by omega⟩
      refine r_iload_n S dX6_readOne_36 rfl (lv_at hl 2 rfl) ?_
      refine r_bipush S dX6_readOne_37 (by decide) (fun v141 z142 => ?_)
      have r143 := R_eq z142
      refine r_icmp_le (tgt := 48) S dX6_readOne_39 (by decide) (fun c144 => ?_) (fun c144 => ?_)
      ·
        refine r_aload_n S dX6_readOne_48 rfl (lv_at hl 1 rfl) ?_
        refine r_dup S dX6_readOne_49 rfl ?_
        refine r_geti (K := 16) S X4 (Nat.le_of_ble_eq_true rfl) rfl lk6_28_6 (fun _ => ⟨_, rfl, rfl⟩) z122 dX6_readOne_50 ?_
        refine r_iconst S dX6_readOne_53 (by decide) (fun v145 z146 => ?_)
        have r147 := R_eq z146
        refine r_iadd S dX6_readOne_54 (fun v148 z149 => ?_)
        obtain ⟨e150, r151⟩ := i_add (lo := 1) (hi := 20) z149 r140 r147 rfl
        refine r_put (K := 16) (ty := .int) S X4 (Nat.le_of_ble_eq_true rfl) rfl lk6_28_6 (fun _ => ⟨_, rfl, Nat.le_of_ble_eq_true rfl, rfl⟩) (fun _ _ _ h => by cases h; exact ⟨rfl, rfl⟩) rfl rfl dX6_readOne_55 (fun t152 H lc M153 X154 => ?_)
        have I155 := Inv_mu hI M153 (show Rg (kd 16) 4 v148 from (R_of (lo := 0) (hi := 20) r151 rfl))
        have F156 : Fr [(16, 1), (16, 2), (17, 4), (1, 3), (1, 4), (1, 5), (1, 7), (1, 8), (16, 4)] [18, 19, 20, 201] τ t152 := Fr_mu Fr_rfl M153 (by decide)
        refine r_aload_n S dX6_readOne_58 rfl (lv_at hl 1 rfl) ?_
        refine r_get (K := 16) (v := .ref (G.2.2.2.1 1)) S X154 (Nat.le_of_ble_eq_true rfl) rfl lk6_39_6 (fun _ => ⟨_, rfl, rfl⟩) dX6_readOne_59 ?_
        refine r_kv (q_V (As := []) (rest := []) (K := 1) (ci := 7) S X154 (c_X7_step l G t152 I155 ) ck6_64 (Nat.le_of_ble_eq_true rfl) rfl (fun _ => ⟨_, rfl⟩) ⟨_, _, rfl⟩ ⟨Nat.le_of_ble_eq_true rfl, Nat.le_of_ble_eq_true rfl⟩ rfl hl.1 rfl (Nat.le_of_ble_eq_true rfl) dX6_readOne_62 ⟨Nat.le_refl 0, Nat.le_refl 0⟩) X154 (fun t159 H lc q157 X158 => ?_)
        unfold po_X7_step at q157
        obtain ⟨q160, q161⟩ := q157
        have F162 : Fr [(16, 1), (16, 2), (17, 4), (1, 3), (1, 4), (1, 5), (1, 7), (1, 8), (16, 4)] [18, 19, 20, 201] τ t159 := Fr_call F156 q161 (by decide)
        refine r_aload_n S dX6_readOne_65 rfl (lv_at hl 0 rfl) ?_
        refine lv_ifnonnull (tgt := 94) S.1.1 S.1.2.1 dX6_readOne_66 (by decide) ?_
        refine r_aload_n S dX6_readOne_94 rfl (lv_at hl 0 rfl) ?_
        refine r_wst (i := 15) S X158 (by decide) kw74 dX6_readOne_95 ?_
        refine r_cacmp_ne (tgt := 127) S h_w8 (by decide) dX6_readOne_98 (by decide) (fun c163 => ?_) (fun c163 => ?_)
        ·
          refine r_aload_n S dX6_readOne_127 rfl (lv_at hl 1 rfl) ?_
          refine r_aload_n S dX6_readOne_128 rfl (lv_at hl 0 rfl) ?_
          refine r_ki (q_V (As := [.ref (G.2.2.1 w8)]) (rest := []) (K := 16) (ci := 6) S X158 (c_X6_readPlainOne l G t159 q160 w8 h_w8 (by rw [((q161 16 5 (by decide)).trans ((M153.2 16 5 (Or.inr (by decide))).trans z2))]; exact R_of hf_0 rfl) (YT_eq hYT (fun j => ((q161 18 j (by simp [fz])).trans ((M153.2 18 j (Or.inl (by decide))).trans rfl))) (fun j => ((q161 19 j (by simp [fz])).trans ((M153.2 19 j (Or.inl (by decide))).trans rfl))))) ck6_91 (Nat.le_of_ble_eq_true rfl) rfl (fun _ => ⟨_, rfl⟩) ⟨_, _, rfl⟩ ⟨Nat.le_of_ble_eq_true rfl, Nat.le_of_ble_eq_true rfl⟩ rfl hl.1 rfl (Nat.le_of_ble_eq_true rfl) dX6_readOne_129 ⟨Nat.le_refl 0, Nat.le_refl 0⟩) X158 (fun v167 t166 H lc q164 X165 => ?_)
          unfold po_X6_readPlainOne at q164
          obtain ⟨q168, q169, q170, q171⟩ := q164
          have F172 : Fr [(16, 1), (16, 2), (17, 4), (1, 3), (1, 4), (1, 5), (1, 7), (1, 8), (16, 4)] [18, 19, 20, 201] τ t166 := Fr_call F162 q169 (by decide)
          exact r_ret S hr hlk X165 ⟨q168, F172, q170, q171⟩ (nr_bool (R_of (lo := 0) (hi := 1) q171 rfl)) dX6_readOne_132
        ·
          refine r_aload_n S dX6_readOne_101 rfl (lv_at hl 1 rfl) ?_
          refine r_iload_n S dX6_readOne_102 rfl (lv_at hl 2 rfl) ?_
          refine r_iconst S dX6_readOne_103 (by decide) (fun v173 z174 => ?_)
          have r175 := R_eq z174
          refine r_iadd S dX6_readOne_104 (fun v176 z177 => ?_)
          obtain ⟨e178, r179⟩ := i_add (lo := 5) (hi := 5) z177 h_a0 r175 rfl
          refine r_ki (q_V (As := [.int v176]) (rest := []) (K := 16) (ci := 6) S X158 (c_X6_readOne_5 l G t159 q160 v176 r179 (by rw [((q161 16 5 (by decide)).trans ((M153.2 16 5 (Or.inr (by decide))).trans z2))]; exact R_of hf_0 rfl) (YT_eq hYT (fun j => ((q161 18 j (by simp [fz])).trans ((M153.2 18 j (Or.inl (by decide))).trans rfl))) (fun j => ((q161 19 j (by simp [fz])).trans ((M153.2 19 j (Or.inl (by decide))).trans rfl))))) ck6_71 (Nat.le_of_ble_eq_true rfl) rfl (fun _ => ⟨_, rfl⟩) ⟨_, _, rfl⟩ ⟨Nat.le_of_ble_eq_true rfl, Nat.le_of_ble_eq_true rfl⟩ rfl hl.1 rfl (Nat.le_of_ble_eq_true rfl) dX6_readOne_105 ⟨Nat.le_refl 0, Nat.le_refl 0⟩) X158 (fun v183 t182 H lc q180 X181 => ?_)
          unfold po_X6_readOne_5 at q180
          obtain ⟨q184, q185, q186, q187⟩ := q180
          have F188 : Fr [(16, 1), (16, 2), (17, 4), (1, 3), (1, 4), (1, 5), (1, 7), (1, 8), (16, 4)] [18, 19, 20, 201] τ t182 := Fr_call F162 q185 (by decide)
          refine r_if_ne (tgt := 113) S dX6_readOne_108 (by decide) (fun c189 => ?_) (fun c189 => ?_)
          ·
            have r190 : R (1) (1) v183 := ⟨by omega, by omega⟩
            refine r_aload_n S dX6_readOne_113 rfl (lv_at hl 1 rfl) ?_
            refine r_get (K := 16) (v := .ref (G.2.2.2.1 17)) S X181 (Nat.le_of_ble_eq_true rfl) rfl lk6_14_6 (fun _ => ⟨_, rfl, rfl⟩) dX6_readOne_114 ?_
            refine r_wst (i := 15) S X181 (by decide) kw74 dX6_readOne_117 ?_
            refine r_iconst S dX6_readOne_120 (by decide) (fun v191 z192 => ?_)
            have r193 := R_eq z192
            refine r_iconst S dX6_readOne_121 (by decide) (fun v194 z195 => ?_)
            have r196 := R_eq z195
            refine r_kv (q_V (As := [.ref (G.2.2.1 15), .int v191, .int v194]) (rest := []) (K := 17) (ci := 5) S X181 (c_X5_add l G t182 q184 15 (by decide) v191 v194 (R_of (lo := -2147483648) (hi := 2147483647) r193 rfl) (R_of (lo := 0) (hi := 99) r196 rfl) q186 (by omega)) ck6_67 (Nat.le_of_ble_eq_true rfl) rfl (fun _ => ⟨_, rfl⟩) ⟨_, _, rfl⟩ ⟨Nat.le_of_ble_eq_true rfl, Nat.le_of_ble_eq_true rfl⟩ rfl hl.1 rfl (Nat.le_of_ble_eq_true rfl) dX6_readOne_122 ⟨Nat.le_refl 0, Nat.le_refl 0⟩) X181 (fun t199 H lc q197 X198 => ?_)
            unfold po_X5_add at q197
            obtain ⟨q200, q201, q202⟩ := q197
            have F203 : Fr [(16, 1), (16, 2), (17, 4), (1, 3), (1, 4), (1, 5), (1, 7), (1, 8), (16, 4)] [18, 19, 20, 201] τ t199 := Fr_call F188 q201 (by decide)
            refine r_iconst S dX6_readOne_125 (by decide) (fun v204 z205 => ?_)
            have r206 := R_eq z205
            exact r_ret S hr hlk X198 ⟨q200, F203, q202, (R_of r206 rfl)⟩ (nr_bool (R_of (lo := 0) (hi := 1) r206 rfl)) dX6_readOne_126
          ·
            have r207 : R (0) (0) v183 := ⟨by omega, by omega⟩
            refine r_iconst S dX6_readOne_111 (by decide) (fun v208 z209 => ?_)
            have r210 := R_eq z209
            exact r_ret S hr hlk X181 ⟨q184, F188, q186, (R_of r210 rfl)⟩ (nr_bool (R_of (lo := 0) (hi := 1) r210 rfl)) dX6_readOne_112
      ·
        exfalso; omega
def po_X6_readAll_4 (τ : Tau)  (a0 : Int32)   (r : Int32) (u : Tau) : Prop := Inv u ∧ Fr [(16, 1), (16, 2), (17, 4), (1, 3), (1, 4), (1, 5), (1, 7), (1, 8), (16, 4)] [18, 19, 20, 201] τ u ∧ YT u ∧ R (0) (1) r
set_option maxHeartbeats 4000000 in
set_option maxRecDepth 100000 in
theorem c_X6_readAll_4 (l : Launch) (G : Gx) (τ : Tau) (hI : Inv τ) (a0 : Int32) (h_a0 : R (4) (4) a0) (hf_0 : R (1) (1) (τ 16 5)) (hYT : YT τ) : Ci l G yX6_readAll cX6_readAll 3 (some .boolean) 19 413 [.ref (G.2.2.2.1 16), .int a0] τ (po_X6_readAll_4 τ  a0  ) := by
  unfold Ci
  refine C_of (own := RX6) (by decide) rfl (Nat.le_of_ble_eq_true rfl) ?_
  intro p e s m below meth c ls S hr hlk X hl
  have hl : lv_has ls 3 [(0, .ref (G.2.2.2.1 16)), (1, .int a0)] := hl
  obtain ⟨v1, z2⟩ : ∃ x, τ 16 5 = x := ⟨_, rfl⟩
  rw [z2] at hf_0
  refine r_aload_n S dX6_readAll_0 rfl (lv_at hl 0 rfl) ?_
  refine r_iload_n S dX6_readAll_1 rfl (lv_at hl 1 rfl) ?_
  refine r_ki (q_V (As := [.int a0]) (rest := []) (K := 16) (ci := 6) S X (c_X6_readOne_4 l G τ hI a0 h_a0 (by rw [z2]; exact R_of hf_0 rfl) hYT) ck6_71 (Nat.le_of_ble_eq_true rfl) rfl (fun _ => ⟨_, rfl⟩) ⟨_, _, rfl⟩ ⟨Nat.le_of_ble_eq_true rfl, Nat.le_of_ble_eq_true rfl⟩ rfl hl.1 rfl (Nat.le_of_ble_eq_true rfl) dX6_readAll_2 ⟨Nat.le_refl 0, Nat.le_refl 0⟩) X (fun v6 t5 H lc q3 X4 => ?_)
  unfold po_X6_readOne_4 at q3
  obtain ⟨q7, q8, q9, q10⟩ := q3
  have F11 : Fr [(16, 1), (16, 2), (17, 4), (1, 3), (1, 4), (1, 5), (1, 7), (1, 8), (16, 4)] [18, 19, 20, 201] τ t5 := Fr_call Fr_rfl q8 (by decide)
  refine r_if_ne (tgt := 10) S dX6_readAll_5 (by decide) (fun c12 => ?_) (fun c12 => ?_)
  ·
    have r13 : R (1) (1) v6 := ⟨by omega, by omega⟩
    refine r_iconst S dX6_readAll_10 (by decide) (fun v14 z15 => ?_)
    have r16 := R_eq z15
    refine r_istore_n (lv' := [(2, .int v14), (0, .ref (G.2.2.2.1 16)), (1, .int a0)]) S dX6_readAll_11 rfl hl (by decide) rfl (fun ls hl => ?_)
    have L660 : ∀ (n : Nat) (t654 : Tau) (H : Heap) (lc : List Loc) (ls : Array Slot) (i652 : Int32), Xd G s H lc t654 → Inv t654 → Fr [(16, 1), (16, 2), (17, 4), (1, 3), (1, 4), (1, 5), (1, 7), (1, 8), (16, 4)] [18, 19, 20, 201] τ t654 → YT t654 → R (0) (24) i652 → t654 16 5 = v1 → lv_has ls 3 [(0, .ref (G.2.2.2.1 16)), (1, .int a0), (2, .int i652)] → (24 - i652.toInt).toNat < n → W p l e (Rm 19 413) s m ([.ref (G.2.2.2.1 16), .int a0] : List Value).toArray below meth c H lc 0 0 (MQ below (va_Qi (po_X6_readAll_4 τ  a0  ) (Bs G) G.2.2.2.2) ([.ref (G.2.2.2.1 16), .int a0] : List Value).toArray s 0 0 G.2.2.2.2) (F0 m 12 ls []) := by
      intro n
      induction n with
      | zero => intros; omega
      | succ n ih661 =>
        intro t654 H lc ls i652 X658 I655 F656 hYT657 r653 z659 hl hm
        refine r_iload_n S dX6_readAll_12 rfl (lv_at hl 2 rfl) ?_
        refine r_bipush S dX6_readAll_13 (by decide) (fun v662 z663 => ?_)
        have r664 := R_eq z663
        refine r_icmp_gt (tgt := 66) S dX6_readAll_15 (by decide) (fun c665 => ?_) (fun c665 => ?_)
        ·
          have r666 : R (21) (24) i652 := ⟨by omega, by omega⟩
          refine r_iconst S dX6_readAll_66 (by decide) (fun v667 z668 => ?_)
          have r669 := R_eq z668
          exact r_ret S hr hlk X658 ⟨I655, F656, hYT657, (R_of r669 rfl)⟩ (nr_bool (R_of (lo := 0) (hi := 1) r669 rfl)) dX6_readAll_67
        ·
          have r670 : R (0) (20) i652 := ⟨by omega, by omega⟩
          refine r_aload_n S dX6_readAll_18 rfl (lv_at hl 0 rfl) ?_
          refine r_get (K := 16) (v := .ref (G.2.2.2.1 1)) S X658 (Nat.le_of_ble_eq_true rfl) rfl lk6_39_6 (fun _ => ⟨_, rfl, rfl⟩) dX6_readAll_19 ?_
          refine r_wst (i := 14) S X658 (by decide) kw81 dX6_readAll_22 ?_
          refine r_ki (q_V (As := [.ref (G.2.2.1 14)]) (rest := []) (K := 1) (ci := 7) S X658 (c_X7_is l G t654 I655 14 (by decide)) ck6_60 (Nat.le_of_ble_eq_true rfl) rfl (fun _ => ⟨_, rfl⟩) ⟨_, _, rfl⟩ ⟨Nat.le_of_ble_eq_true rfl, Nat.le_of_ble_eq_true rfl⟩ rfl hl.1 rfl (Nat.le_of_ble_eq_true rfl) dX6_readAll_25 ⟨Nat.le_refl 0, Nat.le_refl 0⟩) X658 (fun v674 t673 H lc q671 X672 => ?_)
          unfold po_X7_is at q671
          obtain ⟨q675, q676⟩ := q671
          rw [q675] at X672
          refine r_if_eq (tgt := 66) S dX6_readAll_28 (by decide) (fun c677 => ?_) (fun c677 => ?_)
          ·
            have r678 : R (0) (0) v674 := ⟨by omega, by omega⟩
            refine r_iconst S dX6_readAll_66 (by decide) (fun v679 z680 => ?_)
            have r681 := R_eq z680
            exact r_ret S hr hlk X672 ⟨I655, F656, hYT657, (R_of r681 rfl)⟩ (nr_bool (R_of (lo := 0) (hi := 1) r681 rfl)) dX6_readAll_67
          ·
            have r682 : R (1) (1) v674 := ⟨by omega, by omega⟩
            refine r_aload_n S dX6_readAll_31 rfl (lv_at hl 0 rfl) ?_
            refine r_get (K := 16) (v := .ref (G.2.2.2.1 1)) S X672 (Nat.le_of_ble_eq_true rfl) rfl lk6_39_6 (fun _ => ⟨_, rfl, rfl⟩) dX6_readAll_32 ?_
            refine r_kv (q_V (As := []) (rest := []) (K := 1) (ci := 7) S X672 (c_X7_step l G t654 I655 ) ck6_64 (Nat.le_of_ble_eq_true rfl) rfl (fun _ => ⟨_, rfl⟩) ⟨_, _, rfl⟩ ⟨Nat.le_of_ble_eq_true rfl, Nat.le_of_ble_eq_true rfl⟩ rfl hl.1 rfl (Nat.le_of_ble_eq_true rfl) dX6_readAll_35 ⟨Nat.le_refl 0, Nat.le_refl 0⟩) X672 (fun t685 H lc q683 X684 => ?_)
            unfold po_X7_step at q683
            obtain ⟨q686, q687⟩ := q683
            have F688 : Fr [(16, 1), (16, 2), (17, 4), (1, 3), (1, 4), (1, 5), (1, 7), (1, 8), (16, 4)] [18, 19, 20, 201] τ t685 := Fr_call F656 q687 (by decide)
            refine r_aload_n S dX6_readAll_38 rfl (lv_at hl 0 rfl) ?_
            refine r_iload_n S dX6_readAll_39 rfl (lv_at hl 1 rfl) ?_
            refine r_ki (q_V (As := [.int a0]) (rest := []) (K := 16) (ci := 6) S X684 (c_X6_readOne_4 l G t685 q686 a0 h_a0 (by rw [((q687 16 5 (by decide)).trans z659)]; exact R_of hf_0 rfl) (YT_eq hYT657 (fun j => ((q687 18 j (by simp [fz])).trans rfl)) (fun j => ((q687 19 j (by simp [fz])).trans rfl)))) ck6_71 (Nat.le_of_ble_eq_true rfl) rfl (fun _ => ⟨_, rfl⟩) ⟨_, _, rfl⟩ ⟨Nat.le_of_ble_eq_true rfl, Nat.le_of_ble_eq_true rfl⟩ rfl hl.1 rfl (Nat.le_of_ble_eq_true rfl) dX6_readAll_40 ⟨Nat.le_refl 0, Nat.le_refl 0⟩) X684 (fun v692 t691 H lc q689 X690 => ?_)
            unfold po_X6_readOne_4 at q689
            obtain ⟨q693, q694, q695, q696⟩ := q689
            have F697 : Fr [(16, 1), (16, 2), (17, 4), (1, 3), (1, 4), (1, 5), (1, 7), (1, 8), (16, 4)] [18, 19, 20, 201] τ t691 := Fr_call F688 q694 (by decide)
            refine r_if_ne (tgt := 48) S dX6_readAll_43 (by decide) (fun c698 => ?_) (fun c698 => ?_)
            ·
              have r699 : R (1) (1) v692 := ⟨by omega, by omega⟩
              refine r_aload_n S dX6_readAll_48 rfl (lv_at hl 0 rfl) ?_
              refine r_get (K := 16) (v := .ref (G.2.2.2.1 17)) S X690 (Nat.le_of_ble_eq_true rfl) rfl lk6_14_6 (fun _ => ⟨_, rfl, rfl⟩) dX6_readAll_49 ?_
              refine r_wst (i := 14) S X690 (by decide) kw81 dX6_readAll_52 ?_
              refine r_iconst S dX6_readAll_55 (by decide) (fun v700 z701 => ?_)
              have r702 := R_eq z701
              refine r_iconst S dX6_readAll_56 (by decide) (fun v703 z704 => ?_)
              have r705 := R_eq z704
              refine r_kv (q_V (As := [.ref (G.2.2.1 14), .int v700, .int v703]) (rest := []) (K := 17) (ci := 5) S X690 (c_X5_add l G t691 q693 14 (by decide) v700 v703 (R_of (lo := -2147483648) (hi := 2147483647) r702 rfl) (R_of (lo := 0) (hi := 99) r705 rfl) q695 (by omega)) ck6_67 (Nat.le_of_ble_eq_true rfl) rfl (fun _ => ⟨_, rfl⟩) ⟨_, _, rfl⟩ ⟨Nat.le_of_ble_eq_true rfl, Nat.le_of_ble_eq_true rfl⟩ rfl hl.1 rfl (Nat.le_of_ble_eq_true rfl) dX6_readAll_57 ⟨Nat.le_refl 0, Nat.le_refl 0⟩) X690 (fun t708 H lc q706 X707 => ?_)
              unfold po_X5_add at q706
              obtain ⟨q709, q710, q711⟩ := q706
              have F712 : Fr [(16, 1), (16, 2), (17, 4), (1, 3), (1, 4), (1, 5), (1, 7), (1, 8), (16, 4)] [18, 19, 20, 201] τ t708 := Fr_call F697 q710 (by decide)
              refine r_iinc (k := 2) S dX6_readAll_60 hl rfl (by decide) (by decide) (fun v713 d714 ls z715 z716 hl => ?_)
              obtain ⟨e717, r718⟩ := i_add (lo := 1) (hi := 21) z715 r670 (R_eq z716) rfl
              have hl : lv_has ls 3 [(2, .int v713), (0, .ref (G.2.2.2.1 16)), (1, .int a0)] := hl
              refine r_goto (tgt := 12) S dX6_readAll_63 (by decide) ?_
              exact ih661 t708 _ _ _ v713 X707 q709 F712 q711 (R_of r718 rfl) ((q710 16 5 (by decide)).trans ((q694 16 5 (by decide)).trans ((q687 16 5 (by decide)).trans z659))) (lv_sub hl [1, 2, 0] rfl) (by omega)
            ·
              have r719 : R (0) (0) v692 := ⟨by omega, by omega⟩
              refine r_iconst S dX6_readAll_46 (by decide) (fun v720 z721 => ?_)
              have r722 := R_eq z721
              exact r_ret S hr hlk X690 ⟨q693, F697, q695, (R_of r722 rfl)⟩ (nr_bool (R_of (lo := 0) (hi := 1) r722 rfl)) dX6_readAll_47
    exact L660 _ t5 _ _ _ v14 X4 q7 F11 q9 (R_of r16 rfl) ((q8 16 5 (by decide)).trans z2) (lv_sub hl [1, 2, 0] rfl) (Nat.lt_succ_self _)
  ·
    have r723 : R (0) (0) v6 := ⟨by omega, by omega⟩
    refine r_iconst S dX6_readAll_8 (by decide) (fun v724 z725 => ?_)
    have r726 := R_eq z725
    exact r_ret S hr hlk X4 ⟨q7, F11, q9, (R_of r726 rfl)⟩ (nr_bool (R_of (lo := 0) (hi := 1) r726 rfl)) dX6_readAll_9
def po_X6_readCond_4 (τ : Tau)  (a0 : Int32)   (r : Int32) (u : Tau) : Prop := Inv u ∧ Fr [(16, 1), (16, 2), (17, 4), (1, 3), (1, 4), (1, 5), (1, 7), (1, 8), (16, 4)] [18, 19, 20, 201] τ u ∧ YT u ∧ R (0) (1) r
set_option maxHeartbeats 4000000 in
set_option maxRecDepth 100000 in
theorem c_X6_readCond_4 (l : Launch) (G : Gx) (τ : Tau) (hI : Inv τ) (a0 : Int32) (h_a0 : R (4) (4) a0) (hf_0 : R (1) (1) (τ 16 5)) (hYT : YT τ) : Ci l G yX6_readCond cX6_readCond 3 (some .boolean) 20 435 [.ref (G.2.2.2.1 16), .int a0] τ (po_X6_readCond_4 τ  a0  ) := by
  unfold Ci
  refine C_of (own := RX6) (by decide) rfl (Nat.le_of_ble_eq_true rfl) ?_
  intro p e s m below meth c ls S hr hlk X hl
  have hl : lv_has ls 3 [(0, .ref (G.2.2.2.1 16)), (1, .int a0)] := hl
  obtain ⟨v1, z2⟩ : ∃ x, τ 16 5 = x := ⟨_, rfl⟩
  rw [z2] at hf_0
  refine r_aload_n S dX6_readCond_0 rfl (lv_at hl 0 rfl) ?_
  refine r_iload_n S dX6_readCond_1 rfl (lv_at hl 1 rfl) ?_
  refine r_ki (q_V (As := [.int a0]) (rest := []) (K := 16) (ci := 6) S X (c_X6_readAll_4 l G τ hI a0 h_a0 (by rw [z2]; exact R_of hf_0 rfl) hYT) ck6_51 (Nat.le_of_ble_eq_true rfl) rfl (fun _ => ⟨_, rfl⟩) ⟨_, _, rfl⟩ ⟨Nat.le_of_ble_eq_true rfl, Nat.le_of_ble_eq_true rfl⟩ rfl hl.1 rfl (Nat.le_of_ble_eq_true rfl) dX6_readCond_2 ⟨Nat.le_refl 0, Nat.le_refl 0⟩) X (fun v6 t5 H lc q3 X4 => ?_)
  unfold po_X6_readAll_4 at q3
  obtain ⟨q7, q8, q9, q10⟩ := q3
  have F11 : Fr [(16, 1), (16, 2), (17, 4), (1, 3), (1, 4), (1, 5), (1, 7), (1, 8), (16, 4)] [18, 19, 20, 201] τ t5 := Fr_call Fr_rfl q8 (by decide)
  refine r_if_ne (tgt := 10) S dX6_readCond_5 (by decide) (fun c12 => ?_) (fun c12 => ?_)
  ·
    have r13 : R (1) (1) v6 := ⟨by omega, by omega⟩
    refine r_iconst S dX6_readCond_10 (by decide) (fun v14 z15 => ?_)
    have r16 := R_eq z15
    refine r_istore_n (lv' := [(2, .int v14), (0, .ref (G.2.2.2.1 16)), (1, .int a0)]) S dX6_readCond_11 rfl hl (by decide) rfl (fun ls hl => ?_)
    have L660 : ∀ (n : Nat) (t654 : Tau) (H : Heap) (lc : List Loc) (ls : Array Slot) (i652 : Int32), Xd G s H lc t654 → Inv t654 → Fr [(16, 1), (16, 2), (17, 4), (1, 3), (1, 4), (1, 5), (1, 7), (1, 8), (16, 4)] [18, 19, 20, 201] τ t654 → YT t654 → R (0) (24) i652 → t654 16 5 = v1 → lv_has ls 3 [(0, .ref (G.2.2.2.1 16)), (1, .int a0), (2, .int i652)] → (24 - i652.toInt).toNat < n → W p l e (Rm 20 435) s m ([.ref (G.2.2.2.1 16), .int a0] : List Value).toArray below meth c H lc 0 0 (MQ below (va_Qi (po_X6_readCond_4 τ  a0  ) (Bs G) G.2.2.2.2) ([.ref (G.2.2.2.1 16), .int a0] : List Value).toArray s 0 0 G.2.2.2.2) (F0 m 12 ls []) := by
      intro n
      induction n with
      | zero => intros; omega
      | succ n ih661 =>
        intro t654 H lc ls i652 X658 I655 F656 hYT657 r653 z659 hl hm
        refine r_iload_n S dX6_readCond_12 rfl (lv_at hl 2 rfl) ?_
        refine r_bipush S dX6_readCond_13 (by decide) (fun v662 z663 => ?_)
        have r664 := R_eq z663
        refine r_icmp_gt (tgt := 66) S dX6_readCond_15 (by decide) (fun c665 => ?_) (fun c665 => ?_)
        ·
          have r666 : R (21) (24) i652 := ⟨by omega, by omega⟩
          refine r_iconst S dX6_readCond_66 (by decide) (fun v667 z668 => ?_)
          have r669 := R_eq z668
          exact r_ret S hr hlk X658 ⟨I655, F656, hYT657, (R_of r669 rfl)⟩ (nr_bool (R_of (lo := 0) (hi := 1) r669 rfl)) dX6_readCond_67
        ·
          have r670 : R (0) (20) i652 := ⟨by omega, by omega⟩
          refine r_aload_n S dX6_readCond_18 rfl (lv_at hl 0 rfl) ?_
          refine r_get (K := 16) (v := .ref (G.2.2.2.1 1)) S X658 (Nat.le_of_ble_eq_true rfl) rfl lk6_39_6 (fun _ => ⟨_, rfl, rfl⟩) dX6_readCond_19 ?_
          refine r_wst (i := 13) S X658 (by decide) kw82 dX6_readCond_22 ?_
          refine r_ki (q_V (As := [.ref (G.2.2.1 13)]) (rest := []) (K := 1) (ci := 7) S X658 (c_X7_is l G t654 I655 13 (by decide)) ck6_60 (Nat.le_of_ble_eq_true rfl) rfl (fun _ => ⟨_, rfl⟩) ⟨_, _, rfl⟩ ⟨Nat.le_of_ble_eq_true rfl, Nat.le_of_ble_eq_true rfl⟩ rfl hl.1 rfl (Nat.le_of_ble_eq_true rfl) dX6_readCond_25 ⟨Nat.le_refl 0, Nat.le_refl 0⟩) X658 (fun v674 t673 H lc q671 X672 => ?_)
          unfold po_X7_is at q671
          obtain ⟨q675, q676⟩ := q671
          rw [q675] at X672
          refine r_if_eq (tgt := 66) S dX6_readCond_28 (by decide) (fun c677 => ?_) (fun c677 => ?_)
          ·
            have r678 : R (0) (0) v674 := ⟨by omega, by omega⟩
            refine r_iconst S dX6_readCond_66 (by decide) (fun v679 z680 => ?_)
            have r681 := R_eq z680
            exact r_ret S hr hlk X672 ⟨I655, F656, hYT657, (R_of r681 rfl)⟩ (nr_bool (R_of (lo := 0) (hi := 1) r681 rfl)) dX6_readCond_67
          ·
            have r682 : R (1) (1) v674 := ⟨by omega, by omega⟩
            refine r_aload_n S dX6_readCond_31 rfl (lv_at hl 0 rfl) ?_
            refine r_get (K := 16) (v := .ref (G.2.2.2.1 1)) S X672 (Nat.le_of_ble_eq_true rfl) rfl lk6_39_6 (fun _ => ⟨_, rfl, rfl⟩) dX6_readCond_32 ?_
            refine r_kv (q_V (As := []) (rest := []) (K := 1) (ci := 7) S X672 (c_X7_step l G t654 I655 ) ck6_64 (Nat.le_of_ble_eq_true rfl) rfl (fun _ => ⟨_, rfl⟩) ⟨_, _, rfl⟩ ⟨Nat.le_of_ble_eq_true rfl, Nat.le_of_ble_eq_true rfl⟩ rfl hl.1 rfl (Nat.le_of_ble_eq_true rfl) dX6_readCond_35 ⟨Nat.le_refl 0, Nat.le_refl 0⟩) X672 (fun t685 H lc q683 X684 => ?_)
            unfold po_X7_step at q683
            obtain ⟨q686, q687⟩ := q683
            have F688 : Fr [(16, 1), (16, 2), (17, 4), (1, 3), (1, 4), (1, 5), (1, 7), (1, 8), (16, 4)] [18, 19, 20, 201] τ t685 := Fr_call F656 q687 (by decide)
            refine r_aload_n S dX6_readCond_38 rfl (lv_at hl 0 rfl) ?_
            refine r_iload_n S dX6_readCond_39 rfl (lv_at hl 1 rfl) ?_
            refine r_ki (q_V (As := [.int a0]) (rest := []) (K := 16) (ci := 6) S X684 (c_X6_readAll_4 l G t685 q686 a0 h_a0 (by rw [((q687 16 5 (by decide)).trans z659)]; exact R_of hf_0 rfl) (YT_eq hYT657 (fun j => ((q687 18 j (by simp [fz])).trans rfl)) (fun j => ((q687 19 j (by simp [fz])).trans rfl)))) ck6_51 (Nat.le_of_ble_eq_true rfl) rfl (fun _ => ⟨_, rfl⟩) ⟨_, _, rfl⟩ ⟨Nat.le_of_ble_eq_true rfl, Nat.le_of_ble_eq_true rfl⟩ rfl hl.1 rfl (Nat.le_of_ble_eq_true rfl) dX6_readCond_40 ⟨Nat.le_refl 0, Nat.le_refl 0⟩) X684 (fun v692 t691 H lc q689 X690 => ?_)
            unfold po_X6_readAll_4 at q689
            obtain ⟨q693, q694, q695, q696⟩ := q689
            have F697 : Fr [(16, 1), (16, 2), (17, 4), (1, 3), (1, 4), (1, 5), (1, 7), (1, 8), (16, 4)] [18, 19, 20, 201] τ t691 := Fr_call F688 q694 (by decide)
            refine r_if_ne (tgt := 48) S dX6_readCond_43 (by decide) (fun c698 => ?_) (fun c698 => ?_)
            ·
              have r699 : R (1) (1) v692 := ⟨by omega, by omega⟩
              refine r_aload_n S dX6_readCond_48 rfl (lv_at hl 0 rfl) ?_
              refine r_get (K := 16) (v := .ref (G.2.2.2.1 17)) S X690 (Nat.le_of_ble_eq_true rfl) rfl lk6_14_6 (fun _ => ⟨_, rfl, rfl⟩) dX6_readCond_49 ?_
              refine r_wst (i := 13) S X690 (by decide) kw82 dX6_readCond_52 ?_
              refine r_iconst S dX6_readCond_55 (by decide) (fun v700 z701 => ?_)
              have r702 := R_eq z701
              refine r_iconst S dX6_readCond_56 (by decide) (fun v703 z704 => ?_)
              have r705 := R_eq z704
              refine r_kv (q_V (As := [.ref (G.2.2.1 13), .int v700, .int v703]) (rest := []) (K := 17) (ci := 5) S X690 (c_X5_add l G t691 q693 13 (by decide) v700 v703 (R_of (lo := -2147483648) (hi := 2147483647) r702 rfl) (R_of (lo := 0) (hi := 99) r705 rfl) q695 (by omega)) ck6_67 (Nat.le_of_ble_eq_true rfl) rfl (fun _ => ⟨_, rfl⟩) ⟨_, _, rfl⟩ ⟨Nat.le_of_ble_eq_true rfl, Nat.le_of_ble_eq_true rfl⟩ rfl hl.1 rfl (Nat.le_of_ble_eq_true rfl) dX6_readCond_57 ⟨Nat.le_refl 0, Nat.le_refl 0⟩) X690 (fun t708 H lc q706 X707 => ?_)
              unfold po_X5_add at q706
              obtain ⟨q709, q710, q711⟩ := q706
              have F712 : Fr [(16, 1), (16, 2), (17, 4), (1, 3), (1, 4), (1, 5), (1, 7), (1, 8), (16, 4)] [18, 19, 20, 201] τ t708 := Fr_call F697 q710 (by decide)
              refine r_iinc (k := 2) S dX6_readCond_60 hl rfl (by decide) (by decide) (fun v713 d714 ls z715 z716 hl => ?_)
              obtain ⟨e717, r718⟩ := i_add (lo := 1) (hi := 21) z715 r670 (R_eq z716) rfl
              have hl : lv_has ls 3 [(2, .int v713), (0, .ref (G.2.2.2.1 16)), (1, .int a0)] := hl
              refine r_goto (tgt := 12) S dX6_readCond_63 (by decide) ?_
              exact ih661 t708 _ _ _ v713 X707 q709 F712 q711 (R_of r718 rfl) ((q710 16 5 (by decide)).trans ((q694 16 5 (by decide)).trans ((q687 16 5 (by decide)).trans z659))) (lv_sub hl [1, 2, 0] rfl) (by omega)
            ·
              have r719 : R (0) (0) v692 := ⟨by omega, by omega⟩
              refine r_iconst S dX6_readCond_46 (by decide) (fun v720 z721 => ?_)
              have r722 := R_eq z721
              exact r_ret S hr hlk X690 ⟨q693, F697, q695, (R_of r722 rfl)⟩ (nr_bool (R_of (lo := 0) (hi := 1) r722 rfl)) dX6_readCond_47
    exact L660 _ t5 _ _ _ v14 X4 q7 F11 q9 (R_of r16 rfl) ((q8 16 5 (by decide)).trans z2) (lv_sub hl [1, 2, 0] rfl) (Nat.lt_succ_self _)
  ·
    have r723 : R (0) (0) v6 := ⟨by omega, by omega⟩
    refine r_iconst S dX6_readCond_8 (by decide) (fun v724 z725 => ?_)
    have r726 := R_eq z725
    exact r_ret S hr hlk X4 ⟨q7, F11, q9, (R_of r726 rfl)⟩ (nr_bool (R_of (lo := 0) (hi := 1) r726 rfl)) dX6_readCond_9
def po_X6_readOne_3 (τ : Tau)  (a0 : Int32)   (r : Int32) (u : Tau) : Prop := Inv u ∧ Fr [(16, 1), (16, 2), (17, 4), (1, 3), (1, 4), (1, 5), (1, 7), (1, 8), (16, 4)] [18, 19, 20, 201] τ u ∧ YT u ∧ R (0) (1) r
set_option maxHeartbeats 4000000 in
set_option maxRecDepth 100000 in
theorem c_X6_readOne_3 (l : Launch) (G : Gx) (τ : Tau) (hI : Inv τ) (a0 : Int32) (h_a0 : R (3) (3) a0) (hf_0 : R (1) (1) (τ 16 5)) (hYT : YT τ) : Ci l G yX6_readOne cX6_readOne 3 (some .boolean) 21 457 [.ref (G.2.2.2.1 16), .int a0] τ (po_X6_readOne_3 τ  a0  ) := by
  unfold Ci
  refine C_of (own := RX6) (by decide) rfl (Nat.le_of_ble_eq_true rfl) ?_
  intro p e s m below meth c ls S hr hlk X hl
  have hl : lv_has ls 3 [(0, .ref (G.2.2.2.1 16)), (1, .int a0)] := hl
  obtain ⟨v1, z2⟩ : ∃ x, τ 16 5 = x := ⟨_, rfl⟩
  rw [z2] at hf_0
  refine r_aload_n S dX6_readOne_0 rfl (lv_at hl 0 rfl) ?_
  refine r_kw2 (q_V (As := []) (rest := []) (K := 16) (ci := 6) S X (c_X6_firstWord l G τ hI ) ck6_77 (Nat.le_of_ble_eq_true rfl) rfl (fun _ => ⟨_, rfl⟩) ⟨_, _, rfl⟩ ⟨Nat.le_of_ble_eq_true rfl, Nat.le_of_ble_eq_true rfl⟩ rfl hl.1 rfl (Nat.le_of_ble_eq_true rfl) dX6_readOne_1 ⟨Nat.le_refl 0, Nat.le_refl 0⟩) X (fun _ _ h => h.2) (fun y6 t5 H lc q3 X4 h7 => ?_) (fun y6 t5 H lc w8 q3 X4 h_w8 e9 => ?_)
  ·
    unfold po_X6_firstWord at q3
    obtain ⟨q10, q11⟩ := q3
    rw [q10] at X4
    refine lv_astore_nN (lv' := [(2, .null), (0, .ref (G.2.2.2.1 16)), (1, .int a0)]) S.1.1 S.1.2.1 dX6_readOne_4 rfl hl (by decide) rfl (fun ls hl => ?_)
    refine lv_aload_nN S.1.1 S.1.2.1 dX6_readOne_5 rfl (lv_at hl 0 rfl) ?_
    refine lv_ifnonnullN S.1.1 S.1.2.1 dX6_readOne_6 ?_
    refine r_aload_n S dX6_readOne_9 rfl (lv_at hl 1 rfl) ?_
    refine r_get (K := 16) (v := .ref (G.2.2.2.1 1)) S X4 (Nat.le_of_ble_eq_true rfl) rfl lk6_39_6 (fun _ => ⟨_, rfl, rfl⟩) dX6_readOne_10 ?_
    refine r_bipush S dX6_readOne_13 (by decide) (fun v12 z13 => ?_)
    have r14 := R_eq z13
    refine r_ki (q_V (As := [.int v12]) (rest := []) (K := 1) (ci := 7) S X4 (c_X7_isSigned l G τ hI v12 (R_of (lo := 0) (hi := 65535) r14 rfl)) ck6_81 (Nat.le_of_ble_eq_true rfl) rfl (fun _ => ⟨_, rfl⟩) ⟨_, _, rfl⟩ ⟨Nat.le_of_ble_eq_true rfl, Nat.le_of_ble_eq_true rfl⟩ rfl hl.1 rfl (Nat.le_of_ble_eq_true rfl) dX6_readOne_15 ⟨Nat.le_refl 0, Nat.le_refl 0⟩) X4 (fun v18 t17 H lc q15 X16 => ?_)
    unfold po_X7_isSigned at q15
    obtain ⟨q19, q20⟩ := q15
    rw [q19] at X16
    refine r_if_ne (tgt := 27) S dX6_readOne_18 (by decide) (fun c21 => ?_) (fun c21 => ?_)
    ·
      have r22 : R (1) (1) v18 := ⟨by omega, by omega⟩
      refine r_aload_n S dX6_readOne_27 rfl (lv_at hl 1 rfl) ?_
      refine r_getn (K := 16) S X16 (Nat.le_of_ble_eq_true rfl) rfl lk6_28_6 (fun _ => ⟨_, rfl, rfl⟩) dX6_readOne_28 (fun v23 z24 => ?_)
      have r25 : R (0) (20) v23 := rd hI rfl z24
      refine r_bipush S dX6_readOne_31 (by decide) (fun v26 z27 => ?_)
      have r28 := R_eq z27
      refine r_icmp_ge (tgt := 42) S dX6_readOne_33 (by decide) (fun c29 => ?_) (fun c29 => ?_)
      ·
        have r30 : R (20) (20) v23 := ⟨by omega, by omega⟩
        refine r_aload_n S dX6_readOne_42 rfl (lv_at hl 1 rfl) ?_
        refine r_iconst S dX6_readOne_43 (by decide) (fun v31 z32 => ?_)
        have r33 := R_eq z32
        refine r_ki (q_U (As := [.int v31]) (rest := []) (K := 16) (ci := 6) S X16 (c_X8_fail_16 l G τ hI v31 (R_of (lo := -2147483648) (hi := 2147483647) r33 rfl)) ck6_48_6 (Nat.le_of_ble_eq_true rfl) rfl (fun _ => ⟨_, rfl⟩) ⟨_, _, rfl⟩ ⟨Nat.le_of_ble_eq_true rfl, Nat.le_of_ble_eq_true rfl⟩ rfl hl.1 rfl (Nat.le_of_ble_eq_true rfl) dX6_readOne_44 ⟨Nat.le_refl 0, Nat.le_refl 0⟩) X16 (fun v37 t36 H lc q34 X35 => ?_)
        unfold po_X8_fail_16 at q34
        obtain ⟨q38, q39, q40⟩ := q34
        have F41 : Fr [(16, 1), (16, 2), (17, 4), (1, 3), (1, 4), (1, 5), (1, 7), (1, 8), (16, 4)] [18, 19, 20, 201] τ t36 := Fr_call Fr_rfl q39 (by decide)
        exact r_ret S hr hlk X35 ⟨q38, F41, (YT_eq hYT (fun j => ((q39 18 j (by simp [fz])).trans rfl)) (fun j => ((q39 19 j (by simp [fz])).trans rfl))), (R_of q40 rfl)⟩ (nr_bool (R_of (lo := 0) (hi := 1) q40 rfl)) dX6_readOne_47
      ·
        have r42 : R (0) (19) v23 := ⟨by omega, by omega⟩
        refine r_iload_n S dX6_readOne_36 rfl (lv_at hl 2 rfl) ?_
        refine r_bipush S dX6_readOne_37 (by decide) (fun v43 z44 => ?_)
        have r45 := R_eq z44
        refine r_icmp_le (tgt := 48) S dX6_readOne_39 (by decide) (fun c46 => ?_) (fun c46 => ?_)
        ·
          refine r_aload_n S dX6_readOne_48 rfl (lv_at hl 1 rfl) ?_
          refine r_dup S dX6_readOne_49 rfl ?_
          refine r_geti (K := 16) S X16 (Nat.le_of_ble_eq_true rfl) rfl lk6_28_6 (fun _ => ⟨_, rfl, rfl⟩) z24 dX6_readOne_50 ?_
          refine r_iconst S dX6_readOne_53 (by decide) (fun v47 z48 => ?_)
          have r49 := R_eq z48
          refine r_iadd S dX6_readOne_54 (fun v50 z51 => ?_)
          obtain ⟨e52, r53⟩ := i_add (lo := 1) (hi := 20) z51 r42 r49 rfl
          refine r_put (K := 16) (ty := .int) S X16 (Nat.le_of_ble_eq_true rfl) rfl lk6_28_6 (fun _ => ⟨_, rfl, Nat.le_of_ble_eq_true rfl, rfl⟩) (fun _ _ _ h => by cases h; exact ⟨rfl, rfl⟩) rfl rfl dX6_readOne_55 (fun t54 H lc M55 X56 => ?_)
          have I57 := Inv_mu hI M55 (show Rg (kd 16) 4 v50 from (R_of (lo := 0) (hi := 20) r53 rfl))
          have F58 : Fr [(16, 1), (16, 2), (17, 4), (1, 3), (1, 4), (1, 5), (1, 7), (1, 8), (16, 4)] [18, 19, 20, 201] τ t54 := Fr_mu Fr_rfl M55 (by decide)
          refine r_aload_n S dX6_readOne_58 rfl (lv_at hl 1 rfl) ?_
          refine r_get (K := 16) (v := .ref (G.2.2.2.1 1)) S X56 (Nat.le_of_ble_eq_true rfl) rfl lk6_39_6 (fun _ => ⟨_, rfl, rfl⟩) dX6_readOne_59 ?_
          refine r_kv (q_V (As := []) (rest := []) (K := 1) (ci := 7) S X56 (c_X7_step l G t54 I57 ) ck6_64 (Nat.le_of_ble_eq_true rfl) rfl (fun _ => ⟨_, rfl⟩) ⟨_, _, rfl⟩ ⟨Nat.le_of_ble_eq_true rfl, Nat.le_of_ble_eq_true rfl⟩ rfl hl.1 rfl (Nat.le_of_ble_eq_true rfl) dX6_readOne_62 ⟨Nat.le_refl 0, Nat.le_refl 0⟩) X56 (fun t61 H lc q59 X60 => ?_)
          unfold po_X7_step at q59
          obtain ⟨q62, q63⟩ := q59
          have F64 : Fr [(16, 1), (16, 2), (17, 4), (1, 3), (1, 4), (1, 5), (1, 7), (1, 8), (16, 4)] [18, 19, 20, 201] τ t61 := Fr_call F58 q63 (by decide)
          refine lv_aload_nN S.1.1 S.1.2.1 dX6_readOne_65 rfl (lv_at hl 0 rfl) ?_
          refine lv_ifnonnullN S.1.1 S.1.2.1 dX6_readOne_66 ?_
          refine r_aload_n S dX6_readOne_69 rfl (lv_at hl 1 rfl) ?_
          refine r_iload_n S dX6_readOne_70 rfl (lv_at hl 2 rfl) ?_
          refine r_iconst S dX6_readOne_71 (by decide) (fun v65 z66 => ?_)
          have r67 := R_eq z66
          refine r_iadd S dX6_readOne_72 (fun v68 z69 => ?_)
          obtain ⟨e70, r71⟩ := i_add (lo := 4) (hi := 4) z69 h_a0 r67 rfl
          refine r_ki (q_V (As := [.int v68]) (rest := []) (K := 16) (ci := 6) S X60 (c_X6_readCond_4 l G t61 q62 v68 r71 (by rw [((q63 16 5 (by decide)).trans ((M55.2 16 5 (Or.inr (by decide))).trans z2))]; exact R_of hf_0 rfl) (YT_eq hYT (fun j => ((q63 18 j (by simp [fz])).trans ((M55.2 18 j (Or.inl (by decide))).trans rfl))) (fun j => ((q63 19 j (by simp [fz])).trans ((M55.2 19 j (Or.inl (by decide))).trans rfl))))) ck6_35 (Nat.le_of_ble_eq_true rfl) rfl (fun _ => ⟨_, rfl⟩) ⟨_, _, rfl⟩ ⟨Nat.le_of_ble_eq_true rfl, Nat.le_of_ble_eq_true rfl⟩ rfl hl.1 rfl (Nat.le_of_ble_eq_true rfl) dX6_readOne_73 ⟨Nat.le_refl 0, Nat.le_refl 0⟩) X60 (fun v75 t74 H lc q72 X73 => ?_)
          unfold po_X6_readCond_4 at q72
          obtain ⟨q76, q77, q78, q79⟩ := q72
          have F80 : Fr [(16, 1), (16, 2), (17, 4), (1, 3), (1, 4), (1, 5), (1, 7), (1, 8), (16, 4)] [18, 19, 20, 201] τ t74 := Fr_call F64 q77 (by decide)
          refine r_if_eq (tgt := 92) S dX6_readOne_76 (by decide) (fun c81 => ?_) (fun c81 => ?_)
          ·
            have r82 : R (0) (0) v75 := ⟨by omega, by omega⟩
            refine r_iconst S dX6_readOne_92 (by decide) (fun v83 z84 => ?_)
            have r85 := R_eq z84
            exact r_ret S hr hlk X73 ⟨q76, F80, q78, (R_of r85 rfl)⟩ (nr_bool (R_of (lo := 0) (hi := 1) r85 rfl)) dX6_readOne_93
          ·
            have r86 : R (1) (1) v75 := ⟨by omega, by omega⟩
            refine r_aload_n S dX6_readOne_79 rfl (lv_at hl 1 rfl) ?_
            refine r_bipush S dX6_readOne_80 (by decide) (fun v87 z88 => ?_)
            have r89 := R_eq z88
            refine r_ki (q_U (As := [.int v87]) (rest := []) (K := 16) (ci := 6) S X73 (c_X8_takeSign_16 l G t74 q76 v87 (R_of (lo := 0) (hi := 65535) r89 rfl)) ck6_85_6 (Nat.le_of_ble_eq_true rfl) rfl (fun _ => ⟨_, rfl⟩) ⟨_, _, rfl⟩ ⟨Nat.le_of_ble_eq_true rfl, Nat.le_of_ble_eq_true rfl⟩ rfl hl.1 rfl (Nat.le_of_ble_eq_true rfl) dX6_readOne_82 ⟨Nat.le_refl 0, Nat.le_refl 0⟩) X73 (fun v93 t92 H lc q90 X91 => ?_)
            unfold po_X8_takeSign_16 at q90
            obtain ⟨q94, q95, q96⟩ := q90
            have F97 : Fr [(16, 1), (16, 2), (17, 4), (1, 3), (1, 4), (1, 5), (1, 7), (1, 8), (16, 4)] [18, 19, 20, 201] τ t92 := Fr_call F80 q95 (by decide)
            refine r_if_eq (tgt := 92) S dX6_readOne_85 (by decide) (fun c98 => ?_) (fun c98 => ?_)
            ·
              have r99 : R (0) (0) v93 := ⟨by omega, by omega⟩
              refine r_iconst S dX6_readOne_92 (by decide) (fun v100 z101 => ?_)
              have r102 := R_eq z101
              exact r_ret S hr hlk X91 ⟨q94, F97, (YT_eq q78 (fun j => ((q95 18 j (by simp [fz])).trans rfl)) (fun j => ((q95 19 j (by simp [fz])).trans rfl))), (R_of r102 rfl)⟩ (nr_bool (R_of (lo := 0) (hi := 1) r102 rfl)) dX6_readOne_93
            ·
              have r103 : R (1) (1) v93 := ⟨by omega, by omega⟩
              refine r_iconst S dX6_readOne_88 (by decide) (fun v104 z105 => ?_)
              have r106 := R_eq z105
              refine r_goto (tgt := 93) S dX6_readOne_89 (by decide) ?_
              exact r_ret S hr hlk X91 ⟨q94, F97, (YT_eq q78 (fun j => ((q95 18 j (by simp [fz])).trans rfl)) (fun j => ((q95 19 j (by simp [fz])).trans rfl))), (R_of r106 rfl)⟩ (nr_bool (R_of (lo := 0) (hi := 1) r106 rfl)) dX6_readOne_93
        ·
          exfalso; omega
    ·
      have r107 : R (0) (0) v18 := ⟨by omega, by omega⟩
      refine r_aload_n S dX6_readOne_21 rfl (lv_at hl 1 rfl) ?_
      refine r_iconst S dX6_readOne_22 (by decide) (fun v108 z109 => ?_)
      have r110 := R_eq z109
      refine r_ki (q_U (As := [.int v108]) (rest := []) (K := 16) (ci := 6) S X16 (c_X8_fail_16 l G τ hI v108 (R_of (lo := -2147483648) (hi := 2147483647) r110 rfl)) ck6_48_6 (Nat.le_of_ble_eq_true rfl) rfl (fun _ => ⟨_, rfl⟩) ⟨_, _, rfl⟩ ⟨Nat.le_of_ble_eq_true rfl, Nat.le_of_ble_eq_true rfl⟩ rfl hl.1 rfl (Nat.le_of_ble_eq_true rfl) dX6_readOne_23 ⟨Nat.le_refl 0, Nat.le_refl 0⟩) X16 (fun v114 t113 H lc q111 X112 => ?_)
      unfold po_X8_fail_16 at q111
      obtain ⟨q115, q116, q117⟩ := q111
      have F118 : Fr [(16, 1), (16, 2), (17, 4), (1, 3), (1, 4), (1, 5), (1, 7), (1, 8), (16, 4)] [18, 19, 20, 201] τ t113 := Fr_call Fr_rfl q116 (by decide)
      exact r_ret S hr hlk X112 ⟨q115, F118, (YT_eq hYT (fun j => ((q116 18 j (by simp [fz])).trans rfl)) (fun j => ((q116 19 j (by simp [fz])).trans rfl))), (R_of q117 rfl)⟩ (nr_bool (R_of (lo := 0) (hi := 1) q117 rfl)) dX6_readOne_26
  ·
    unfold po_X6_firstWord at q3
    obtain ⟨q119, q120⟩ := q3
    rw [q119] at X4
    refine r_astore_n (lv' := [(2, .ref (G.2.2.1 w8)), (0, .ref (G.2.2.2.1 16)), (1, .int a0)]) S dX6_readOne_4 rfl hl (by decide) rfl (fun ls hl => ?_)
    refine r_aload_n S dX6_readOne_5 rfl (lv_at hl 0 rfl) ?_
    refine lv_ifnonnull (tgt := 27) S.1.1 S.1.2.1 dX6_readOne_6 (by decide) ?_
    refine r_aload_n S dX6_readOne_27 rfl (lv_at hl 1 rfl) ?_
    refine r_getn (K := 16) S X4 (Nat.le_of_ble_eq_true rfl) rfl lk6_28_6 (fun _ => ⟨_, rfl, rfl⟩) dX6_readOne_28 (fun v121 z122 => ?_)
    have r123 : R (0) (20) v121 := rd hI rfl z122
    refine r_bipush S dX6_readOne_31 (by decide) (fun v124 z125 => ?_)
    have r126 := R_eq z125
    refine r_icmp_ge (tgt := 42) S dX6_readOne_33 (by decide) (fun c127 => ?_) (fun c127 => ?_)
    ·
      have r128 : R (20) (20) v121 := ⟨by omega, by omega⟩
      refine r_aload_n S dX6_readOne_42 rfl (lv_at hl 1 rfl) ?_
      refine r_iconst S dX6_readOne_43 (by decide) (fun v129 z130 => ?_)
      have r131 := R_eq z130
      refine r_ki (q_U (As := [.int v129]) (rest := []) (K := 16) (ci := 6) S X4 (c_X8_fail_16 l G τ hI v129 (R_of (lo := -2147483648) (hi := 2147483647) r131 rfl)) ck6_48_6 (Nat.le_of_ble_eq_true rfl) rfl (fun _ => ⟨_, rfl⟩) ⟨_, _, rfl⟩ ⟨Nat.le_of_ble_eq_true rfl, Nat.le_of_ble_eq_true rfl⟩ rfl hl.1 rfl (Nat.le_of_ble_eq_true rfl) dX6_readOne_44 ⟨Nat.le_refl 0, Nat.le_refl 0⟩) X4 (fun v135 t134 H lc q132 X133 => ?_)
      unfold po_X8_fail_16 at q132
      obtain ⟨q136, q137, q138⟩ := q132
      have F139 : Fr [(16, 1), (16, 2), (17, 4), (1, 3), (1, 4), (1, 5), (1, 7), (1, 8), (16, 4)] [18, 19, 20, 201] τ t134 := Fr_call Fr_rfl q137 (by decide)
      exact r_ret S hr hlk X133 ⟨q136, F139, (YT_eq hYT (fun j => ((q137 18 j (by simp [fz])).trans rfl)) (fun j => ((q137 19 j (by simp [fz])).trans rfl))), (R_of q138 rfl)⟩ (nr_bool (R_of (lo := 0) (hi := 1) q138 rfl)) dX6_readOne_47
    ·
      have r140 : R (0) (19) v121 := ⟨by omega, by omega⟩
      refine r_iload_n S dX6_readOne_36 rfl (lv_at hl 2 rfl) ?_
      refine r_bipush S dX6_readOne_37 (by decide) (fun v141 z142 => ?_)
      have r143 := R_eq z142
      refine r_icmp_le (tgt := 48) S dX6_readOne_39 (by decide) (fun c144 => ?_) (fun c144 => ?_)
      ·
        refine r_aload_n S dX6_readOne_48 rfl (lv_at hl 1 rfl) ?_
        refine r_dup S dX6_readOne_49 rfl ?_
        refine r_geti (K := 16) S X4 (Nat.le_of_ble_eq_true rfl) rfl lk6_28_6 (fun _ => ⟨_, rfl, rfl⟩) z122 dX6_readOne_50 ?_
        refine r_iconst S dX6_readOne_53 (by decide) (fun v145 z146 => ?_)
        have r147 := R_eq z146
        refine r_iadd S dX6_readOne_54 (fun v148 z149 => ?_)
        obtain ⟨e150, r151⟩ := i_add (lo := 1) (hi := 20) z149 r140 r147 rfl
        refine r_put (K := 16) (ty := .int) S X4 (Nat.le_of_ble_eq_true rfl) rfl lk6_28_6 (fun _ => ⟨_, rfl, Nat.le_of_ble_eq_true rfl, rfl⟩) (fun _ _ _ h => by cases h; exact ⟨rfl, rfl⟩) rfl rfl dX6_readOne_55 (fun t152 H lc M153 X154 => ?_)
        have I155 := Inv_mu hI M153 (show Rg (kd 16) 4 v148 from (R_of (lo := 0) (hi := 20) r151 rfl))
        have F156 : Fr [(16, 1), (16, 2), (17, 4), (1, 3), (1, 4), (1, 5), (1, 7), (1, 8), (16, 4)] [18, 19, 20, 201] τ t152 := Fr_mu Fr_rfl M153 (by decide)
        refine r_aload_n S dX6_readOne_58 rfl (lv_at hl 1 rfl) ?_
        refine r_get (K := 16) (v := .ref (G.2.2.2.1 1)) S X154 (Nat.le_of_ble_eq_true rfl) rfl lk6_39_6 (fun _ => ⟨_, rfl, rfl⟩) dX6_readOne_59 ?_
        refine r_kv (q_V (As := []) (rest := []) (K := 1) (ci := 7) S X154 (c_X7_step l G t152 I155 ) ck6_64 (Nat.le_of_ble_eq_true rfl) rfl (fun _ => ⟨_, rfl⟩) ⟨_, _, rfl⟩ ⟨Nat.le_of_ble_eq_true rfl, Nat.le_of_ble_eq_true rfl⟩ rfl hl.1 rfl (Nat.le_of_ble_eq_true rfl) dX6_readOne_62 ⟨Nat.le_refl 0, Nat.le_refl 0⟩) X154 (fun t159 H lc q157 X158 => ?_)
        unfold po_X7_step at q157
        obtain ⟨q160, q161⟩ := q157
        have F162 : Fr [(16, 1), (16, 2), (17, 4), (1, 3), (1, 4), (1, 5), (1, 7), (1, 8), (16, 4)] [18, 19, 20, 201] τ t159 := Fr_call F156 q161 (by decide)
        refine r_aload_n S dX6_readOne_65 rfl (lv_at hl 0 rfl) ?_
        refine lv_ifnonnull (tgt := 94) S.1.1 S.1.2.1 dX6_readOne_66 (by decide) ?_
        refine r_aload_n S dX6_readOne_94 rfl (lv_at hl 0 rfl) ?_
        refine r_wst (i := 15) S X158 (by decide) kw74 dX6_readOne_95 ?_
        refine r_cacmp_ne (tgt := 127) S h_w8 (by decide) dX6_readOne_98 (by decide) (fun c163 => ?_) (fun c163 => ?_)
        ·
          refine r_aload_n S dX6_readOne_127 rfl (lv_at hl 1 rfl) ?_
          refine r_aload_n S dX6_readOne_128 rfl (lv_at hl 0 rfl) ?_
          refine r_ki (q_V (As := [.ref (G.2.2.1 w8)]) (rest := []) (K := 16) (ci := 6) S X158 (c_X6_readPlainOne l G t159 q160 w8 h_w8 (by rw [((q161 16 5 (by decide)).trans ((M153.2 16 5 (Or.inr (by decide))).trans z2))]; exact R_of hf_0 rfl) (YT_eq hYT (fun j => ((q161 18 j (by simp [fz])).trans ((M153.2 18 j (Or.inl (by decide))).trans rfl))) (fun j => ((q161 19 j (by simp [fz])).trans ((M153.2 19 j (Or.inl (by decide))).trans rfl))))) ck6_91 (Nat.le_of_ble_eq_true rfl) rfl (fun _ => ⟨_, rfl⟩) ⟨_, _, rfl⟩ ⟨Nat.le_of_ble_eq_true rfl, Nat.le_of_ble_eq_true rfl⟩ rfl hl.1 rfl (Nat.le_of_ble_eq_true rfl) dX6_readOne_129 ⟨Nat.le_refl 0, Nat.le_refl 0⟩) X158 (fun v167 t166 H lc q164 X165 => ?_)
          unfold po_X6_readPlainOne at q164
          obtain ⟨q168, q169, q170, q171⟩ := q164
          have F172 : Fr [(16, 1), (16, 2), (17, 4), (1, 3), (1, 4), (1, 5), (1, 7), (1, 8), (16, 4)] [18, 19, 20, 201] τ t166 := Fr_call F162 q169 (by decide)
          exact r_ret S hr hlk X165 ⟨q168, F172, q170, q171⟩ (nr_bool (R_of (lo := 0) (hi := 1) q171 rfl)) dX6_readOne_132
        ·
          refine r_aload_n S dX6_readOne_101 rfl (lv_at hl 1 rfl) ?_
          refine r_iload_n S dX6_readOne_102 rfl (lv_at hl 2 rfl) ?_
          refine r_iconst S dX6_readOne_103 (by decide) (fun v173 z174 => ?_)
          have r175 := R_eq z174
          refine r_iadd S dX6_readOne_104 (fun v176 z177 => ?_)
          obtain ⟨e178, r179⟩ := i_add (lo := 4) (hi := 4) z177 h_a0 r175 rfl
          refine r_ki (q_V (As := [.int v176]) (rest := []) (K := 16) (ci := 6) S X158 (c_X6_readOne_4 l G t159 q160 v176 r179 (by rw [((q161 16 5 (by decide)).trans ((M153.2 16 5 (Or.inr (by decide))).trans z2))]; exact R_of hf_0 rfl) (YT_eq hYT (fun j => ((q161 18 j (by simp [fz])).trans ((M153.2 18 j (Or.inl (by decide))).trans rfl))) (fun j => ((q161 19 j (by simp [fz])).trans ((M153.2 19 j (Or.inl (by decide))).trans rfl))))) ck6_71 (Nat.le_of_ble_eq_true rfl) rfl (fun _ => ⟨_, rfl⟩) ⟨_, _, rfl⟩ ⟨Nat.le_of_ble_eq_true rfl, Nat.le_of_ble_eq_true rfl⟩ rfl hl.1 rfl (Nat.le_of_ble_eq_true rfl) dX6_readOne_105 ⟨Nat.le_refl 0, Nat.le_refl 0⟩) X158 (fun v183 t182 H lc q180 X181 => ?_)
          unfold po_X6_readOne_4 at q180
          obtain ⟨q184, q185, q186, q187⟩ := q180
          have F188 : Fr [(16, 1), (16, 2), (17, 4), (1, 3), (1, 4), (1, 5), (1, 7), (1, 8), (16, 4)] [18, 19, 20, 201] τ t182 := Fr_call F162 q185 (by decide)
          refine r_if_ne (tgt := 113) S dX6_readOne_108 (by decide) (fun c189 => ?_) (fun c189 => ?_)
          ·
            have r190 : R (1) (1) v183 := ⟨by omega, by omega⟩
            refine r_aload_n S dX6_readOne_113 rfl (lv_at hl 1 rfl) ?_
            refine r_get (K := 16) (v := .ref (G.2.2.2.1 17)) S X181 (Nat.le_of_ble_eq_true rfl) rfl lk6_14_6 (fun _ => ⟨_, rfl, rfl⟩) dX6_readOne_114 ?_
            refine r_wst (i := 15) S X181 (by decide) kw74 dX6_readOne_117 ?_
            refine r_iconst S dX6_readOne_120 (by decide) (fun v191 z192 => ?_)
            have r193 := R_eq z192
            refine r_iconst S dX6_readOne_121 (by decide) (fun v194 z195 => ?_)
            have r196 := R_eq z195
            refine r_kv (q_V (As := [.ref (G.2.2.1 15), .int v191, .int v194]) (rest := []) (K := 17) (ci := 5) S X181 (c_X5_add l G t182 q184 15 (by decide) v191 v194 (R_of (lo := -2147483648) (hi := 2147483647) r193 rfl) (R_of (lo := 0) (hi := 99) r196 rfl) q186 (by omega)) ck6_67 (Nat.le_of_ble_eq_true rfl) rfl (fun _ => ⟨_, rfl⟩) ⟨_, _, rfl⟩ ⟨Nat.le_of_ble_eq_true rfl, Nat.le_of_ble_eq_true rfl⟩ rfl hl.1 rfl (Nat.le_of_ble_eq_true rfl) dX6_readOne_122 ⟨Nat.le_refl 0, Nat.le_refl 0⟩) X181 (fun t199 H lc q197 X198 => ?_)
            unfold po_X5_add at q197
            obtain ⟨q200, q201, q202⟩ := q197
            have F203 : Fr [(16, 1), (16, 2), (17, 4), (1, 3), (1, 4), (1, 5), (1, 7), (1, 8), (16, 4)] [18, 19, 20, 201] τ t199 := Fr_call F188 q201 (by decide)
            refine r_iconst S dX6_readOne_125 (by decide) (fun v204 z205 => ?_)
            have r206 := R_eq z205
            exact r_ret S hr hlk X198 ⟨q200, F203, q202, (R_of r206 rfl)⟩ (nr_bool (R_of (lo := 0) (hi := 1) r206 rfl)) dX6_readOne_126
          ·
            have r207 : R (0) (0) v183 := ⟨by omega, by omega⟩
            refine r_iconst S dX6_readOne_111 (by decide) (fun v208 z209 => ?_)
            have r210 := R_eq z209
            exact r_ret S hr hlk X181 ⟨q184, F188, q186, (R_of r210 rfl)⟩ (nr_bool (R_of (lo := 0) (hi := 1) r210 rfl)) dX6_readOne_112
      ·
        exfalso; omega
def po_X6_readAll_3 (τ : Tau)  (a0 : Int32)   (r : Int32) (u : Tau) : Prop := Inv u ∧ Fr [(16, 1), (16, 2), (17, 4), (1, 3), (1, 4), (1, 5), (1, 7), (1, 8), (16, 4)] [18, 19, 20, 201] τ u ∧ YT u ∧ R (0) (1) r
set_option maxHeartbeats 4000000 in
set_option maxRecDepth 100000 in
theorem c_X6_readAll_3 (l : Launch) (G : Gx) (τ : Tau) (hI : Inv τ) (a0 : Int32) (h_a0 : R (3) (3) a0) (hf_0 : R (1) (1) (τ 16 5)) (hYT : YT τ) : Ci l G yX6_readAll cX6_readAll 3 (some .boolean) 22 479 [.ref (G.2.2.2.1 16), .int a0] τ (po_X6_readAll_3 τ  a0  ) := by
  unfold Ci
  refine C_of (own := RX6) (by decide) rfl (Nat.le_of_ble_eq_true rfl) ?_
  intro p e s m below meth c ls S hr hlk X hl
  have hl : lv_has ls 3 [(0, .ref (G.2.2.2.1 16)), (1, .int a0)] := hl
  obtain ⟨v1, z2⟩ : ∃ x, τ 16 5 = x := ⟨_, rfl⟩
  rw [z2] at hf_0
  refine r_aload_n S dX6_readAll_0 rfl (lv_at hl 0 rfl) ?_
  refine r_iload_n S dX6_readAll_1 rfl (lv_at hl 1 rfl) ?_
  refine r_ki (q_V (As := [.int a0]) (rest := []) (K := 16) (ci := 6) S X (c_X6_readOne_3 l G τ hI a0 h_a0 (by rw [z2]; exact R_of hf_0 rfl) hYT) ck6_71 (Nat.le_of_ble_eq_true rfl) rfl (fun _ => ⟨_, rfl⟩) ⟨_, _, rfl⟩ ⟨Nat.le_of_ble_eq_true rfl, Nat.le_of_ble_eq_true rfl⟩ rfl hl.1 rfl (Nat.le_of_ble_eq_true rfl) dX6_readAll_2 ⟨Nat.le_refl 0, Nat.le_refl 0⟩) X (fun v6 t5 H lc q3 X4 => ?_)
  unfold po_X6_readOne_3 at q3
  obtain ⟨q7, q8, q9, q10⟩ := q3
  have F11 : Fr [(16, 1), (16, 2), (17, 4), (1, 3), (1, 4), (1, 5), (1, 7), (1, 8), (16, 4)] [18, 19, 20, 201] τ t5 := Fr_call Fr_rfl q8 (by decide)
  refine r_if_ne (tgt := 10) S dX6_readAll_5 (by decide) (fun c12 => ?_) (fun c12 => ?_)
  ·
    have r13 : R (1) (1) v6 := ⟨by omega, by omega⟩
    refine r_iconst S dX6_readAll_10 (by decide) (fun v14 z15 => ?_)
    have r16 := R_eq z15
    refine r_istore_n (lv' := [(2, .int v14), (0, .ref (G.2.2.2.1 16)), (1, .int a0)]) S dX6_readAll_11 rfl hl (by decide) rfl (fun ls hl => ?_)
    have L660 : ∀ (n : Nat) (t654 : Tau) (H : Heap) (lc : List Loc) (ls : Array Slot) (i652 : Int32), Xd G s H lc t654 → Inv t654 → Fr [(16, 1), (16, 2), (17, 4), (1, 3), (1, 4), (1, 5), (1, 7), (1, 8), (16, 4)] [18, 19, 20, 201] τ t654 → YT t654 → R (0) (24) i652 → t654 16 5 = v1 → lv_has ls 3 [(0, .ref (G.2.2.2.1 16)), (1, .int a0), (2, .int i652)] → (24 - i652.toInt).toNat < n → W p l e (Rm 22 479) s m ([.ref (G.2.2.2.1 16), .int a0] : List Value).toArray below meth c H lc 0 0 (MQ below (va_Qi (po_X6_readAll_3 τ  a0  ) (Bs G) G.2.2.2.2) ([.ref (G.2.2.2.1 16), .int a0] : List Value).toArray s 0 0 G.2.2.2.2) (F0 m 12 ls []) := by
      intro n
      induction n with
      | zero => intros; omega
      | succ n ih661 =>
        intro t654 H lc ls i652 X658 I655 F656 hYT657 r653 z659 hl hm
        refine r_iload_n S dX6_readAll_12 rfl (lv_at hl 2 rfl) ?_
        refine r_bipush S dX6_readAll_13 (by decide) (fun v662 z663 => ?_)
        have r664 := R_eq z663
        refine r_icmp_gt (tgt := 66) S dX6_readAll_15 (by decide) (fun c665 => ?_) (fun c665 => ?_)
        ·
          have r666 : R (21) (24) i652 := ⟨by omega, by omega⟩
          refine r_iconst S dX6_readAll_66 (by decide) (fun v667 z668 => ?_)
          have r669 := R_eq z668
          exact r_ret S hr hlk X658 ⟨I655, F656, hYT657, (R_of r669 rfl)⟩ (nr_bool (R_of (lo := 0) (hi := 1) r669 rfl)) dX6_readAll_67
        ·
          have r670 : R (0) (20) i652 := ⟨by omega, by omega⟩
          refine r_aload_n S dX6_readAll_18 rfl (lv_at hl 0 rfl) ?_
          refine r_get (K := 16) (v := .ref (G.2.2.2.1 1)) S X658 (Nat.le_of_ble_eq_true rfl) rfl lk6_39_6 (fun _ => ⟨_, rfl, rfl⟩) dX6_readAll_19 ?_
          refine r_wst (i := 14) S X658 (by decide) kw81 dX6_readAll_22 ?_
          refine r_ki (q_V (As := [.ref (G.2.2.1 14)]) (rest := []) (K := 1) (ci := 7) S X658 (c_X7_is l G t654 I655 14 (by decide)) ck6_60 (Nat.le_of_ble_eq_true rfl) rfl (fun _ => ⟨_, rfl⟩) ⟨_, _, rfl⟩ ⟨Nat.le_of_ble_eq_true rfl, Nat.le_of_ble_eq_true rfl⟩ rfl hl.1 rfl (Nat.le_of_ble_eq_true rfl) dX6_readAll_25 ⟨Nat.le_refl 0, Nat.le_refl 0⟩) X658 (fun v674 t673 H lc q671 X672 => ?_)
          unfold po_X7_is at q671
          obtain ⟨q675, q676⟩ := q671
          rw [q675] at X672
          refine r_if_eq (tgt := 66) S dX6_readAll_28 (by decide) (fun c677 => ?_) (fun c677 => ?_)
          ·
            have r678 : R (0) (0) v674 := ⟨by omega, by omega⟩
            refine r_iconst S dX6_readAll_66 (by decide) (fun v679 z680 => ?_)
            have r681 := R_eq z680
            exact r_ret S hr hlk X672 ⟨I655, F656, hYT657, (R_of r681 rfl)⟩ (nr_bool (R_of (lo := 0) (hi := 1) r681 rfl)) dX6_readAll_67
          ·
            have r682 : R (1) (1) v674 := ⟨by omega, by omega⟩
            refine r_aload_n S dX6_readAll_31 rfl (lv_at hl 0 rfl) ?_
            refine r_get (K := 16) (v := .ref (G.2.2.2.1 1)) S X672 (Nat.le_of_ble_eq_true rfl) rfl lk6_39_6 (fun _ => ⟨_, rfl, rfl⟩) dX6_readAll_32 ?_
            refine r_kv (q_V (As := []) (rest := []) (K := 1) (ci := 7) S X672 (c_X7_step l G t654 I655 ) ck6_64 (Nat.le_of_ble_eq_true rfl) rfl (fun _ => ⟨_, rfl⟩) ⟨_, _, rfl⟩ ⟨Nat.le_of_ble_eq_true rfl, Nat.le_of_ble_eq_true rfl⟩ rfl hl.1 rfl (Nat.le_of_ble_eq_true rfl) dX6_readAll_35 ⟨Nat.le_refl 0, Nat.le_refl 0⟩) X672 (fun t685 H lc q683 X684 => ?_)
            unfold po_X7_step at q683
            obtain ⟨q686, q687⟩ := q683
            have F688 : Fr [(16, 1), (16, 2), (17, 4), (1, 3), (1, 4), (1, 5), (1, 7), (1, 8), (16, 4)] [18, 19, 20, 201] τ t685 := Fr_call F656 q687 (by decide)
            refine r_aload_n S dX6_readAll_38 rfl (lv_at hl 0 rfl) ?_
            refine r_iload_n S dX6_readAll_39 rfl (lv_at hl 1 rfl) ?_
            refine r_ki (q_V (As := [.int a0]) (rest := []) (K := 16) (ci := 6) S X684 (c_X6_readOne_3 l G t685 q686 a0 h_a0 (by rw [((q687 16 5 (by decide)).trans z659)]; exact R_of hf_0 rfl) (YT_eq hYT657 (fun j => ((q687 18 j (by simp [fz])).trans rfl)) (fun j => ((q687 19 j (by simp [fz])).trans rfl)))) ck6_71 (Nat.le_of_ble_eq_true rfl) rfl (fun _ => ⟨_, rfl⟩) ⟨_, _, rfl⟩ ⟨Nat.le_of_ble_eq_true rfl, Nat.le_of_ble_eq_true rfl⟩ rfl hl.1 rfl (Nat.le_of_ble_eq_true rfl) dX6_readAll_40 ⟨Nat.le_refl 0, Nat.le_refl 0⟩) X684 (fun v692 t691 H lc q689 X690 => ?_)
            unfold po_X6_readOne_3 at q689
            obtain ⟨q693, q694, q695, q696⟩ := q689
            have F697 : Fr [(16, 1), (16, 2), (17, 4), (1, 3), (1, 4), (1, 5), (1, 7), (1, 8), (16, 4)] [18, 19, 20, 201] τ t691 := Fr_call F688 q694 (by decide)
            refine r_if_ne (tgt := 48) S dX6_readAll_43 (by decide) (fun c698 => ?_) (fun c698 => ?_)
            ·
              have r699 : R (1) (1) v692 := ⟨by omega, by omega⟩
              refine r_aload_n S dX6_readAll_48 rfl (lv_at hl 0 rfl) ?_
              refine r_get (K := 16) (v := .ref (G.2.2.2.1 17)) S X690 (Nat.le_of_ble_eq_true rfl) rfl lk6_14_6 (fun _ => ⟨_, rfl, rfl⟩) dX6_readAll_49 ?_
              refine r_wst (i := 14) S X690 (by decide) kw81 dX6_readAll_52 ?_
              refine r_iconst S dX6_readAll_55 (by decide) (fun v700 z701 => ?_)
              have r702 := R_eq z701
              refine r_iconst S dX6_readAll_56 (by decide) (fun v703 z704 => ?_)
              have r705 := R_eq z704
              refine r_kv (q_V (As := [.ref (G.2.2.1 14), .int v700, .int v703]) (rest := []) (K := 17) (ci := 5) S X690 (c_X5_add l G t691 q693 14 (by decide) v700 v703 (R_of (lo := -2147483648) (hi := 2147483647) r702 rfl) (R_of (lo := 0) (hi := 99) r705 rfl) q695 (by omega)) ck6_67 (Nat.le_of_ble_eq_true rfl) rfl (fun _ => ⟨_, rfl⟩) ⟨_, _, rfl⟩ ⟨Nat.le_of_ble_eq_true rfl, Nat.le_of_ble_eq_true rfl⟩ rfl hl.1 rfl (Nat.le_of_ble_eq_true rfl) dX6_readAll_57 ⟨Nat.le_refl 0, Nat.le_refl 0⟩) X690 (fun t708 H lc q706 X707 => ?_)
              unfold po_X5_add at q706
              obtain ⟨q709, q710, q711⟩ := q706
              have F712 : Fr [(16, 1), (16, 2), (17, 4), (1, 3), (1, 4), (1, 5), (1, 7), (1, 8), (16, 4)] [18, 19, 20, 201] τ t708 := Fr_call F697 q710 (by decide)
              refine r_iinc (k := 2) S dX6_readAll_60 hl rfl (by decide) (by decide) (fun v713 d714 ls z715 z716 hl => ?_)
              obtain ⟨e717, r718⟩ := i_add (lo := 1) (hi := 21) z715 r670 (R_eq z716) rfl
              have hl : lv_has ls 3 [(2, .int v713), (0, .ref (G.2.2.2.1 16)), (1, .int a0)] := hl
              refine r_goto (tgt := 12) S dX6_readAll_63 (by decide) ?_
              exact ih661 t708 _ _ _ v713 X707 q709 F712 q711 (R_of r718 rfl) ((q710 16 5 (by decide)).trans ((q694 16 5 (by decide)).trans ((q687 16 5 (by decide)).trans z659))) (lv_sub hl [1, 2, 0] rfl) (by omega)
            ·
              have r719 : R (0) (0) v692 := ⟨by omega, by omega⟩
              refine r_iconst S dX6_readAll_46 (by decide) (fun v720 z721 => ?_)
              have r722 := R_eq z721
              exact r_ret S hr hlk X690 ⟨q693, F697, q695, (R_of r722 rfl)⟩ (nr_bool (R_of (lo := 0) (hi := 1) r722 rfl)) dX6_readAll_47
    exact L660 _ t5 _ _ _ v14 X4 q7 F11 q9 (R_of r16 rfl) ((q8 16 5 (by decide)).trans z2) (lv_sub hl [1, 2, 0] rfl) (Nat.lt_succ_self _)
  ·
    have r723 : R (0) (0) v6 := ⟨by omega, by omega⟩
    refine r_iconst S dX6_readAll_8 (by decide) (fun v724 z725 => ?_)
    have r726 := R_eq z725
    exact r_ret S hr hlk X4 ⟨q7, F11, q9, (R_of r726 rfl)⟩ (nr_bool (R_of (lo := 0) (hi := 1) r726 rfl)) dX6_readAll_9
def po_X6_readCond_3 (τ : Tau)  (a0 : Int32)   (r : Int32) (u : Tau) : Prop := Inv u ∧ Fr [(16, 1), (16, 2), (17, 4), (1, 3), (1, 4), (1, 5), (1, 7), (1, 8), (16, 4)] [18, 19, 20, 201] τ u ∧ YT u ∧ R (0) (1) r
set_option maxHeartbeats 4000000 in
set_option maxRecDepth 100000 in
theorem c_X6_readCond_3 (l : Launch) (G : Gx) (τ : Tau) (hI : Inv τ) (a0 : Int32) (h_a0 : R (3) (3) a0) (hf_0 : R (1) (1) (τ 16 5)) (hYT : YT τ) : Ci l G yX6_readCond cX6_readCond 3 (some .boolean) 23 501 [.ref (G.2.2.2.1 16), .int a0] τ (po_X6_readCond_3 τ  a0  ) := by
  unfold Ci
  refine C_of (own := RX6) (by decide) rfl (Nat.le_of_ble_eq_true rfl) ?_
  intro p e s m below meth c ls S hr hlk X hl
  have hl : lv_has ls 3 [(0, .ref (G.2.2.2.1 16)), (1, .int a0)] := hl
  obtain ⟨v1, z2⟩ : ∃ x, τ 16 5 = x := ⟨_, rfl⟩
  rw [z2] at hf_0
  refine r_aload_n S dX6_readCond_0 rfl (lv_at hl 0 rfl) ?_
  refine r_iload_n S dX6_readCond_1 rfl (lv_at hl 1 rfl) ?_
  refine r_ki (q_V (As := [.int a0]) (rest := []) (K := 16) (ci := 6) S X (c_X6_readAll_3 l G τ hI a0 h_a0 (by rw [z2]; exact R_of hf_0 rfl) hYT) ck6_51 (Nat.le_of_ble_eq_true rfl) rfl (fun _ => ⟨_, rfl⟩) ⟨_, _, rfl⟩ ⟨Nat.le_of_ble_eq_true rfl, Nat.le_of_ble_eq_true rfl⟩ rfl hl.1 rfl (Nat.le_of_ble_eq_true rfl) dX6_readCond_2 ⟨Nat.le_refl 0, Nat.le_refl 0⟩) X (fun v6 t5 H lc q3 X4 => ?_)
  unfold po_X6_readAll_3 at q3
  obtain ⟨q7, q8, q9, q10⟩ := q3
  have F11 : Fr [(16, 1), (16, 2), (17, 4), (1, 3), (1, 4), (1, 5), (1, 7), (1, 8), (16, 4)] [18, 19, 20, 201] τ t5 := Fr_call Fr_rfl q8 (by decide)
  refine r_if_ne (tgt := 10) S dX6_readCond_5 (by decide) (fun c12 => ?_) (fun c12 => ?_)
  ·
    have r13 : R (1) (1) v6 := ⟨by omega, by omega⟩
    refine r_iconst S dX6_readCond_10 (by decide) (fun v14 z15 => ?_)
    have r16 := R_eq z15
    refine r_istore_n (lv' := [(2, .int v14), (0, .ref (G.2.2.2.1 16)), (1, .int a0)]) S dX6_readCond_11 rfl hl (by decide) rfl (fun ls hl => ?_)
    have L660 : ∀ (n : Nat) (t654 : Tau) (H : Heap) (lc : List Loc) (ls : Array Slot) (i652 : Int32), Xd G s H lc t654 → Inv t654 → Fr [(16, 1), (16, 2), (17, 4), (1, 3), (1, 4), (1, 5), (1, 7), (1, 8), (16, 4)] [18, 19, 20, 201] τ t654 → YT t654 → R (0) (24) i652 → t654 16 5 = v1 → lv_has ls 3 [(0, .ref (G.2.2.2.1 16)), (1, .int a0), (2, .int i652)] → (24 - i652.toInt).toNat < n → W p l e (Rm 23 501) s m ([.ref (G.2.2.2.1 16), .int a0] : List Value).toArray below meth c H lc 0 0 (MQ below (va_Qi (po_X6_readCond_3 τ  a0  ) (Bs G) G.2.2.2.2) ([.ref (G.2.2.2.1 16), .int a0] : List Value).toArray s 0 0 G.2.2.2.2) (F0 m 12 ls []) := by
      intro n
      induction n with
      | zero => intros; omega
      | succ n ih661 =>
        intro t654 H lc ls i652 X658 I655 F656 hYT657 r653 z659 hl hm
        refine r_iload_n S dX6_readCond_12 rfl (lv_at hl 2 rfl) ?_
        refine r_bipush S dX6_readCond_13 (by decide) (fun v662 z663 => ?_)
        have r664 := R_eq z663
        refine r_icmp_gt (tgt := 66) S dX6_readCond_15 (by decide) (fun c665 => ?_) (fun c665 => ?_)
        ·
          have r666 : R (21) (24) i652 := ⟨by omega, by omega⟩
          refine r_iconst S dX6_readCond_66 (by decide) (fun v667 z668 => ?_)
          have r669 := R_eq z668
          exact r_ret S hr hlk X658 ⟨I655, F656, hYT657, (R_of r669 rfl)⟩ (nr_bool (R_of (lo := 0) (hi := 1) r669 rfl)) dX6_readCond_67
        ·
          have r670 : R (0) (20) i652 := ⟨by omega, by omega⟩
          refine r_aload_n S dX6_readCond_18 rfl (lv_at hl 0 rfl) ?_
          refine r_get (K := 16) (v := .ref (G.2.2.2.1 1)) S X658 (Nat.le_of_ble_eq_true rfl) rfl lk6_39_6 (fun _ => ⟨_, rfl, rfl⟩) dX6_readCond_19 ?_
          refine r_wst (i := 13) S X658 (by decide) kw82 dX6_readCond_22 ?_
          refine r_ki (q_V (As := [.ref (G.2.2.1 13)]) (rest := []) (K := 1) (ci := 7) S X658 (c_X7_is l G t654 I655 13 (by decide)) ck6_60 (Nat.le_of_ble_eq_true rfl) rfl (fun _ => ⟨_, rfl⟩) ⟨_, _, rfl⟩ ⟨Nat.le_of_ble_eq_true rfl, Nat.le_of_ble_eq_true rfl⟩ rfl hl.1 rfl (Nat.le_of_ble_eq_true rfl) dX6_readCond_25 ⟨Nat.le_refl 0, Nat.le_refl 0⟩) X658 (fun v674 t673 H lc q671 X672 => ?_)
          unfold po_X7_is at q671
          obtain ⟨q675, q676⟩ := q671
          rw [q675] at X672
          refine r_if_eq (tgt := 66) S dX6_readCond_28 (by decide) (fun c677 => ?_) (fun c677 => ?_)
          ·
            have r678 : R (0) (0) v674 := ⟨by omega, by omega⟩
            refine r_iconst S dX6_readCond_66 (by decide) (fun v679 z680 => ?_)
            have r681 := R_eq z680
            exact r_ret S hr hlk X672 ⟨I655, F656, hYT657, (R_of r681 rfl)⟩ (nr_bool (R_of (lo := 0) (hi := 1) r681 rfl)) dX6_readCond_67
          ·
            have r682 : R (1) (1) v674 := ⟨by omega, by omega⟩
            refine r_aload_n S dX6_readCond_31 rfl (lv_at hl 0 rfl) ?_
            refine r_get (K := 16) (v := .ref (G.2.2.2.1 1)) S X672 (Nat.le_of_ble_eq_true rfl) rfl lk6_39_6 (fun _ => ⟨_, rfl, rfl⟩) dX6_readCond_32 ?_
            refine r_kv (q_V (As := []) (rest := []) (K := 1) (ci := 7) S X672 (c_X7_step l G t654 I655 ) ck6_64 (Nat.le_of_ble_eq_true rfl) rfl (fun _ => ⟨_, rfl⟩) ⟨_, _, rfl⟩ ⟨Nat.le_of_ble_eq_true rfl, Nat.le_of_ble_eq_true rfl⟩ rfl hl.1 rfl (Nat.le_of_ble_eq_true rfl) dX6_readCond_35 ⟨Nat.le_refl 0, Nat.le_refl 0⟩) X672 (fun t685 H lc q683 X684 => ?_)
            unfold po_X7_step at q683
            obtain ⟨q686, q687⟩ := q683
            have F688 : Fr [(16, 1), (16, 2), (17, 4), (1, 3), (1, 4), (1, 5), (1, 7), (1, 8), (16, 4)] [18, 19, 20, 201] τ t685 := Fr_call F656 q687 (by decide)
            refine r_aload_n S dX6_readCond_38 rfl (lv_at hl 0 rfl) ?_
            refine r_iload_n S dX6_readCond_39 rfl (lv_at hl 1 rfl) ?_
            refine r_ki (q_V (As := [.int a0]) (rest := []) (K := 16) (ci := 6) S X684 (c_X6_readAll_3 l G t685 q686 a0 h_a0 (by rw [((q687 16 5 (by decide)).trans z659)]; exact R_of hf_0 rfl) (YT_eq hYT657 (fun j => ((q687 18 j (by simp [fz])).trans rfl)) (fun j => ((q687 19 j (by simp [fz])).trans rfl)))) ck6_51 (Nat.le_of_ble_eq_true rfl) rfl (fun _ => ⟨_, rfl⟩) ⟨_, _, rfl⟩ ⟨Nat.le_of_ble_eq_true rfl, Nat.le_of_ble_eq_true rfl⟩ rfl hl.1 rfl (Nat.le_of_ble_eq_true rfl) dX6_readCond_40 ⟨Nat.le_refl 0, Nat.le_refl 0⟩) X684 (fun v692 t691 H lc q689 X690 => ?_)
            unfold po_X6_readAll_3 at q689
            obtain ⟨q693, q694, q695, q696⟩ := q689
            have F697 : Fr [(16, 1), (16, 2), (17, 4), (1, 3), (1, 4), (1, 5), (1, 7), (1, 8), (16, 4)] [18, 19, 20, 201] τ t691 := Fr_call F688 q694 (by decide)
            refine r_if_ne (tgt := 48) S dX6_readCond_43 (by decide) (fun c698 => ?_) (fun c698 => ?_)
            ·
              have r699 : R (1) (1) v692 := ⟨by omega, by omega⟩
              refine r_aload_n S dX6_readCond_48 rfl (lv_at hl 0 rfl) ?_
              refine r_get (K := 16) (v := .ref (G.2.2.2.1 17)) S X690 (Nat.le_of_ble_eq_true rfl) rfl lk6_14_6 (fun _ => ⟨_, rfl, rfl⟩) dX6_readCond_49 ?_
              refine r_wst (i := 13) S X690 (by decide) kw82 dX6_readCond_52 ?_
              refine r_iconst S dX6_readCond_55 (by decide) (fun v700 z701 => ?_)
              have r702 := R_eq z701
              refine r_iconst S dX6_readCond_56 (by decide) (fun v703 z704 => ?_)
              have r705 := R_eq z704
              refine r_kv (q_V (As := [.ref (G.2.2.1 13), .int v700, .int v703]) (rest := []) (K := 17) (ci := 5) S X690 (c_X5_add l G t691 q693 13 (by decide) v700 v703 (R_of (lo := -2147483648) (hi := 2147483647) r702 rfl) (R_of (lo := 0) (hi := 99) r705 rfl) q695 (by omega)) ck6_67 (Nat.le_of_ble_eq_true rfl) rfl (fun _ => ⟨_, rfl⟩) ⟨_, _, rfl⟩ ⟨Nat.le_of_ble_eq_true rfl, Nat.le_of_ble_eq_true rfl⟩ rfl hl.1 rfl (Nat.le_of_ble_eq_true rfl) dX6_readCond_57 ⟨Nat.le_refl 0, Nat.le_refl 0⟩) X690 (fun t708 H lc q706 X707 => ?_)
              unfold po_X5_add at q706
              obtain ⟨q709, q710, q711⟩ := q706
              have F712 : Fr [(16, 1), (16, 2), (17, 4), (1, 3), (1, 4), (1, 5), (1, 7), (1, 8), (16, 4)] [18, 19, 20, 201] τ t708 := Fr_call F697 q710 (by decide)
              refine r_iinc (k := 2) S dX6_readCond_60 hl rfl (by decide) (by decide) (fun v713 d714 ls z715 z716 hl => ?_)
              obtain ⟨e717, r718⟩ := i_add (lo := 1) (hi := 21) z715 r670 (R_eq z716) rfl
              have hl : lv_has ls 3 [(2, .int v713), (0, .ref (G.2.2.2.1 16)), (1, .int a0)] := hl
              refine r_goto (tgt := 12) S dX6_readCond_63 (by decide) ?_
              exact ih661 t708 _ _ _ v713 X707 q709 F712 q711 (R_of r718 rfl) ((q710 16 5 (by decide)).trans ((q694 16 5 (by decide)).trans ((q687 16 5 (by decide)).trans z659))) (lv_sub hl [1, 2, 0] rfl) (by omega)
            ·
              have r719 : R (0) (0) v692 := ⟨by omega, by omega⟩
              refine r_iconst S dX6_readCond_46 (by decide) (fun v720 z721 => ?_)
              have r722 := R_eq z721
              exact r_ret S hr hlk X690 ⟨q693, F697, q695, (R_of r722 rfl)⟩ (nr_bool (R_of (lo := 0) (hi := 1) r722 rfl)) dX6_readCond_47
    exact L660 _ t5 _ _ _ v14 X4 q7 F11 q9 (R_of r16 rfl) ((q8 16 5 (by decide)).trans z2) (lv_sub hl [1, 2, 0] rfl) (Nat.lt_succ_self _)
  ·
    have r723 : R (0) (0) v6 := ⟨by omega, by omega⟩
    refine r_iconst S dX6_readCond_8 (by decide) (fun v724 z725 => ?_)
    have r726 := R_eq z725
    exact r_ret S hr hlk X4 ⟨q7, F11, q9, (R_of r726 rfl)⟩ (nr_bool (R_of (lo := 0) (hi := 1) r726 rfl)) dX6_readCond_9
def po_X6_readOne_2 (τ : Tau)  (a0 : Int32)   (r : Int32) (u : Tau) : Prop := Inv u ∧ Fr [(16, 1), (16, 2), (17, 4), (1, 3), (1, 4), (1, 5), (1, 7), (1, 8), (16, 4)] [18, 19, 20, 201] τ u ∧ YT u ∧ R (0) (1) r
set_option maxHeartbeats 4000000 in
set_option maxRecDepth 100000 in
theorem c_X6_readOne_2 (l : Launch) (G : Gx) (τ : Tau) (hI : Inv τ) (a0 : Int32) (h_a0 : R (2) (2) a0) (hf_0 : R (1) (1) (τ 16 5)) (hYT : YT τ) : Ci l G yX6_readOne cX6_readOne 3 (some .boolean) 24 523 [.ref (G.2.2.2.1 16), .int a0] τ (po_X6_readOne_2 τ  a0  ) := by
  unfold Ci
  refine C_of (own := RX6) (by decide) rfl (Nat.le_of_ble_eq_true rfl) ?_
  intro p e s m below meth c ls S hr hlk X hl
  have hl : lv_has ls 3 [(0, .ref (G.2.2.2.1 16)), (1, .int a0)] := hl
  obtain ⟨v1, z2⟩ : ∃ x, τ 16 5 = x := ⟨_, rfl⟩
  rw [z2] at hf_0
  refine r_aload_n S dX6_readOne_0 rfl (lv_at hl 0 rfl) ?_
  refine r_kw2 (q_V (As := []) (rest := []) (K := 16) (ci := 6) S X (c_X6_firstWord l G τ hI ) ck6_77 (Nat.le_of_ble_eq_true rfl) rfl (fun _ => ⟨_, rfl⟩) ⟨_, _, rfl⟩ ⟨Nat.le_of_ble_eq_true rfl, Nat.le_of_ble_eq_true rfl⟩ rfl hl.1 rfl (Nat.le_of_ble_eq_true rfl) dX6_readOne_1 ⟨Nat.le_refl 0, Nat.le_refl 0⟩) X (fun _ _ h => h.2) (fun y6 t5 H lc q3 X4 h7 => ?_) (fun y6 t5 H lc w8 q3 X4 h_w8 e9 => ?_)
  ·
    unfold po_X6_firstWord at q3
    obtain ⟨q10, q11⟩ := q3
    rw [q10] at X4
    refine lv_astore_nN (lv' := [(2, .null), (0, .ref (G.2.2.2.1 16)), (1, .int a0)]) S.1.1 S.1.2.1 dX6_readOne_4 rfl hl (by decide) rfl (fun ls hl => ?_)
    refine lv_aload_nN S.1.1 S.1.2.1 dX6_readOne_5 rfl (lv_at hl 0 rfl) ?_
    refine lv_ifnonnullN S.1.1 S.1.2.1 dX6_readOne_6 ?_
    refine r_aload_n S dX6_readOne_9 rfl (lv_at hl 1 rfl) ?_
    refine r_get (K := 16) (v := .ref (G.2.2.2.1 1)) S X4 (Nat.le_of_ble_eq_true rfl) rfl lk6_39_6 (fun _ => ⟨_, rfl, rfl⟩) dX6_readOne_10 ?_
    refine r_bipush S dX6_readOne_13 (by decide) (fun v12 z13 => ?_)
    have r14 := R_eq z13
    refine r_ki (q_V (As := [.int v12]) (rest := []) (K := 1) (ci := 7) S X4 (c_X7_isSigned l G τ hI v12 (R_of (lo := 0) (hi := 65535) r14 rfl)) ck6_81 (Nat.le_of_ble_eq_true rfl) rfl (fun _ => ⟨_, rfl⟩) ⟨_, _, rfl⟩ ⟨Nat.le_of_ble_eq_true rfl, Nat.le_of_ble_eq_true rfl⟩ rfl hl.1 rfl (Nat.le_of_ble_eq_true rfl) dX6_readOne_15 ⟨Nat.le_refl 0, Nat.le_refl 0⟩) X4 (fun v18 t17 H lc q15 X16 => ?_)
    unfold po_X7_isSigned at q15
    obtain ⟨q19, q20⟩ := q15
    rw [q19] at X16
    refine r_if_ne (tgt := 27) S dX6_readOne_18 (by decide) (fun c21 => ?_) (fun c21 => ?_)
    ·
      have r22 : R (1) (1) v18 := ⟨by omega, by omega⟩
      refine r_aload_n S dX6_readOne_27 rfl (lv_at hl 1 rfl) ?_
      refine r_getn (K := 16) S X16 (Nat.le_of_ble_eq_true rfl) rfl lk6_28_6 (fun _ => ⟨_, rfl, rfl⟩) dX6_readOne_28 (fun v23 z24 => ?_)
      have r25 : R (0) (20) v23 := rd hI rfl z24
      refine r_bipush S dX6_readOne_31 (by decide) (fun v26 z27 => ?_)
      have r28 := R_eq z27
      refine r_icmp_ge (tgt := 42) S dX6_readOne_33 (by decide) (fun c29 => ?_) (fun c29 => ?_)
      ·
        have r30 : R (20) (20) v23 := ⟨by omega, by omega⟩
        refine r_aload_n S dX6_readOne_42 rfl (lv_at hl 1 rfl) ?_
        refine r_iconst S dX6_readOne_43 (by decide) (fun v31 z32 => ?_)
        have r33 := R_eq z32
        refine r_ki (q_U (As := [.int v31]) (rest := []) (K := 16) (ci := 6) S X16 (c_X8_fail_16 l G τ hI v31 (R_of (lo := -2147483648) (hi := 2147483647) r33 rfl)) ck6_48_6 (Nat.le_of_ble_eq_true rfl) rfl (fun _ => ⟨_, rfl⟩) ⟨_, _, rfl⟩ ⟨Nat.le_of_ble_eq_true rfl, Nat.le_of_ble_eq_true rfl⟩ rfl hl.1 rfl (Nat.le_of_ble_eq_true rfl) dX6_readOne_44 ⟨Nat.le_refl 0, Nat.le_refl 0⟩) X16 (fun v37 t36 H lc q34 X35 => ?_)
        unfold po_X8_fail_16 at q34
        obtain ⟨q38, q39, q40⟩ := q34
        have F41 : Fr [(16, 1), (16, 2), (17, 4), (1, 3), (1, 4), (1, 5), (1, 7), (1, 8), (16, 4)] [18, 19, 20, 201] τ t36 := Fr_call Fr_rfl q39 (by decide)
        exact r_ret S hr hlk X35 ⟨q38, F41, (YT_eq hYT (fun j => ((q39 18 j (by simp [fz])).trans rfl)) (fun j => ((q39 19 j (by simp [fz])).trans rfl))), (R_of q40 rfl)⟩ (nr_bool (R_of (lo := 0) (hi := 1) q40 rfl)) dX6_readOne_47
      ·
        have r42 : R (0) (19) v23 := ⟨by omega, by omega⟩
        refine r_iload_n S dX6_readOne_36 rfl (lv_at hl 2 rfl) ?_
        refine r_bipush S dX6_readOne_37 (by decide) (fun v43 z44 => ?_)
        have r45 := R_eq z44
        refine r_icmp_le (tgt := 48) S dX6_readOne_39 (by decide) (fun c46 => ?_) (fun c46 => ?_)
        ·
          refine r_aload_n S dX6_readOne_48 rfl (lv_at hl 1 rfl) ?_
          refine r_dup S dX6_readOne_49 rfl ?_
          refine r_geti (K := 16) S X16 (Nat.le_of_ble_eq_true rfl) rfl lk6_28_6 (fun _ => ⟨_, rfl, rfl⟩) z24 dX6_readOne_50 ?_
          refine r_iconst S dX6_readOne_53 (by decide) (fun v47 z48 => ?_)
          have r49 := R_eq z48
          refine r_iadd S dX6_readOne_54 (fun v50 z51 => ?_)
          obtain ⟨e52, r53⟩ := i_add (lo := 1) (hi := 20) z51 r42 r49 rfl
          refine r_put (K := 16) (ty := .int) S X16 (Nat.le_of_ble_eq_true rfl) rfl lk6_28_6 (fun _ => ⟨_, rfl, Nat.le_of_ble_eq_true rfl, rfl⟩) (fun _ _ _ h => by cases h; exact ⟨rfl, rfl⟩) rfl rfl dX6_readOne_55 (fun t54 H lc M55 X56 => ?_)
          have I57 := Inv_mu hI M55 (show Rg (kd 16) 4 v50 from (R_of (lo := 0) (hi := 20) r53 rfl))
          have F58 : Fr [(16, 1), (16, 2), (17, 4), (1, 3), (1, 4), (1, 5), (1, 7), (1, 8), (16, 4)] [18, 19, 20, 201] τ t54 := Fr_mu Fr_rfl M55 (by decide)
          refine r_aload_n S dX6_readOne_58 rfl (lv_at hl 1 rfl) ?_
          refine r_get (K := 16) (v := .ref (G.2.2.2.1 1)) S X56 (Nat.le_of_ble_eq_true rfl) rfl lk6_39_6 (fun _ => ⟨_, rfl, rfl⟩) dX6_readOne_59 ?_
          refine r_kv (q_V (As := []) (rest := []) (K := 1) (ci := 7) S X56 (c_X7_step l G t54 I57 ) ck6_64 (Nat.le_of_ble_eq_true rfl) rfl (fun _ => ⟨_, rfl⟩) ⟨_, _, rfl⟩ ⟨Nat.le_of_ble_eq_true rfl, Nat.le_of_ble_eq_true rfl⟩ rfl hl.1 rfl (Nat.le_of_ble_eq_true rfl) dX6_readOne_62 ⟨Nat.le_refl 0, Nat.le_refl 0⟩) X56 (fun t61 H lc q59 X60 => ?_)
          unfold po_X7_step at q59
          obtain ⟨q62, q63⟩ := q59
          have F64 : Fr [(16, 1), (16, 2), (17, 4), (1, 3), (1, 4), (1, 5), (1, 7), (1, 8), (16, 4)] [18, 19, 20, 201] τ t61 := Fr_call F58 q63 (by decide)
          refine lv_aload_nN S.1.1 S.1.2.1 dX6_readOne_65 rfl (lv_at hl 0 rfl) ?_
          refine lv_ifnonnullN S.1.1 S.1.2.1 dX6_readOne_66 ?_
          refine r_aload_n S dX6_readOne_69 rfl (lv_at hl 1 rfl) ?_
          refine r_iload_n S dX6_readOne_70 rfl (lv_at hl 2 rfl) ?_
          refine r_iconst S dX6_readOne_71 (by decide) (fun v65 z66 => ?_)
          have r67 := R_eq z66
          refine r_iadd S dX6_readOne_72 (fun v68 z69 => ?_)
          obtain ⟨e70, r71⟩ := i_add (lo := 3) (hi := 3) z69 h_a0 r67 rfl
          refine r_ki (q_V (As := [.int v68]) (rest := []) (K := 16) (ci := 6) S X60 (c_X6_readCond_3 l G t61 q62 v68 r71 (by rw [((q63 16 5 (by decide)).trans ((M55.2 16 5 (Or.inr (by decide))).trans z2))]; exact R_of hf_0 rfl) (YT_eq hYT (fun j => ((q63 18 j (by simp [fz])).trans ((M55.2 18 j (Or.inl (by decide))).trans rfl))) (fun j => ((q63 19 j (by simp [fz])).trans ((M55.2 19 j (Or.inl (by decide))).trans rfl))))) ck6_35 (Nat.le_of_ble_eq_true rfl) rfl (fun _ => ⟨_, rfl⟩) ⟨_, _, rfl⟩ ⟨Nat.le_of_ble_eq_true rfl, Nat.le_of_ble_eq_true rfl⟩ rfl hl.1 rfl (Nat.le_of_ble_eq_true rfl) dX6_readOne_73 ⟨Nat.le_refl 0, Nat.le_refl 0⟩) X60 (fun v75 t74 H lc q72 X73 => ?_)
          unfold po_X6_readCond_3 at q72
          obtain ⟨q76, q77, q78, q79⟩ := q72
          have F80 : Fr [(16, 1), (16, 2), (17, 4), (1, 3), (1, 4), (1, 5), (1, 7), (1, 8), (16, 4)] [18, 19, 20, 201] τ t74 := Fr_call F64 q77 (by decide)
          refine r_if_eq (tgt := 92) S dX6_readOne_76 (by decide) (fun c81 => ?_) (fun c81 => ?_)
          ·
            have r82 : R (0) (0) v75 := ⟨by omega, by omega⟩
            refine r_iconst S dX6_readOne_92 (by decide) (fun v83 z84 => ?_)
            have r85 := R_eq z84
            exact r_ret S hr hlk X73 ⟨q76, F80, q78, (R_of r85 rfl)⟩ (nr_bool (R_of (lo := 0) (hi := 1) r85 rfl)) dX6_readOne_93
          ·
            have r86 : R (1) (1) v75 := ⟨by omega, by omega⟩
            refine r_aload_n S dX6_readOne_79 rfl (lv_at hl 1 rfl) ?_
            refine r_bipush S dX6_readOne_80 (by decide) (fun v87 z88 => ?_)
            have r89 := R_eq z88
            refine r_ki (q_U (As := [.int v87]) (rest := []) (K := 16) (ci := 6) S X73 (c_X8_takeSign_16 l G t74 q76 v87 (R_of (lo := 0) (hi := 65535) r89 rfl)) ck6_85_6 (Nat.le_of_ble_eq_true rfl) rfl (fun _ => ⟨_, rfl⟩) ⟨_, _, rfl⟩ ⟨Nat.le_of_ble_eq_true rfl, Nat.le_of_ble_eq_true rfl⟩ rfl hl.1 rfl (Nat.le_of_ble_eq_true rfl) dX6_readOne_82 ⟨Nat.le_refl 0, Nat.le_refl 0⟩) X73 (fun v93 t92 H lc q90 X91 => ?_)
            unfold po_X8_takeSign_16 at q90
            obtain ⟨q94, q95, q96⟩ := q90
            have F97 : Fr [(16, 1), (16, 2), (17, 4), (1, 3), (1, 4), (1, 5), (1, 7), (1, 8), (16, 4)] [18, 19, 20, 201] τ t92 := Fr_call F80 q95 (by decide)
            refine r_if_eq (tgt := 92) S dX6_readOne_85 (by decide) (fun c98 => ?_) (fun c98 => ?_)
            ·
              have r99 : R (0) (0) v93 := ⟨by omega, by omega⟩
              refine r_iconst S dX6_readOne_92 (by decide) (fun v100 z101 => ?_)
              have r102 := R_eq z101
              exact r_ret S hr hlk X91 ⟨q94, F97, (YT_eq q78 (fun j => ((q95 18 j (by simp [fz])).trans rfl)) (fun j => ((q95 19 j (by simp [fz])).trans rfl))), (R_of r102 rfl)⟩ (nr_bool (R_of (lo := 0) (hi := 1) r102 rfl)) dX6_readOne_93
            ·
              have r103 : R (1) (1) v93 := ⟨by omega, by omega⟩
              refine r_iconst S dX6_readOne_88 (by decide) (fun v104 z105 => ?_)
              have r106 := R_eq z105
              refine r_goto (tgt := 93) S dX6_readOne_89 (by decide) ?_
              exact r_ret S hr hlk X91 ⟨q94, F97, (YT_eq q78 (fun j => ((q95 18 j (by simp [fz])).trans rfl)) (fun j => ((q95 19 j (by simp [fz])).trans rfl))), (R_of r106 rfl)⟩ (nr_bool (R_of (lo := 0) (hi := 1) r106 rfl)) dX6_readOne_93
        ·
          exfalso; omega
    ·
      have r107 : R (0) (0) v18 := ⟨by omega, by omega⟩
      refine r_aload_n S dX6_readOne_21 rfl (lv_at hl 1 rfl) ?_
      refine r_iconst S dX6_readOne_22 (by decide) (fun v108 z109 => ?_)
      have r110 := R_eq z109
      refine r_ki (q_U (As := [.int v108]) (rest := []) (K := 16) (ci := 6) S X16 (c_X8_fail_16 l G τ hI v108 (R_of (lo := -2147483648) (hi := 2147483647) r110 rfl)) ck6_48_6 (Nat.le_of_ble_eq_true rfl) rfl (fun _ => ⟨_, rfl⟩) ⟨_, _, rfl⟩ ⟨Nat.le_of_ble_eq_true rfl, Nat.le_of_ble_eq_true rfl⟩ rfl hl.1 rfl (Nat.le_of_ble_eq_true rfl) dX6_readOne_23 ⟨Nat.le_refl 0, Nat.le_refl 0⟩) X16 (fun v114 t113 H lc q111 X112 => ?_)
      unfold po_X8_fail_16 at q111
      obtain ⟨q115, q116, q117⟩ := q111
      have F118 : Fr [(16, 1), (16, 2), (17, 4), (1, 3), (1, 4), (1, 5), (1, 7), (1, 8), (16, 4)] [18, 19, 20, 201] τ t113 := Fr_call Fr_rfl q116 (by decide)
      exact r_ret S hr hlk X112 ⟨q115, F118, (YT_eq hYT (fun j => ((q116 18 j (by simp [fz])).trans rfl)) (fun j => ((q116 19 j (by simp [fz])).trans rfl))), (R_of q117 rfl)⟩ (nr_bool (R_of (lo := 0) (hi := 1) q117 rfl)) dX6_readOne_26
  ·
    unfold po_X6_firstWord at q3
    obtain ⟨q119, q120⟩ := q3
    rw [q119] at X4
    refine r_astore_n (lv' := [(2, .ref (G.2.2.1 w8)), (0, .ref (G.2.2.2.1 16)), (1, .int a0)]) S dX6_readOne_4 rfl hl (by decide) rfl (fun ls hl => ?_)
    refine r_aload_n S dX6_readOne_5 rfl (lv_at hl 0 rfl) ?_
    refine lv_ifnonnull (tgt := 27) S.1.1 S.1.2.1 dX6_readOne_6 (by decide) ?_
    refine r_aload_n S dX6_readOne_27 rfl (lv_at hl 1 rfl) ?_
    refine r_getn (K := 16) S X4 (Nat.le_of_ble_eq_true rfl) rfl lk6_28_6 (fun _ => ⟨_, rfl, rfl⟩) dX6_readOne_28 (fun v121 z122 => ?_)
    have r123 : R (0) (20) v121 := rd hI rfl z122
    refine r_bipush S dX6_readOne_31 (by decide) (fun v124 z125 => ?_)
    have r126 := R_eq z125
    refine r_icmp_ge (tgt := 42) S dX6_readOne_33 (by decide) (fun c127 => ?_) (fun c127 => ?_)
    ·
      have r128 : R (20) (20) v121 := ⟨by omega, by omega⟩
      refine r_aload_n S dX6_readOne_42 rfl (lv_at hl 1 rfl) ?_
      refine r_iconst S dX6_readOne_43 (by decide) (fun v129 z130 => ?_)
      have r131 := R_eq z130
      refine r_ki (q_U (As := [.int v129]) (rest := []) (K := 16) (ci := 6) S X4 (c_X8_fail_16 l G τ hI v129 (R_of (lo := -2147483648) (hi := 2147483647) r131 rfl)) ck6_48_6 (Nat.le_of_ble_eq_true rfl) rfl (fun _ => ⟨_, rfl⟩) ⟨_, _, rfl⟩ ⟨Nat.le_of_ble_eq_true rfl, Nat.le_of_ble_eq_true rfl⟩ rfl hl.1 rfl (Nat.le_of_ble_eq_true rfl) dX6_readOne_44 ⟨Nat.le_refl 0, Nat.le_refl 0⟩) X4 (fun v135 t134 H lc q132 X133 => ?_)
      unfold po_X8_fail_16 at q132
      obtain ⟨q136, q137, q138⟩ := q132
      have F139 : Fr [(16, 1), (16, 2), (17, 4), (1, 3), (1, 4), (1, 5), (1, 7), (1, 8), (16, 4)] [18, 19, 20, 201] τ t134 := Fr_call Fr_rfl q137 (by decide)
      exact r_ret S hr hlk X133 ⟨q136, F139, (YT_eq hYT (fun j => ((q137 18 j (by simp [fz])).trans rfl)) (fun j => ((q137 19 j (by simp [fz])).trans rfl))), (R_of q138 rfl)⟩ (nr_bool (R_of (lo := 0) (hi := 1) q138 rfl)) dX6_readOne_47
    ·
      have r140 : R (0) (19) v121 := ⟨by omega, by omega⟩
      refine r_iload_n S dX6_readOne_36 rfl (lv_at hl 2 rfl) ?_
      refine r_bipush S dX6_readOne_37 (by decide) (fun v141 z142 => ?_)
      have r143 := R_eq z142
      refine r_icmp_le (tgt := 48) S dX6_readOne_39 (by decide) (fun c144 => ?_) (fun c144 => ?_)
      ·
        refine r_aload_n S dX6_readOne_48 rfl (lv_at hl 1 rfl) ?_
        refine r_dup S dX6_readOne_49 rfl ?_
        refine r_geti (K := 16) S X4 (Nat.le_of_ble_eq_true rfl) rfl lk6_28_6 (fun _ => ⟨_, rfl, rfl⟩) z122 dX6_readOne_50 ?_
        refine r_iconst S dX6_readOne_53 (by decide) (fun v145 z146 => ?_)
        have r147 := R_eq z146
        refine r_iadd S dX6_readOne_54 (fun v148 z149 => ?_)
        obtain ⟨e150, r151⟩ := i_add (lo := 1) (hi := 20) z149 r140 r147 rfl
        refine r_put (K := 16) (ty := .int) S X4 (Nat.le_of_ble_eq_true rfl) rfl lk6_28_6 (fun _ => ⟨_, rfl, Nat.le_of_ble_eq_true rfl, rfl⟩) (fun _ _ _ h => by cases h; exact ⟨rfl, rfl⟩) rfl rfl dX6_readOne_55 (fun t152 H lc M153 X154 => ?_)
        have I155 := Inv_mu hI M153 (show Rg (kd 16) 4 v148 from (R_of (lo := 0) (hi := 20) r151 rfl))
        have F156 : Fr [(16, 1), (16, 2), (17, 4), (1, 3), (1, 4), (1, 5), (1, 7), (1, 8), (16, 4)] [18, 19, 20, 201] τ t152 := Fr_mu Fr_rfl M153 (by decide)
        refine r_aload_n S dX6_readOne_58 rfl (lv_at hl 1 rfl) ?_
        refine r_get (K := 16) (v := .ref (G.2.2.2.1 1)) S X154 (Nat.le_of_ble_eq_true rfl) rfl lk6_39_6 (fun _ => ⟨_, rfl, rfl⟩) dX6_readOne_59 ?_
        refine r_kv (q_V (As := []) (rest := []) (K := 1) (ci := 7) S X154 (c_X7_step l G t152 I155 ) ck6_64 (Nat.le_of_ble_eq_true rfl) rfl (fun _ => ⟨_, rfl⟩) ⟨_, _, rfl⟩ ⟨Nat.le_of_ble_eq_true rfl, Nat.le_of_ble_eq_true rfl⟩ rfl hl.1 rfl (Nat.le_of_ble_eq_true rfl) dX6_readOne_62 ⟨Nat.le_refl 0, Nat.le_refl 0⟩) X154 (fun t159 H lc q157 X158 => ?_)
        unfold po_X7_step at q157
        obtain ⟨q160, q161⟩ := q157
        have F162 : Fr [(16, 1), (16, 2), (17, 4), (1, 3), (1, 4), (1, 5), (1, 7), (1, 8), (16, 4)] [18, 19, 20, 201] τ t159 := Fr_call F156 q161 (by decide)
        refine r_aload_n S dX6_readOne_65 rfl (lv_at hl 0 rfl) ?_
        refine lv_ifnonnull (tgt := 94) S.1.1 S.1.2.1 dX6_readOne_66 (by decide) ?_
        refine r_aload_n S dX6_readOne_94 rfl (lv_at hl 0 rfl) ?_
        refine r_wst (i := 15) S X158 (by decide) kw74 dX6_readOne_95 ?_
        refine r_cacmp_ne (tgt := 127) S h_w8 (by decide) dX6_readOne_98 (by decide) (fun c163 => ?_) (fun c163 => ?_)
        ·
          refine r_aload_n S dX6_readOne_127 rfl (lv_at hl 1 rfl) ?_
          refine r_aload_n S dX6_readOne_128 rfl (lv_at hl 0 rfl) ?_
          refine r_ki (q_V (As := [.ref (G.2.2.1 w8)]) (rest := []) (K := 16) (ci := 6) S X158 (c_X6_readPlainOne l G t159 q160 w8 h_w8 (by rw [((q161 16 5 (by decide)).trans ((M153.2 16 5 (Or.inr (by decide))).trans z2))]; exact R_of hf_0 rfl) (YT_eq hYT (fun j => ((q161 18 j (by simp [fz])).trans ((M153.2 18 j (Or.inl (by decide))).trans rfl))) (fun j => ((q161 19 j (by simp [fz])).trans ((M153.2 19 j (Or.inl (by decide))).trans rfl))))) ck6_91 (Nat.le_of_ble_eq_true rfl) rfl (fun _ => ⟨_, rfl⟩) ⟨_, _, rfl⟩ ⟨Nat.le_of_ble_eq_true rfl, Nat.le_of_ble_eq_true rfl⟩ rfl hl.1 rfl (Nat.le_of_ble_eq_true rfl) dX6_readOne_129 ⟨Nat.le_refl 0, Nat.le_refl 0⟩) X158 (fun v167 t166 H lc q164 X165 => ?_)
          unfold po_X6_readPlainOne at q164
          obtain ⟨q168, q169, q170, q171⟩ := q164
          have F172 : Fr [(16, 1), (16, 2), (17, 4), (1, 3), (1, 4), (1, 5), (1, 7), (1, 8), (16, 4)] [18, 19, 20, 201] τ t166 := Fr_call F162 q169 (by decide)
          exact r_ret S hr hlk X165 ⟨q168, F172, q170, q171⟩ (nr_bool (R_of (lo := 0) (hi := 1) q171 rfl)) dX6_readOne_132
        ·
          refine r_aload_n S dX6_readOne_101 rfl (lv_at hl 1 rfl) ?_
          refine r_iload_n S dX6_readOne_102 rfl (lv_at hl 2 rfl) ?_
          refine r_iconst S dX6_readOne_103 (by decide) (fun v173 z174 => ?_)
          have r175 := R_eq z174
          refine r_iadd S dX6_readOne_104 (fun v176 z177 => ?_)
          obtain ⟨e178, r179⟩ := i_add (lo := 3) (hi := 3) z177 h_a0 r175 rfl
          refine r_ki (q_V (As := [.int v176]) (rest := []) (K := 16) (ci := 6) S X158 (c_X6_readOne_3 l G t159 q160 v176 r179 (by rw [((q161 16 5 (by decide)).trans ((M153.2 16 5 (Or.inr (by decide))).trans z2))]; exact R_of hf_0 rfl) (YT_eq hYT (fun j => ((q161 18 j (by simp [fz])).trans ((M153.2 18 j (Or.inl (by decide))).trans rfl))) (fun j => ((q161 19 j (by simp [fz])).trans ((M153.2 19 j (Or.inl (by decide))).trans rfl))))) ck6_71 (Nat.le_of_ble_eq_true rfl) rfl (fun _ => ⟨_, rfl⟩) ⟨_, _, rfl⟩ ⟨Nat.le_of_ble_eq_true rfl, Nat.le_of_ble_eq_true rfl⟩ rfl hl.1 rfl (Nat.le_of_ble_eq_true rfl) dX6_readOne_105 ⟨Nat.le_refl 0, Nat.le_refl 0⟩) X158 (fun v183 t182 H lc q180 X181 => ?_)
          unfold po_X6_readOne_3 at q180
          obtain ⟨q184, q185, q186, q187⟩ := q180
          have F188 : Fr [(16, 1), (16, 2), (17, 4), (1, 3), (1, 4), (1, 5), (1, 7), (1, 8), (16, 4)] [18, 19, 20, 201] τ t182 := Fr_call F162 q185 (by decide)
          refine r_if_ne (tgt := 113) S dX6_readOne_108 (by decide) (fun c189 => ?_) (fun c189 => ?_)
          ·
            have r190 : R (1) (1) v183 := ⟨by omega, by omega⟩
            refine r_aload_n S dX6_readOne_113 rfl (lv_at hl 1 rfl) ?_
            refine r_get (K := 16) (v := .ref (G.2.2.2.1 17)) S X181 (Nat.le_of_ble_eq_true rfl) rfl lk6_14_6 (fun _ => ⟨_, rfl, rfl⟩) dX6_readOne_114 ?_
            refine r_wst (i := 15) S X181 (by decide) kw74 dX6_readOne_117 ?_
            refine r_iconst S dX6_readOne_120 (by decide) (fun v191 z192 => ?_)
            have r193 := R_eq z192
            refine r_iconst S dX6_readOne_121 (by decide) (fun v194 z195 => ?_)
            have r196 := R_eq z195
            refine r_kv (q_V (As := [.ref (G.2.2.1 15), .int v191, .int v194]) (rest := []) (K := 17) (ci := 5) S X181 (c_X5_add l G t182 q184 15 (by decide) v191 v194 (R_of (lo := -2147483648) (hi := 2147483647) r193 rfl) (R_of (lo := 0) (hi := 99) r196 rfl) q186 (by omega)) ck6_67 (Nat.le_of_ble_eq_true rfl) rfl (fun _ => ⟨_, rfl⟩) ⟨_, _, rfl⟩ ⟨Nat.le_of_ble_eq_true rfl, Nat.le_of_ble_eq_true rfl⟩ rfl hl.1 rfl (Nat.le_of_ble_eq_true rfl) dX6_readOne_122 ⟨Nat.le_refl 0, Nat.le_refl 0⟩) X181 (fun t199 H lc q197 X198 => ?_)
            unfold po_X5_add at q197
            obtain ⟨q200, q201, q202⟩ := q197
            have F203 : Fr [(16, 1), (16, 2), (17, 4), (1, 3), (1, 4), (1, 5), (1, 7), (1, 8), (16, 4)] [18, 19, 20, 201] τ t199 := Fr_call F188 q201 (by decide)
            refine r_iconst S dX6_readOne_125 (by decide) (fun v204 z205 => ?_)
            have r206 := R_eq z205
            exact r_ret S hr hlk X198 ⟨q200, F203, q202, (R_of r206 rfl)⟩ (nr_bool (R_of (lo := 0) (hi := 1) r206 rfl)) dX6_readOne_126
          ·
            have r207 : R (0) (0) v183 := ⟨by omega, by omega⟩
            refine r_iconst S dX6_readOne_111 (by decide) (fun v208 z209 => ?_)
            have r210 := R_eq z209
            exact r_ret S hr hlk X181 ⟨q184, F188, q186, (R_of r210 rfl)⟩ (nr_bool (R_of (lo := 0) (hi := 1) r210 rfl)) dX6_readOne_112
      ·
        exfalso; omega
def po_X6_readAll_2 (τ : Tau)  (a0 : Int32)   (r : Int32) (u : Tau) : Prop := Inv u ∧ Fr [(16, 1), (16, 2), (17, 4), (1, 3), (1, 4), (1, 5), (1, 7), (1, 8), (16, 4)] [18, 19, 20, 201] τ u ∧ YT u ∧ R (0) (1) r
set_option maxHeartbeats 4000000 in
set_option maxRecDepth 100000 in
theorem c_X6_readAll_2 (l : Launch) (G : Gx) (τ : Tau) (hI : Inv τ) (a0 : Int32) (h_a0 : R (2) (2) a0) (hf_0 : R (1) (1) (τ 16 5)) (hYT : YT τ) : Ci l G yX6_readAll cX6_readAll 3 (some .boolean) 25 545 [.ref (G.2.2.2.1 16), .int a0] τ (po_X6_readAll_2 τ  a0  ) := by
  unfold Ci
  refine C_of (own := RX6) (by decide) rfl (Nat.le_of_ble_eq_true rfl) ?_
  intro p e s m below meth c ls S hr hlk X hl
  have hl : lv_has ls 3 [(0, .ref (G.2.2.2.1 16)), (1, .int a0)] := hl
  obtain ⟨v1, z2⟩ : ∃ x, τ 16 5 = x := ⟨_, rfl⟩
  rw [z2] at hf_0
  refine r_aload_n S dX6_readAll_0 rfl (lv_at hl 0 rfl) ?_
  refine r_iload_n S dX6_readAll_1 rfl (lv_at hl 1 rfl) ?_
  refine r_ki (q_V (As := [.int a0]) (rest := []) (K := 16) (ci := 6) S X (c_X6_readOne_2 l G τ hI a0 h_a0 (by rw [z2]; exact R_of hf_0 rfl) hYT) ck6_71 (Nat.le_of_ble_eq_true rfl) rfl (fun _ => ⟨_, rfl⟩) ⟨_, _, rfl⟩ ⟨Nat.le_of_ble_eq_true rfl, Nat.le_of_ble_eq_true rfl⟩ rfl hl.1 rfl (Nat.le_of_ble_eq_true rfl) dX6_readAll_2 ⟨Nat.le_refl 0, Nat.le_refl 0⟩) X (fun v6 t5 H lc q3 X4 => ?_)
  unfold po_X6_readOne_2 at q3
  obtain ⟨q7, q8, q9, q10⟩ := q3
  have F11 : Fr [(16, 1), (16, 2), (17, 4), (1, 3), (1, 4), (1, 5), (1, 7), (1, 8), (16, 4)] [18, 19, 20, 201] τ t5 := Fr_call Fr_rfl q8 (by decide)
  refine r_if_ne (tgt := 10) S dX6_readAll_5 (by decide) (fun c12 => ?_) (fun c12 => ?_)
  ·
    have r13 : R (1) (1) v6 := ⟨by omega, by omega⟩
    refine r_iconst S dX6_readAll_10 (by decide) (fun v14 z15 => ?_)
    have r16 := R_eq z15
    refine r_istore_n (lv' := [(2, .int v14), (0, .ref (G.2.2.2.1 16)), (1, .int a0)]) S dX6_readAll_11 rfl hl (by decide) rfl (fun ls hl => ?_)
    have L660 : ∀ (n : Nat) (t654 : Tau) (H : Heap) (lc : List Loc) (ls : Array Slot) (i652 : Int32), Xd G s H lc t654 → Inv t654 → Fr [(16, 1), (16, 2), (17, 4), (1, 3), (1, 4), (1, 5), (1, 7), (1, 8), (16, 4)] [18, 19, 20, 201] τ t654 → YT t654 → R (0) (24) i652 → t654 16 5 = v1 → lv_has ls 3 [(0, .ref (G.2.2.2.1 16)), (1, .int a0), (2, .int i652)] → (24 - i652.toInt).toNat < n → W p l e (Rm 25 545) s m ([.ref (G.2.2.2.1 16), .int a0] : List Value).toArray below meth c H lc 0 0 (MQ below (va_Qi (po_X6_readAll_2 τ  a0  ) (Bs G) G.2.2.2.2) ([.ref (G.2.2.2.1 16), .int a0] : List Value).toArray s 0 0 G.2.2.2.2) (F0 m 12 ls []) := by
      intro n
      induction n with
      | zero => intros; omega
      | succ n ih661 =>
        intro t654 H lc ls i652 X658 I655 F656 hYT657 r653 z659 hl hm
        refine r_iload_n S dX6_readAll_12 rfl (lv_at hl 2 rfl) ?_
        refine r_bipush S dX6_readAll_13 (by decide) (fun v662 z663 => ?_)
        have r664 := R_eq z663
        refine r_icmp_gt (tgt := 66) S dX6_readAll_15 (by decide) (fun c665 => ?_) (fun c665 => ?_)
        ·
          have r666 : R (21) (24) i652 := ⟨by omega, by omega⟩
          refine r_iconst S dX6_readAll_66 (by decide) (fun v667 z668 => ?_)
          have r669 := R_eq z668
          exact r_ret S hr hlk X658 ⟨I655, F656, hYT657, (R_of r669 rfl)⟩ (nr_bool (R_of (lo := 0) (hi := 1) r669 rfl)) dX6_readAll_67
        ·
          have r670 : R (0) (20) i652 := ⟨by omega, by omega⟩
          refine r_aload_n S dX6_readAll_18 rfl (lv_at hl 0 rfl) ?_
          refine r_get (K := 16) (v := .ref (G.2.2.2.1 1)) S X658 (Nat.le_of_ble_eq_true rfl) rfl lk6_39_6 (fun _ => ⟨_, rfl, rfl⟩) dX6_readAll_19 ?_
          refine r_wst (i := 14) S X658 (by decide) kw81 dX6_readAll_22 ?_
          refine r_ki (q_V (As := [.ref (G.2.2.1 14)]) (rest := []) (K := 1) (ci := 7) S X658 (c_X7_is l G t654 I655 14 (by decide)) ck6_60 (Nat.le_of_ble_eq_true rfl) rfl (fun _ => ⟨_, rfl⟩) ⟨_, _, rfl⟩ ⟨Nat.le_of_ble_eq_true rfl, Nat.le_of_ble_eq_true rfl⟩ rfl hl.1 rfl (Nat.le_of_ble_eq_true rfl) dX6_readAll_25 ⟨Nat.le_refl 0, Nat.le_refl 0⟩) X658 (fun v674 t673 H lc q671 X672 => ?_)
          unfold po_X7_is at q671
          obtain ⟨q675, q676⟩ := q671
          rw [q675] at X672
          refine r_if_eq (tgt := 66) S dX6_readAll_28 (by decide) (fun c677 => ?_) (fun c677 => ?_)
          ·
            have r678 : R (0) (0) v674 := ⟨by omega, by omega⟩
            refine r_iconst S dX6_readAll_66 (by decide) (fun v679 z680 => ?_)
            have r681 := R_eq z680
            exact r_ret S hr hlk X672 ⟨I655, F656, hYT657, (R_of r681 rfl)⟩ (nr_bool (R_of (lo := 0) (hi := 1) r681 rfl)) dX6_readAll_67
          ·
            have r682 : R (1) (1) v674 := ⟨by omega, by omega⟩
            refine r_aload_n S dX6_readAll_31 rfl (lv_at hl 0 rfl) ?_
            refine r_get (K := 16) (v := .ref (G.2.2.2.1 1)) S X672 (Nat.le_of_ble_eq_true rfl) rfl lk6_39_6 (fun _ => ⟨_, rfl, rfl⟩) dX6_readAll_32 ?_
            refine r_kv (q_V (As := []) (rest := []) (K := 1) (ci := 7) S X672 (c_X7_step l G t654 I655 ) ck6_64 (Nat.le_of_ble_eq_true rfl) rfl (fun _ => ⟨_, rfl⟩) ⟨_, _, rfl⟩ ⟨Nat.le_of_ble_eq_true rfl, Nat.le_of_ble_eq_true rfl⟩ rfl hl.1 rfl (Nat.le_of_ble_eq_true rfl) dX6_readAll_35 ⟨Nat.le_refl 0, Nat.le_refl 0⟩) X672 (fun t685 H lc q683 X684 => ?_)
            unfold po_X7_step at q683
            obtain ⟨q686, q687⟩ := q683
            have F688 : Fr [(16, 1), (16, 2), (17, 4), (1, 3), (1, 4), (1, 5), (1, 7), (1, 8), (16, 4)] [18, 19, 20, 201] τ t685 := Fr_call F656 q687 (by decide)
            refine r_aload_n S dX6_readAll_38 rfl (lv_at hl 0 rfl) ?_
            refine r_iload_n S dX6_readAll_39 rfl (lv_at hl 1 rfl) ?_
            refine r_ki (q_V (As := [.int a0]) (rest := []) (K := 16) (ci := 6) S X684 (c_X6_readOne_2 l G t685 q686 a0 h_a0 (by rw [((q687 16 5 (by decide)).trans z659)]; exact R_of hf_0 rfl) (YT_eq hYT657 (fun j => ((q687 18 j (by simp [fz])).trans rfl)) (fun j => ((q687 19 j (by simp [fz])).trans rfl)))) ck6_71 (Nat.le_of_ble_eq_true rfl) rfl (fun _ => ⟨_, rfl⟩) ⟨_, _, rfl⟩ ⟨Nat.le_of_ble_eq_true rfl, Nat.le_of_ble_eq_true rfl⟩ rfl hl.1 rfl (Nat.le_of_ble_eq_true rfl) dX6_readAll_40 ⟨Nat.le_refl 0, Nat.le_refl 0⟩) X684 (fun v692 t691 H lc q689 X690 => ?_)
            unfold po_X6_readOne_2 at q689
            obtain ⟨q693, q694, q695, q696⟩ := q689
            have F697 : Fr [(16, 1), (16, 2), (17, 4), (1, 3), (1, 4), (1, 5), (1, 7), (1, 8), (16, 4)] [18, 19, 20, 201] τ t691 := Fr_call F688 q694 (by decide)
            refine r_if_ne (tgt := 48) S dX6_readAll_43 (by decide) (fun c698 => ?_) (fun c698 => ?_)
            ·
              have r699 : R (1) (1) v692 := ⟨by omega, by omega⟩
              refine r_aload_n S dX6_readAll_48 rfl (lv_at hl 0 rfl) ?_
              refine r_get (K := 16) (v := .ref (G.2.2.2.1 17)) S X690 (Nat.le_of_ble_eq_true rfl) rfl lk6_14_6 (fun _ => ⟨_, rfl, rfl⟩) dX6_readAll_49 ?_
              refine r_wst (i := 14) S X690 (by decide) kw81 dX6_readAll_52 ?_
              refine r_iconst S dX6_readAll_55 (by decide) (fun v700 z701 => ?_)
              have r702 := R_eq z701
              refine r_iconst S dX6_readAll_56 (by decide) (fun v703 z704 => ?_)
              have r705 := R_eq z704
              refine r_kv (q_V (As := [.ref (G.2.2.1 14), .int v700, .int v703]) (rest := []) (K := 17) (ci := 5) S X690 (c_X5_add l G t691 q693 14 (by decide) v700 v703 (R_of (lo := -2147483648) (hi := 2147483647) r702 rfl) (R_of (lo := 0) (hi := 99) r705 rfl) q695 (by omega)) ck6_67 (Nat.le_of_ble_eq_true rfl) rfl (fun _ => ⟨_, rfl⟩) ⟨_, _, rfl⟩ ⟨Nat.le_of_ble_eq_true rfl, Nat.le_of_ble_eq_true rfl⟩ rfl hl.1 rfl (Nat.le_of_ble_eq_true rfl) dX6_readAll_57 ⟨Nat.le_refl 0, Nat.le_refl 0⟩) X690 (fun t708 H lc q706 X707 => ?_)
              unfold po_X5_add at q706
              obtain ⟨q709, q710, q711⟩ := q706
              have F712 : Fr [(16, 1), (16, 2), (17, 4), (1, 3), (1, 4), (1, 5), (1, 7), (1, 8), (16, 4)] [18, 19, 20, 201] τ t708 := Fr_call F697 q710 (by decide)
              refine r_iinc (k := 2) S dX6_readAll_60 hl rfl (by decide) (by decide) (fun v713 d714 ls z715 z716 hl => ?_)
              obtain ⟨e717, r718⟩ := i_add (lo := 1) (hi := 21) z715 r670 (R_eq z716) rfl
              have hl : lv_has ls 3 [(2, .int v713), (0, .ref (G.2.2.2.1 16)), (1, .int a0)] := hl
              refine r_goto (tgt := 12) S dX6_readAll_63 (by decide) ?_
              exact ih661 t708 _ _ _ v713 X707 q709 F712 q711 (R_of r718 rfl) ((q710 16 5 (by decide)).trans ((q694 16 5 (by decide)).trans ((q687 16 5 (by decide)).trans z659))) (lv_sub hl [1, 2, 0] rfl) (by omega)
            ·
              have r719 : R (0) (0) v692 := ⟨by omega, by omega⟩
              refine r_iconst S dX6_readAll_46 (by decide) (fun v720 z721 => ?_)
              have r722 := R_eq z721
              exact r_ret S hr hlk X690 ⟨q693, F697, q695, (R_of r722 rfl)⟩ (nr_bool (R_of (lo := 0) (hi := 1) r722 rfl)) dX6_readAll_47
    exact L660 _ t5 _ _ _ v14 X4 q7 F11 q9 (R_of r16 rfl) ((q8 16 5 (by decide)).trans z2) (lv_sub hl [1, 2, 0] rfl) (Nat.lt_succ_self _)
  ·
    have r723 : R (0) (0) v6 := ⟨by omega, by omega⟩
    refine r_iconst S dX6_readAll_8 (by decide) (fun v724 z725 => ?_)
    have r726 := R_eq z725
    exact r_ret S hr hlk X4 ⟨q7, F11, q9, (R_of r726 rfl)⟩ (nr_bool (R_of (lo := 0) (hi := 1) r726 rfl)) dX6_readAll_9
def po_X6_readCond_2 (τ : Tau)  (a0 : Int32)   (r : Int32) (u : Tau) : Prop := Inv u ∧ Fr [(16, 1), (16, 2), (17, 4), (1, 3), (1, 4), (1, 5), (1, 7), (1, 8), (16, 4)] [18, 19, 20, 201] τ u ∧ YT u ∧ R (0) (1) r
set_option maxHeartbeats 4000000 in
set_option maxRecDepth 100000 in
theorem c_X6_readCond_2 (l : Launch) (G : Gx) (τ : Tau) (hI : Inv τ) (a0 : Int32) (h_a0 : R (2) (2) a0) (hf_0 : R (1) (1) (τ 16 5)) (hYT : YT τ) : Ci l G yX6_readCond cX6_readCond 3 (some .boolean) 26 567 [.ref (G.2.2.2.1 16), .int a0] τ (po_X6_readCond_2 τ  a0  ) := by
  unfold Ci
  refine C_of (own := RX6) (by decide) rfl (Nat.le_of_ble_eq_true rfl) ?_
  intro p e s m below meth c ls S hr hlk X hl
  have hl : lv_has ls 3 [(0, .ref (G.2.2.2.1 16)), (1, .int a0)] := hl
  obtain ⟨v1, z2⟩ : ∃ x, τ 16 5 = x := ⟨_, rfl⟩
  rw [z2] at hf_0
  refine r_aload_n S dX6_readCond_0 rfl (lv_at hl 0 rfl) ?_
  refine r_iload_n S dX6_readCond_1 rfl (lv_at hl 1 rfl) ?_
  refine r_ki (q_V (As := [.int a0]) (rest := []) (K := 16) (ci := 6) S X (c_X6_readAll_2 l G τ hI a0 h_a0 (by rw [z2]; exact R_of hf_0 rfl) hYT) ck6_51 (Nat.le_of_ble_eq_true rfl) rfl (fun _ => ⟨_, rfl⟩) ⟨_, _, rfl⟩ ⟨Nat.le_of_ble_eq_true rfl, Nat.le_of_ble_eq_true rfl⟩ rfl hl.1 rfl (Nat.le_of_ble_eq_true rfl) dX6_readCond_2 ⟨Nat.le_refl 0, Nat.le_refl 0⟩) X (fun v6 t5 H lc q3 X4 => ?_)
  unfold po_X6_readAll_2 at q3
  obtain ⟨q7, q8, q9, q10⟩ := q3
  have F11 : Fr [(16, 1), (16, 2), (17, 4), (1, 3), (1, 4), (1, 5), (1, 7), (1, 8), (16, 4)] [18, 19, 20, 201] τ t5 := Fr_call Fr_rfl q8 (by decide)
  refine r_if_ne (tgt := 10) S dX6_readCond_5 (by decide) (fun c12 => ?_) (fun c12 => ?_)
  ·
    have r13 : R (1) (1) v6 := ⟨by omega, by omega⟩
    refine r_iconst S dX6_readCond_10 (by decide) (fun v14 z15 => ?_)
    have r16 := R_eq z15
    refine r_istore_n (lv' := [(2, .int v14), (0, .ref (G.2.2.2.1 16)), (1, .int a0)]) S dX6_readCond_11 rfl hl (by decide) rfl (fun ls hl => ?_)
    have L660 : ∀ (n : Nat) (t654 : Tau) (H : Heap) (lc : List Loc) (ls : Array Slot) (i652 : Int32), Xd G s H lc t654 → Inv t654 → Fr [(16, 1), (16, 2), (17, 4), (1, 3), (1, 4), (1, 5), (1, 7), (1, 8), (16, 4)] [18, 19, 20, 201] τ t654 → YT t654 → R (0) (24) i652 → t654 16 5 = v1 → lv_has ls 3 [(0, .ref (G.2.2.2.1 16)), (1, .int a0), (2, .int i652)] → (24 - i652.toInt).toNat < n → W p l e (Rm 26 567) s m ([.ref (G.2.2.2.1 16), .int a0] : List Value).toArray below meth c H lc 0 0 (MQ below (va_Qi (po_X6_readCond_2 τ  a0  ) (Bs G) G.2.2.2.2) ([.ref (G.2.2.2.1 16), .int a0] : List Value).toArray s 0 0 G.2.2.2.2) (F0 m 12 ls []) := by
      intro n
      induction n with
      | zero => intros; omega
      | succ n ih661 =>
        intro t654 H lc ls i652 X658 I655 F656 hYT657 r653 z659 hl hm
        refine r_iload_n S dX6_readCond_12 rfl (lv_at hl 2 rfl) ?_
        refine r_bipush S dX6_readCond_13 (by decide) (fun v662 z663 => ?_)
        have r664 := R_eq z663
        refine r_icmp_gt (tgt := 66) S dX6_readCond_15 (by decide) (fun c665 => ?_) (fun c665 => ?_)
        ·
          have r666 : R (21) (24) i652 := ⟨by omega, by omega⟩
          refine r_iconst S dX6_readCond_66 (by decide) (fun v667 z668 => ?_)
          have r669 := R_eq z668
          exact r_ret S hr hlk X658 ⟨I655, F656, hYT657, (R_of r669 rfl)⟩ (nr_bool (R_of (lo := 0) (hi := 1) r669 rfl)) dX6_readCond_67
        ·
          have r670 : R (0) (20) i652 := ⟨by omega, by omega⟩
          refine r_aload_n S dX6_readCond_18 rfl (lv_at hl 0 rfl) ?_
          refine r_get (K := 16) (v := .ref (G.2.2.2.1 1)) S X658 (Nat.le_of_ble_eq_true rfl) rfl lk6_39_6 (fun _ => ⟨_, rfl, rfl⟩) dX6_readCond_19 ?_
          refine r_wst (i := 13) S X658 (by decide) kw82 dX6_readCond_22 ?_
          refine r_ki (q_V (As := [.ref (G.2.2.1 13)]) (rest := []) (K := 1) (ci := 7) S X658 (c_X7_is l G t654 I655 13 (by decide)) ck6_60 (Nat.le_of_ble_eq_true rfl) rfl (fun _ => ⟨_, rfl⟩) ⟨_, _, rfl⟩ ⟨Nat.le_of_ble_eq_true rfl, Nat.le_of_ble_eq_true rfl⟩ rfl hl.1 rfl (Nat.le_of_ble_eq_true rfl) dX6_readCond_25 ⟨Nat.le_refl 0, Nat.le_refl 0⟩) X658 (fun v674 t673 H lc q671 X672 => ?_)
          unfold po_X7_is at q671
          obtain ⟨q675, q676⟩ := q671
          rw [q675] at X672
          refine r_if_eq (tgt := 66) S dX6_readCond_28 (by decide) (fun c677 => ?_) (fun c677 => ?_)
          ·
            have r678 : R (0) (0) v674 := ⟨by omega, by omega⟩
            refine r_iconst S dX6_readCond_66 (by decide) (fun v679 z680 => ?_)
            have r681 := R_eq z680
            exact r_ret S hr hlk X672 ⟨I655, F656, hYT657, (R_of r681 rfl)⟩ (nr_bool (R_of (lo := 0) (hi := 1) r681 rfl)) dX6_readCond_67
          ·
            have r682 : R (1) (1) v674 := ⟨by omega, by omega⟩
            refine r_aload_n S dX6_readCond_31 rfl (lv_at hl 0 rfl) ?_
            refine r_get (K := 16) (v := .ref (G.2.2.2.1 1)) S X672 (Nat.le_of_ble_eq_true rfl) rfl lk6_39_6 (fun _ => ⟨_, rfl, rfl⟩) dX6_readCond_32 ?_
            refine r_kv (q_V (As := []) (rest := []) (K := 1) (ci := 7) S X672 (c_X7_step l G t654 I655 ) ck6_64 (Nat.le_of_ble_eq_true rfl) rfl (fun _ => ⟨_, rfl⟩) ⟨_, _, rfl⟩ ⟨Nat.le_of_ble_eq_true rfl, Nat.le_of_ble_eq_true rfl⟩ rfl hl.1 rfl (Nat.le_of_ble_eq_true rfl) dX6_readCond_35 ⟨Nat.le_refl 0, Nat.le_refl 0⟩) X672 (fun t685 H lc q683 X684 => ?_)
            unfold po_X7_step at q683
            obtain ⟨q686, q687⟩ := q683
            have F688 : Fr [(16, 1), (16, 2), (17, 4), (1, 3), (1, 4), (1, 5), (1, 7), (1, 8), (16, 4)] [18, 19, 20, 201] τ t685 := Fr_call F656 q687 (by decide)
            refine r_aload_n S dX6_readCond_38 rfl (lv_at hl 0 rfl) ?_
            refine r_iload_n S dX6_readCond_39 rfl (lv_at hl 1 rfl) ?_
            refine r_ki (q_V (As := [.int a0]) (rest := []) (K := 16) (ci := 6) S X684 (c_X6_readAll_2 l G t685 q686 a0 h_a0 (by rw [((q687 16 5 (by decide)).trans z659)]; exact R_of hf_0 rfl) (YT_eq hYT657 (fun j => ((q687 18 j (by simp [fz])).trans rfl)) (fun j => ((q687 19 j (by simp [fz])).trans rfl)))) ck6_51 (Nat.le_of_ble_eq_true rfl) rfl (fun _ => ⟨_, rfl⟩) ⟨_, _, rfl⟩ ⟨Nat.le_of_ble_eq_true rfl, Nat.le_of_ble_eq_true rfl⟩ rfl hl.1 rfl (Nat.le_of_ble_eq_true rfl) dX6_readCond_40 ⟨Nat.le_refl 0, Nat.le_refl 0⟩) X684 (fun v692 t691 H lc q689 X690 => ?_)
            unfold po_X6_readAll_2 at q689
            obtain ⟨q693, q694, q695, q696⟩ := q689
            have F697 : Fr [(16, 1), (16, 2), (17, 4), (1, 3), (1, 4), (1, 5), (1, 7), (1, 8), (16, 4)] [18, 19, 20, 201] τ t691 := Fr_call F688 q694 (by decide)
            refine r_if_ne (tgt := 48) S dX6_readCond_43 (by decide) (fun c698 => ?_) (fun c698 => ?_)
            ·
              have r699 : R (1) (1) v692 := ⟨by omega, by omega⟩
              refine r_aload_n S dX6_readCond_48 rfl (lv_at hl 0 rfl) ?_
              refine r_get (K := 16) (v := .ref (G.2.2.2.1 17)) S X690 (Nat.le_of_ble_eq_true rfl) rfl lk6_14_6 (fun _ => ⟨_, rfl, rfl⟩) dX6_readCond_49 ?_
              refine r_wst (i := 13) S X690 (by decide) kw82 dX6_readCond_52 ?_
              refine r_iconst S dX6_readCond_55 (by decide) (fun v700 z701 => ?_)
              have r702 := R_eq z701
              refine r_iconst S dX6_readCond_56 (by decide) (fun v703 z704 => ?_)
              have r705 := R_eq z704
              refine r_kv (q_V (As := [.ref (G.2.2.1 13), .int v700, .int v703]) (rest := []) (K := 17) (ci := 5) S X690 (c_X5_add l G t691 q693 13 (by decide) v700 v703 (R_of (lo := -2147483648) (hi := 2147483647) r702 rfl) (R_of (lo := 0) (hi := 99) r705 rfl) q695 (by omega)) ck6_67 (Nat.le_of_ble_eq_true rfl) rfl (fun _ => ⟨_, rfl⟩) ⟨_, _, rfl⟩ ⟨Nat.le_of_ble_eq_true rfl, Nat.le_of_ble_eq_true rfl⟩ rfl hl.1 rfl (Nat.le_of_ble_eq_true rfl) dX6_readCond_57 ⟨Nat.le_refl 0, Nat.le_refl 0⟩) X690 (fun t708 H lc q706 X707 => ?_)
              unfold po_X5_add at q706
              obtain ⟨q709, q710, q711⟩ := q706
              have F712 : Fr [(16, 1), (16, 2), (17, 4), (1, 3), (1, 4), (1, 5), (1, 7), (1, 8), (16, 4)] [18, 19, 20, 201] τ t708 := Fr_call F697 q710 (by decide)
              refine r_iinc (k := 2) S dX6_readCond_60 hl rfl (by decide) (by decide) (fun v713 d714 ls z715 z716 hl => ?_)
              obtain ⟨e717, r718⟩ := i_add (lo := 1) (hi := 21) z715 r670 (R_eq z716) rfl
              have hl : lv_has ls 3 [(2, .int v713), (0, .ref (G.2.2.2.1 16)), (1, .int a0)] := hl
              refine r_goto (tgt := 12) S dX6_readCond_63 (by decide) ?_
              exact ih661 t708 _ _ _ v713 X707 q709 F712 q711 (R_of r718 rfl) ((q710 16 5 (by decide)).trans ((q694 16 5 (by decide)).trans ((q687 16 5 (by decide)).trans z659))) (lv_sub hl [1, 2, 0] rfl) (by omega)
            ·
              have r719 : R (0) (0) v692 := ⟨by omega, by omega⟩
              refine r_iconst S dX6_readCond_46 (by decide) (fun v720 z721 => ?_)
              have r722 := R_eq z721
              exact r_ret S hr hlk X690 ⟨q693, F697, q695, (R_of r722 rfl)⟩ (nr_bool (R_of (lo := 0) (hi := 1) r722 rfl)) dX6_readCond_47
    exact L660 _ t5 _ _ _ v14 X4 q7 F11 q9 (R_of r16 rfl) ((q8 16 5 (by decide)).trans z2) (lv_sub hl [1, 2, 0] rfl) (Nat.lt_succ_self _)
  ·
    have r723 : R (0) (0) v6 := ⟨by omega, by omega⟩
    refine r_iconst S dX6_readCond_8 (by decide) (fun v724 z725 => ?_)
    have r726 := R_eq z725
    exact r_ret S hr hlk X4 ⟨q7, F11, q9, (R_of r726 rfl)⟩ (nr_bool (R_of (lo := 0) (hi := 1) r726 rfl)) dX6_readCond_9
def po_X6_readOne_1 (τ : Tau)  (a0 : Int32)   (r : Int32) (u : Tau) : Prop := Inv u ∧ Fr [(16, 1), (16, 2), (17, 4), (1, 3), (1, 4), (1, 5), (1, 7), (1, 8), (16, 4)] [18, 19, 20, 201] τ u ∧ YT u ∧ R (0) (1) r
set_option maxHeartbeats 4000000 in
set_option maxRecDepth 100000 in
theorem c_X6_readOne_1 (l : Launch) (G : Gx) (τ : Tau) (hI : Inv τ) (a0 : Int32) (h_a0 : R (1) (1) a0) (hf_0 : R (1) (1) (τ 16 5)) (hYT : YT τ) : Ci l G yX6_readOne cX6_readOne 3 (some .boolean) 27 589 [.ref (G.2.2.2.1 16), .int a0] τ (po_X6_readOne_1 τ  a0  ) := by
  unfold Ci
  refine C_of (own := RX6) (by decide) rfl (Nat.le_of_ble_eq_true rfl) ?_
  intro p e s m below meth c ls S hr hlk X hl
  have hl : lv_has ls 3 [(0, .ref (G.2.2.2.1 16)), (1, .int a0)] := hl
  obtain ⟨v1, z2⟩ : ∃ x, τ 16 5 = x := ⟨_, rfl⟩
  rw [z2] at hf_0
  refine r_aload_n S dX6_readOne_0 rfl (lv_at hl 0 rfl) ?_
  refine r_kw2 (q_V (As := []) (rest := []) (K := 16) (ci := 6) S X (c_X6_firstWord l G τ hI ) ck6_77 (Nat.le_of_ble_eq_true rfl) rfl (fun _ => ⟨_, rfl⟩) ⟨_, _, rfl⟩ ⟨Nat.le_of_ble_eq_true rfl, Nat.le_of_ble_eq_true rfl⟩ rfl hl.1 rfl (Nat.le_of_ble_eq_true rfl) dX6_readOne_1 ⟨Nat.le_refl 0, Nat.le_refl 0⟩) X (fun _ _ h => h.2) (fun y6 t5 H lc q3 X4 h7 => ?_) (fun y6 t5 H lc w8 q3 X4 h_w8 e9 => ?_)
  ·
    unfold po_X6_firstWord at q3
    obtain ⟨q10, q11⟩ := q3
    rw [q10] at X4
    refine lv_astore_nN (lv' := [(2, .null), (0, .ref (G.2.2.2.1 16)), (1, .int a0)]) S.1.1 S.1.2.1 dX6_readOne_4 rfl hl (by decide) rfl (fun ls hl => ?_)
    refine lv_aload_nN S.1.1 S.1.2.1 dX6_readOne_5 rfl (lv_at hl 0 rfl) ?_
    refine lv_ifnonnullN S.1.1 S.1.2.1 dX6_readOne_6 ?_
    refine r_aload_n S dX6_readOne_9 rfl (lv_at hl 1 rfl) ?_
    refine r_get (K := 16) (v := .ref (G.2.2.2.1 1)) S X4 (Nat.le_of_ble_eq_true rfl) rfl lk6_39_6 (fun _ => ⟨_, rfl, rfl⟩) dX6_readOne_10 ?_
    refine r_bipush S dX6_readOne_13 (by decide) (fun v12 z13 => ?_)
    have r14 := R_eq z13
    refine r_ki (q_V (As := [.int v12]) (rest := []) (K := 1) (ci := 7) S X4 (c_X7_isSigned l G τ hI v12 (R_of (lo := 0) (hi := 65535) r14 rfl)) ck6_81 (Nat.le_of_ble_eq_true rfl) rfl (fun _ => ⟨_, rfl⟩) ⟨_, _, rfl⟩ ⟨Nat.le_of_ble_eq_true rfl, Nat.le_of_ble_eq_true rfl⟩ rfl hl.1 rfl (Nat.le_of_ble_eq_true rfl) dX6_readOne_15 ⟨Nat.le_refl 0, Nat.le_refl 0⟩) X4 (fun v18 t17 H lc q15 X16 => ?_)
    unfold po_X7_isSigned at q15
    obtain ⟨q19, q20⟩ := q15
    rw [q19] at X16
    refine r_if_ne (tgt := 27) S dX6_readOne_18 (by decide) (fun c21 => ?_) (fun c21 => ?_)
    ·
      have r22 : R (1) (1) v18 := ⟨by omega, by omega⟩
      refine r_aload_n S dX6_readOne_27 rfl (lv_at hl 1 rfl) ?_
      refine r_getn (K := 16) S X16 (Nat.le_of_ble_eq_true rfl) rfl lk6_28_6 (fun _ => ⟨_, rfl, rfl⟩) dX6_readOne_28 (fun v23 z24 => ?_)
      have r25 : R (0) (20) v23 := rd hI rfl z24
      refine r_bipush S dX6_readOne_31 (by decide) (fun v26 z27 => ?_)
      have r28 := R_eq z27
      refine r_icmp_ge (tgt := 42) S dX6_readOne_33 (by decide) (fun c29 => ?_) (fun c29 => ?_)
      ·
        have r30 : R (20) (20) v23 := ⟨by omega, by omega⟩
        refine r_aload_n S dX6_readOne_42 rfl (lv_at hl 1 rfl) ?_
        refine r_iconst S dX6_readOne_43 (by decide) (fun v31 z32 => ?_)
        have r33 := R_eq z32
        refine r_ki (q_U (As := [.int v31]) (rest := []) (K := 16) (ci := 6) S X16 (c_X8_fail_16 l G τ hI v31 (R_of (lo := -2147483648) (hi := 2147483647) r33 rfl)) ck6_48_6 (Nat.le_of_ble_eq_true rfl) rfl (fun _ => ⟨_, rfl⟩) ⟨_, _, rfl⟩ ⟨Nat.le_of_ble_eq_true rfl, Nat.le_of_ble_eq_true rfl⟩ rfl hl.1 rfl (Nat.le_of_ble_eq_true rfl) dX6_readOne_44 ⟨Nat.le_refl 0, Nat.le_refl 0⟩) X16 (fun v37 t36 H lc q34 X35 => ?_)
        unfold po_X8_fail_16 at q34
        obtain ⟨q38, q39, q40⟩ := q34
        have F41 : Fr [(16, 1), (16, 2), (17, 4), (1, 3), (1, 4), (1, 5), (1, 7), (1, 8), (16, 4)] [18, 19, 20, 201] τ t36 := Fr_call Fr_rfl q39 (by decide)
        exact r_ret S hr hlk X35 ⟨q38, F41, (YT_eq hYT (fun j => ((q39 18 j (by simp [fz])).trans rfl)) (fun j => ((q39 19 j (by simp [fz])).trans rfl))), (R_of q40 rfl)⟩ (nr_bool (R_of (lo := 0) (hi := 1) q40 rfl)) dX6_readOne_47
      ·
        have r42 : R (0) (19) v23 := ⟨by omega, by omega⟩
        refine r_iload_n S dX6_readOne_36 rfl (lv_at hl 2 rfl) ?_
        refine r_bipush S dX6_readOne_37 (by decide) (fun v43 z44 => ?_)
        have r45 := R_eq z44
        refine r_icmp_le (tgt := 48) S dX6_readOne_39 (by decide) (fun c46 => ?_) (fun c46 => ?_)
        ·
          refine r_aload_n S dX6_readOne_48 rfl (lv_at hl 1 rfl) ?_
          refine r_dup S dX6_readOne_49 rfl ?_
          refine r_geti (K := 16) S X16 (Nat.le_of_ble_eq_true rfl) rfl lk6_28_6 (fun _ => ⟨_, rfl, rfl⟩) z24 dX6_readOne_50 ?_
          refine r_iconst S dX6_readOne_53 (by decide) (fun v47 z48 => ?_)
          have r49 := R_eq z48
          refine r_iadd S dX6_readOne_54 (fun v50 z51 => ?_)
          obtain ⟨e52, r53⟩ := i_add (lo := 1) (hi := 20) z51 r42 r49 rfl
          refine r_put (K := 16) (ty := .int) S X16 (Nat.le_of_ble_eq_true rfl) rfl lk6_28_6 (fun _ => ⟨_, rfl, Nat.le_of_ble_eq_true rfl, rfl⟩) (fun _ _ _ h => by cases h; exact ⟨rfl, rfl⟩) rfl rfl dX6_readOne_55 (fun t54 H lc M55 X56 => ?_)
          have I57 := Inv_mu hI M55 (show Rg (kd 16) 4 v50 from (R_of (lo := 0) (hi := 20) r53 rfl))
          have F58 : Fr [(16, 1), (16, 2), (17, 4), (1, 3), (1, 4), (1, 5), (1, 7), (1, 8), (16, 4)] [18, 19, 20, 201] τ t54 := Fr_mu Fr_rfl M55 (by decide)
          refine r_aload_n S dX6_readOne_58 rfl (lv_at hl 1 rfl) ?_
          refine r_get (K := 16) (v := .ref (G.2.2.2.1 1)) S X56 (Nat.le_of_ble_eq_true rfl) rfl lk6_39_6 (fun _ => ⟨_, rfl, rfl⟩) dX6_readOne_59 ?_
          refine r_kv (q_V (As := []) (rest := []) (K := 1) (ci := 7) S X56 (c_X7_step l G t54 I57 ) ck6_64 (Nat.le_of_ble_eq_true rfl) rfl (fun _ => ⟨_, rfl⟩) ⟨_, _, rfl⟩ ⟨Nat.le_of_ble_eq_true rfl, Nat.le_of_ble_eq_true rfl⟩ rfl hl.1 rfl (Nat.le_of_ble_eq_true rfl) dX6_readOne_62 ⟨Nat.le_refl 0, Nat.le_refl 0⟩) X56 (fun t61 H lc q59 X60 => ?_)
          unfold po_X7_step at q59
          obtain ⟨q62, q63⟩ := q59
          have F64 : Fr [(16, 1), (16, 2), (17, 4), (1, 3), (1, 4), (1, 5), (1, 7), (1, 8), (16, 4)] [18, 19, 20, 201] τ t61 := Fr_call F58 q63 (by decide)
          refine lv_aload_nN S.1.1 S.1.2.1 dX6_readOne_65 rfl (lv_at hl 0 rfl) ?_
          refine lv_ifnonnullN S.1.1 S.1.2.1 dX6_readOne_66 ?_
          refine r_aload_n S dX6_readOne_69 rfl (lv_at hl 1 rfl) ?_
          refine r_iload_n S dX6_readOne_70 rfl (lv_at hl 2 rfl) ?_
          refine r_iconst S dX6_readOne_71 (by decide) (fun v65 z66 => ?_)
          have r67 := R_eq z66
          refine r_iadd S dX6_readOne_72 (fun v68 z69 => ?_)
          obtain ⟨e70, r71⟩ := i_add (lo := 2) (hi := 2) z69 h_a0 r67 rfl
          refine r_ki (q_V (As := [.int v68]) (rest := []) (K := 16) (ci := 6) S X60 (c_X6_readCond_2 l G t61 q62 v68 r71 (by rw [((q63 16 5 (by decide)).trans ((M55.2 16 5 (Or.inr (by decide))).trans z2))]; exact R_of hf_0 rfl) (YT_eq hYT (fun j => ((q63 18 j (by simp [fz])).trans ((M55.2 18 j (Or.inl (by decide))).trans rfl))) (fun j => ((q63 19 j (by simp [fz])).trans ((M55.2 19 j (Or.inl (by decide))).trans rfl))))) ck6_35 (Nat.le_of_ble_eq_true rfl) rfl (fun _ => ⟨_, rfl⟩) ⟨_, _, rfl⟩ ⟨Nat.le_of_ble_eq_true rfl, Nat.le_of_ble_eq_true rfl⟩ rfl hl.1 rfl (Nat.le_of_ble_eq_true rfl) dX6_readOne_73 ⟨Nat.le_refl 0, Nat.le_refl 0⟩) X60 (fun v75 t74 H lc q72 X73 => ?_)
          unfold po_X6_readCond_2 at q72
          obtain ⟨q76, q77, q78, q79⟩ := q72
          have F80 : Fr [(16, 1), (16, 2), (17, 4), (1, 3), (1, 4), (1, 5), (1, 7), (1, 8), (16, 4)] [18, 19, 20, 201] τ t74 := Fr_call F64 q77 (by decide)
          refine r_if_eq (tgt := 92) S dX6_readOne_76 (by decide) (fun c81 => ?_) (fun c81 => ?_)
          ·
            have r82 : R (0) (0) v75 := ⟨by omega, by omega⟩
            refine r_iconst S dX6_readOne_92 (by decide) (fun v83 z84 => ?_)
            have r85 := R_eq z84
            exact r_ret S hr hlk X73 ⟨q76, F80, q78, (R_of r85 rfl)⟩ (nr_bool (R_of (lo := 0) (hi := 1) r85 rfl)) dX6_readOne_93
          ·
            have r86 : R (1) (1) v75 := ⟨by omega, by omega⟩
            refine r_aload_n S dX6_readOne_79 rfl (lv_at hl 1 rfl) ?_
            refine r_bipush S dX6_readOne_80 (by decide) (fun v87 z88 => ?_)
            have r89 := R_eq z88
            refine r_ki (q_U (As := [.int v87]) (rest := []) (K := 16) (ci := 6) S X73 (c_X8_takeSign_16 l G t74 q76 v87 (R_of (lo := 0) (hi := 65535) r89 rfl)) ck6_85_6 (Nat.le_of_ble_eq_true rfl) rfl (fun _ => ⟨_, rfl⟩) ⟨_, _, rfl⟩ ⟨Nat.le_of_ble_eq_true rfl, Nat.le_of_ble_eq_true rfl⟩ rfl hl.1 rfl (Nat.le_of_ble_eq_true rfl) dX6_readOne_82 ⟨Nat.le_refl 0, Nat.le_refl 0⟩) X73 (fun v93 t92 H lc q90 X91 => ?_)
            unfold po_X8_takeSign_16 at q90
            obtain ⟨q94, q95, q96⟩ := q90
            have F97 : Fr [(16, 1), (16, 2), (17, 4), (1, 3), (1, 4), (1, 5), (1, 7), (1, 8), (16, 4)] [18, 19, 20, 201] τ t92 := Fr_call F80 q95 (by decide)
            refine r_if_eq (tgt := 92) S dX6_readOne_85 (by decide) (fun c98 => ?_) (fun c98 => ?_)
            ·
              have r99 : R (0) (0) v93 := ⟨by omega, by omega⟩
              refine r_iconst S dX6_readOne_92 (by decide) (fun v100 z101 => ?_)
              have r102 := R_eq z101
              exact r_ret S hr hlk X91 ⟨q94, F97, (YT_eq q78 (fun j => ((q95 18 j (by simp [fz])).trans rfl)) (fun j => ((q95 19 j (by simp [fz])).trans rfl))), (R_of r102 rfl)⟩ (nr_bool (R_of (lo := 0) (hi := 1) r102 rfl)) dX6_readOne_93
            ·
              have r103 : R (1) (1) v93 := ⟨by omega, by omega⟩
              refine r_iconst S dX6_readOne_88 (by decide) (fun v104 z105 => ?_)
              have r106 := R_eq z105
              refine r_goto (tgt := 93) S dX6_readOne_89 (by decide) ?_
              exact r_ret S hr hlk X91 ⟨q94, F97, (YT_eq q78 (fun j => ((q95 18 j (by simp [fz])).trans rfl)) (fun j => ((q95 19 j (by simp [fz])).trans rfl))), (R_of r106 rfl)⟩ (nr_bool (R_of (lo := 0) (hi := 1) r106 rfl)) dX6_readOne_93
        ·
          exfalso; omega
    ·
      have r107 : R (0) (0) v18 := ⟨by omega, by omega⟩
      refine r_aload_n S dX6_readOne_21 rfl (lv_at hl 1 rfl) ?_
      refine r_iconst S dX6_readOne_22 (by decide) (fun v108 z109 => ?_)
      have r110 := R_eq z109
      refine r_ki (q_U (As := [.int v108]) (rest := []) (K := 16) (ci := 6) S X16 (c_X8_fail_16 l G τ hI v108 (R_of (lo := -2147483648) (hi := 2147483647) r110 rfl)) ck6_48_6 (Nat.le_of_ble_eq_true rfl) rfl (fun _ => ⟨_, rfl⟩) ⟨_, _, rfl⟩ ⟨Nat.le_of_ble_eq_true rfl, Nat.le_of_ble_eq_true rfl⟩ rfl hl.1 rfl (Nat.le_of_ble_eq_true rfl) dX6_readOne_23 ⟨Nat.le_refl 0, Nat.le_refl 0⟩) X16 (fun v114 t113 H lc q111 X112 => ?_)
      unfold po_X8_fail_16 at q111
      obtain ⟨q115, q116, q117⟩ := q111
      have F118 : Fr [(16, 1), (16, 2), (17, 4), (1, 3), (1, 4), (1, 5), (1, 7), (1, 8), (16, 4)] [18, 19, 20, 201] τ t113 := Fr_call Fr_rfl q116 (by decide)
      exact r_ret S hr hlk X112 ⟨q115, F118, (YT_eq hYT (fun j => ((q116 18 j (by simp [fz])).trans rfl)) (fun j => ((q116 19 j (by simp [fz])).trans rfl))), (R_of q117 rfl)⟩ (nr_bool (R_of (lo := 0) (hi := 1) q117 rfl)) dX6_readOne_26
  ·
    unfold po_X6_firstWord at q3
    obtain ⟨q119, q120⟩ := q3
    rw [q119] at X4
    refine r_astore_n (lv' := [(2, .ref (G.2.2.1 w8)), (0, .ref (G.2.2.2.1 16)), (1, .int a0)]) S dX6_readOne_4 rfl hl (by decide) rfl (fun ls hl => ?_)
    refine r_aload_n S dX6_readOne_5 rfl (lv_at hl 0 rfl) ?_
    refine lv_ifnonnull (tgt := 27) S.1.1 S.1.2.1 dX6_readOne_6 (by decide) ?_
    refine r_aload_n S dX6_readOne_27 rfl (lv_at hl 1 rfl) ?_
    refine r_getn (K := 16) S X4 (Nat.le_of_ble_eq_true rfl) rfl lk6_28_6 (fun _ => ⟨_, rfl, rfl⟩) dX6_readOne_28 (fun v121 z122 => ?_)
    have r123 : R (0) (20) v121 := rd hI rfl z122
    refine r_bipush S dX6_readOne_31 (by decide) (fun v124 z125 => ?_)
    have r126 := R_eq z125
    refine r_icmp_ge (tgt := 42) S dX6_readOne_33 (by decide) (fun c127 => ?_) (fun c127 => ?_)
    ·
      have r128 : R (20) (20) v121 := ⟨by omega, by omega⟩
      refine r_aload_n S dX6_readOne_42 rfl (lv_at hl 1 rfl) ?_
      refine r_iconst S dX6_readOne_43 (by decide) (fun v129 z130 => ?_)
      have r131 := R_eq z130
      refine r_ki (q_U (As := [.int v129]) (rest := []) (K := 16) (ci := 6) S X4 (c_X8_fail_16 l G τ hI v129 (R_of (lo := -2147483648) (hi := 2147483647) r131 rfl)) ck6_48_6 (Nat.le_of_ble_eq_true rfl) rfl (fun _ => ⟨_, rfl⟩) ⟨_, _, rfl⟩ ⟨Nat.le_of_ble_eq_true rfl, Nat.le_of_ble_eq_true rfl⟩ rfl hl.1 rfl (Nat.le_of_ble_eq_true rfl) dX6_readOne_44 ⟨Nat.le_refl 0, Nat.le_refl 0⟩) X4 (fun v135 t134 H lc q132 X133 => ?_)
      unfold po_X8_fail_16 at q132
      obtain ⟨q136, q137, q138⟩ := q132
      have F139 : Fr [(16, 1), (16, 2), (17, 4), (1, 3), (1, 4), (1, 5), (1, 7), (1, 8), (16, 4)] [18, 19, 20, 201] τ t134 := Fr_call Fr_rfl q137 (by decide)
      exact r_ret S hr hlk X133 ⟨q136, F139, (YT_eq hYT (fun j => ((q137 18 j (by simp [fz])).trans rfl)) (fun j => ((q137 19 j (by simp [fz])).trans rfl))), (R_of q138 rfl)⟩ (nr_bool (R_of (lo := 0) (hi := 1) q138 rfl)) dX6_readOne_47
    ·
      have r140 : R (0) (19) v121 := ⟨by omega, by omega⟩
      refine r_iload_n S dX6_readOne_36 rfl (lv_at hl 2 rfl) ?_
      refine r_bipush S dX6_readOne_37 (by decide) (fun v141 z142 => ?_)
      have r143 := R_eq z142
      refine r_icmp_le (tgt := 48) S dX6_readOne_39 (by decide) (fun c144 => ?_) (fun c144 => ?_)
      ·
        refine r_aload_n S dX6_readOne_48 rfl (lv_at hl 1 rfl) ?_
        refine r_dup S dX6_readOne_49 rfl ?_
        refine r_geti (K := 16) S X4 (Nat.le_of_ble_eq_true rfl) rfl lk6_28_6 (fun _ => ⟨_, rfl, rfl⟩) z122 dX6_readOne_50 ?_
        refine r_iconst S dX6_readOne_53 (by decide) (fun v145 z146 => ?_)
        have r147 := R_eq z146
        refine r_iadd S dX6_readOne_54 (fun v148 z149 => ?_)
        obtain ⟨e150, r151⟩ := i_add (lo := 1) (hi := 20) z149 r140 r147 rfl
        refine r_put (K := 16) (ty := .int) S X4 (Nat.le_of_ble_eq_true rfl) rfl lk6_28_6 (fun _ => ⟨_, rfl, Nat.le_of_ble_eq_true rfl, rfl⟩) (fun _ _ _ h => by cases h; exact ⟨rfl, rfl⟩) rfl rfl dX6_readOne_55 (fun t152 H lc M153 X154 => ?_)
        have I155 := Inv_mu hI M153 (show Rg (kd 16) 4 v148 from (R_of (lo := 0) (hi := 20) r151 rfl))
        have F156 : Fr [(16, 1), (16, 2), (17, 4), (1, 3), (1, 4), (1, 5), (1, 7), (1, 8), (16, 4)] [18, 19, 20, 201] τ t152 := Fr_mu Fr_rfl M153 (by decide)
        refine r_aload_n S dX6_readOne_58 rfl (lv_at hl 1 rfl) ?_
        refine r_get (K := 16) (v := .ref (G.2.2.2.1 1)) S X154 (Nat.le_of_ble_eq_true rfl) rfl lk6_39_6 (fun _ => ⟨_, rfl, rfl⟩) dX6_readOne_59 ?_
        refine r_kv (q_V (As := []) (rest := []) (K := 1) (ci := 7) S X154 (c_X7_step l G t152 I155 ) ck6_64 (Nat.le_of_ble_eq_true rfl) rfl (fun _ => ⟨_, rfl⟩) ⟨_, _, rfl⟩ ⟨Nat.le_of_ble_eq_true rfl, Nat.le_of_ble_eq_true rfl⟩ rfl hl.1 rfl (Nat.le_of_ble_eq_true rfl) dX6_readOne_62 ⟨Nat.le_refl 0, Nat.le_refl 0⟩) X154 (fun t159 H lc q157 X158 => ?_)
        unfold po_X7_step at q157
        obtain ⟨q160, q161⟩ := q157
        have F162 : Fr [(16, 1), (16, 2), (17, 4), (1, 3), (1, 4), (1, 5), (1, 7), (1, 8), (16, 4)] [18, 19, 20, 201] τ t159 := Fr_call F156 q161 (by decide)
        refine r_aload_n S dX6_readOne_65 rfl (lv_at hl 0 rfl) ?_
        refine lv_ifnonnull (tgt := 94) S.1.1 S.1.2.1 dX6_readOne_66 (by decide) ?_
        refine r_aload_n S dX6_readOne_94 rfl (lv_at hl 0 rfl) ?_
        refine r_wst (i := 15) S X158 (by decide) kw74 dX6_readOne_95 ?_
        refine r_cacmp_ne (tgt := 127) S h_w8 (by decide) dX6_readOne_98 (by decide) (fun c163 => ?_) (fun c163 => ?_)
        ·
          refine r_aload_n S dX6_readOne_127 rfl (lv_at hl 1 rfl) ?_
          refine r_aload_n S dX6_readOne_128 rfl (lv_at hl 0 rfl) ?_
          refine r_ki (q_V (As := [.ref (G.2.2.1 w8)]) (rest := []) (K := 16) (ci := 6) S X158 (c_X6_readPlainOne l G t159 q160 w8 h_w8 (by rw [((q161 16 5 (by decide)).trans ((M153.2 16 5 (Or.inr (by decide))).trans z2))]; exact R_of hf_0 rfl) (YT_eq hYT (fun j => ((q161 18 j (by simp [fz])).trans ((M153.2 18 j (Or.inl (by decide))).trans rfl))) (fun j => ((q161 19 j (by simp [fz])).trans ((M153.2 19 j (Or.inl (by decide))).trans rfl))))) ck6_91 (Nat.le_of_ble_eq_true rfl) rfl (fun _ => ⟨_, rfl⟩) ⟨_, _, rfl⟩ ⟨Nat.le_of_ble_eq_true rfl, Nat.le_of_ble_eq_true rfl⟩ rfl hl.1 rfl (Nat.le_of_ble_eq_true rfl) dX6_readOne_129 ⟨Nat.le_refl 0, Nat.le_refl 0⟩) X158 (fun v167 t166 H lc q164 X165 => ?_)
          unfold po_X6_readPlainOne at q164
          obtain ⟨q168, q169, q170, q171⟩ := q164
          have F172 : Fr [(16, 1), (16, 2), (17, 4), (1, 3), (1, 4), (1, 5), (1, 7), (1, 8), (16, 4)] [18, 19, 20, 201] τ t166 := Fr_call F162 q169 (by decide)
          exact r_ret S hr hlk X165 ⟨q168, F172, q170, q171⟩ (nr_bool (R_of (lo := 0) (hi := 1) q171 rfl)) dX6_readOne_132
        ·
          refine r_aload_n S dX6_readOne_101 rfl (lv_at hl 1 rfl) ?_
          refine r_iload_n S dX6_readOne_102 rfl (lv_at hl 2 rfl) ?_
          refine r_iconst S dX6_readOne_103 (by decide) (fun v173 z174 => ?_)
          have r175 := R_eq z174
          refine r_iadd S dX6_readOne_104 (fun v176 z177 => ?_)
          obtain ⟨e178, r179⟩ := i_add (lo := 2) (hi := 2) z177 h_a0 r175 rfl
          refine r_ki (q_V (As := [.int v176]) (rest := []) (K := 16) (ci := 6) S X158 (c_X6_readOne_2 l G t159 q160 v176 r179 (by rw [((q161 16 5 (by decide)).trans ((M153.2 16 5 (Or.inr (by decide))).trans z2))]; exact R_of hf_0 rfl) (YT_eq hYT (fun j => ((q161 18 j (by simp [fz])).trans ((M153.2 18 j (Or.inl (by decide))).trans rfl))) (fun j => ((q161 19 j (by simp [fz])).trans ((M153.2 19 j (Or.inl (by decide))).trans rfl))))) ck6_71 (Nat.le_of_ble_eq_true rfl) rfl (fun _ => ⟨_, rfl⟩) ⟨_, _, rfl⟩ ⟨Nat.le_of_ble_eq_true rfl, Nat.le_of_ble_eq_true rfl⟩ rfl hl.1 rfl (Nat.le_of_ble_eq_true rfl) dX6_readOne_105 ⟨Nat.le_refl 0, Nat.le_refl 0⟩) X158 (fun v183 t182 H lc q180 X181 => ?_)
          unfold po_X6_readOne_2 at q180
          obtain ⟨q184, q185, q186, q187⟩ := q180
          have F188 : Fr [(16, 1), (16, 2), (17, 4), (1, 3), (1, 4), (1, 5), (1, 7), (1, 8), (16, 4)] [18, 19, 20, 201] τ t182 := Fr_call F162 q185 (by decide)
          refine r_if_ne (tgt := 113) S dX6_readOne_108 (by decide) (fun c189 => ?_) (fun c189 => ?_)
          ·
            have r190 : R (1) (1) v183 := ⟨by omega, by omega⟩
            refine r_aload_n S dX6_readOne_113 rfl (lv_at hl 1 rfl) ?_
            refine r_get (K := 16) (v := .ref (G.2.2.2.1 17)) S X181 (Nat.le_of_ble_eq_true rfl) rfl lk6_14_6 (fun _ => ⟨_, rfl, rfl⟩) dX6_readOne_114 ?_
            refine r_wst (i := 15) S X181 (by decide) kw74 dX6_readOne_117 ?_
            refine r_iconst S dX6_readOne_120 (by decide) (fun v191 z192 => ?_)
            have r193 := R_eq z192
            refine r_iconst S dX6_readOne_121 (by decide) (fun v194 z195 => ?_)
            have r196 := R_eq z195
            refine r_kv (q_V (As := [.ref (G.2.2.1 15), .int v191, .int v194]) (rest := []) (K := 17) (ci := 5) S X181 (c_X5_add l G t182 q184 15 (by decide) v191 v194 (R_of (lo := -2147483648) (hi := 2147483647) r193 rfl) (R_of (lo := 0) (hi := 99) r196 rfl) q186 (by omega)) ck6_67 (Nat.le_of_ble_eq_true rfl) rfl (fun _ => ⟨_, rfl⟩) ⟨_, _, rfl⟩ ⟨Nat.le_of_ble_eq_true rfl, Nat.le_of_ble_eq_true rfl⟩ rfl hl.1 rfl (Nat.le_of_ble_eq_true rfl) dX6_readOne_122 ⟨Nat.le_refl 0, Nat.le_refl 0⟩) X181 (fun t199 H lc q197 X198 => ?_)
            unfold po_X5_add at q197
            obtain ⟨q200, q201, q202⟩ := q197
            have F203 : Fr [(16, 1), (16, 2), (17, 4), (1, 3), (1, 4), (1, 5), (1, 7), (1, 8), (16, 4)] [18, 19, 20, 201] τ t199 := Fr_call F188 q201 (by decide)
            refine r_iconst S dX6_readOne_125 (by decide) (fun v204 z205 => ?_)
            have r206 := R_eq z205
            exact r_ret S hr hlk X198 ⟨q200, F203, q202, (R_of r206 rfl)⟩ (nr_bool (R_of (lo := 0) (hi := 1) r206 rfl)) dX6_readOne_126
          ·
            have r207 : R (0) (0) v183 := ⟨by omega, by omega⟩
            refine r_iconst S dX6_readOne_111 (by decide) (fun v208 z209 => ?_)
            have r210 := R_eq z209
            exact r_ret S hr hlk X181 ⟨q184, F188, q186, (R_of r210 rfl)⟩ (nr_bool (R_of (lo := 0) (hi := 1) r210 rfl)) dX6_readOne_112
      ·
        exfalso; omega
def po_X6_readAll_1 (τ : Tau)  (a0 : Int32)   (r : Int32) (u : Tau) : Prop := Inv u ∧ Fr [(16, 1), (16, 2), (17, 4), (1, 3), (1, 4), (1, 5), (1, 7), (1, 8), (16, 4)] [18, 19, 20, 201] τ u ∧ YT u ∧ R (0) (1) r
set_option maxHeartbeats 4000000 in
set_option maxRecDepth 100000 in
theorem c_X6_readAll_1 (l : Launch) (G : Gx) (τ : Tau) (hI : Inv τ) (a0 : Int32) (h_a0 : R (1) (1) a0) (hf_0 : R (1) (1) (τ 16 5)) (hYT : YT τ) : Ci l G yX6_readAll cX6_readAll 3 (some .boolean) 28 611 [.ref (G.2.2.2.1 16), .int a0] τ (po_X6_readAll_1 τ  a0  ) := by
  unfold Ci
  refine C_of (own := RX6) (by decide) rfl (Nat.le_of_ble_eq_true rfl) ?_
  intro p e s m below meth c ls S hr hlk X hl
  have hl : lv_has ls 3 [(0, .ref (G.2.2.2.1 16)), (1, .int a0)] := hl
  obtain ⟨v1, z2⟩ : ∃ x, τ 16 5 = x := ⟨_, rfl⟩
  rw [z2] at hf_0
  refine r_aload_n S dX6_readAll_0 rfl (lv_at hl 0 rfl) ?_
  refine r_iload_n S dX6_readAll_1 rfl (lv_at hl 1 rfl) ?_
  refine r_ki (q_V (As := [.int a0]) (rest := []) (K := 16) (ci := 6) S X (c_X6_readOne_1 l G τ hI a0 h_a0 (by rw [z2]; exact R_of hf_0 rfl) hYT) ck6_71 (Nat.le_of_ble_eq_true rfl) rfl (fun _ => ⟨_, rfl⟩) ⟨_, _, rfl⟩ ⟨Nat.le_of_ble_eq_true rfl, Nat.le_of_ble_eq_true rfl⟩ rfl hl.1 rfl (Nat.le_of_ble_eq_true rfl) dX6_readAll_2 ⟨Nat.le_refl 0, Nat.le_refl 0⟩) X (fun v6 t5 H lc q3 X4 => ?_)
  unfold po_X6_readOne_1 at q3
  obtain ⟨q7, q8, q9, q10⟩ := q3
  have F11 : Fr [(16, 1), (16, 2), (17, 4), (1, 3), (1, 4), (1, 5), (1, 7), (1, 8), (16, 4)] [18, 19, 20, 201] τ t5 := Fr_call Fr_rfl q8 (by decide)
  refine r_if_ne (tgt := 10) S dX6_readAll_5 (by decide) (fun c12 => ?_) (fun c12 => ?_)
  ·
    have r13 : R (1) (1) v6 := ⟨by omega, by omega⟩
    refine r_iconst S dX6_readAll_10 (by decide) (fun v14 z15 => ?_)
    have r16 := R_eq z15
    refine r_istore_n (lv' := [(2, .int v14), (0, .ref (G.2.2.2.1 16)), (1, .int a0)]) S dX6_readAll_11 rfl hl (by decide) rfl (fun ls hl => ?_)
    have L660 : ∀ (n : Nat) (t654 : Tau) (H : Heap) (lc : List Loc) (ls : Array Slot) (i652 : Int32), Xd G s H lc t654 → Inv t654 → Fr [(16, 1), (16, 2), (17, 4), (1, 3), (1, 4), (1, 5), (1, 7), (1, 8), (16, 4)] [18, 19, 20, 201] τ t654 → YT t654 → R (0) (24) i652 → t654 16 5 = v1 → lv_has ls 3 [(0, .ref (G.2.2.2.1 16)), (1, .int a0), (2, .int i652)] → (24 - i652.toInt).toNat < n → W p l e (Rm 28 611) s m ([.ref (G.2.2.2.1 16), .int a0] : List Value).toArray below meth c H lc 0 0 (MQ below (va_Qi (po_X6_readAll_1 τ  a0  ) (Bs G) G.2.2.2.2) ([.ref (G.2.2.2.1 16), .int a0] : List Value).toArray s 0 0 G.2.2.2.2) (F0 m 12 ls []) := by
      intro n
      induction n with
      | zero => intros; omega
      | succ n ih661 =>
        intro t654 H lc ls i652 X658 I655 F656 hYT657 r653 z659 hl hm
        refine r_iload_n S dX6_readAll_12 rfl (lv_at hl 2 rfl) ?_
        refine r_bipush S dX6_readAll_13 (by decide) (fun v662 z663 => ?_)
        have r664 := R_eq z663
        refine r_icmp_gt (tgt := 66) S dX6_readAll_15 (by decide) (fun c665 => ?_) (fun c665 => ?_)
        ·
          have r666 : R (21) (24) i652 := ⟨by omega, by omega⟩
          refine r_iconst S dX6_readAll_66 (by decide) (fun v667 z668 => ?_)
          have r669 := R_eq z668
          exact r_ret S hr hlk X658 ⟨I655, F656, hYT657, (R_of r669 rfl)⟩ (nr_bool (R_of (lo := 0) (hi := 1) r669 rfl)) dX6_readAll_67
        ·
          have r670 : R (0) (20) i652 := ⟨by omega, by omega⟩
          refine r_aload_n S dX6_readAll_18 rfl (lv_at hl 0 rfl) ?_
          refine r_get (K := 16) (v := .ref (G.2.2.2.1 1)) S X658 (Nat.le_of_ble_eq_true rfl) rfl lk6_39_6 (fun _ => ⟨_, rfl, rfl⟩) dX6_readAll_19 ?_
          refine r_wst (i := 14) S X658 (by decide) kw81 dX6_readAll_22 ?_
          refine r_ki (q_V (As := [.ref (G.2.2.1 14)]) (rest := []) (K := 1) (ci := 7) S X658 (c_X7_is l G t654 I655 14 (by decide)) ck6_60 (Nat.le_of_ble_eq_true rfl) rfl (fun _ => ⟨_, rfl⟩) ⟨_, _, rfl⟩ ⟨Nat.le_of_ble_eq_true rfl, Nat.le_of_ble_eq_true rfl⟩ rfl hl.1 rfl (Nat.le_of_ble_eq_true rfl) dX6_readAll_25 ⟨Nat.le_refl 0, Nat.le_refl 0⟩) X658 (fun v674 t673 H lc q671 X672 => ?_)
          unfold po_X7_is at q671
          obtain ⟨q675, q676⟩ := q671
          rw [q675] at X672
          refine r_if_eq (tgt := 66) S dX6_readAll_28 (by decide) (fun c677 => ?_) (fun c677 => ?_)
          ·
            have r678 : R (0) (0) v674 := ⟨by omega, by omega⟩
            refine r_iconst S dX6_readAll_66 (by decide) (fun v679 z680 => ?_)
            have r681 := R_eq z680
            exact r_ret S hr hlk X672 ⟨I655, F656, hYT657, (R_of r681 rfl)⟩ (nr_bool (R_of (lo := 0) (hi := 1) r681 rfl)) dX6_readAll_67
          ·
            have r682 : R (1) (1) v674 := ⟨by omega, by omega⟩
            refine r_aload_n S dX6_readAll_31 rfl (lv_at hl 0 rfl) ?_
            refine r_get (K := 16) (v := .ref (G.2.2.2.1 1)) S X672 (Nat.le_of_ble_eq_true rfl) rfl lk6_39_6 (fun _ => ⟨_, rfl, rfl⟩) dX6_readAll_32 ?_
            refine r_kv (q_V (As := []) (rest := []) (K := 1) (ci := 7) S X672 (c_X7_step l G t654 I655 ) ck6_64 (Nat.le_of_ble_eq_true rfl) rfl (fun _ => ⟨_, rfl⟩) ⟨_, _, rfl⟩ ⟨Nat.le_of_ble_eq_true rfl, Nat.le_of_ble_eq_true rfl⟩ rfl hl.1 rfl (Nat.le_of_ble_eq_true rfl) dX6_readAll_35 ⟨Nat.le_refl 0, Nat.le_refl 0⟩) X672 (fun t685 H lc q683 X684 => ?_)
            unfold po_X7_step at q683
            obtain ⟨q686, q687⟩ := q683
            have F688 : Fr [(16, 1), (16, 2), (17, 4), (1, 3), (1, 4), (1, 5), (1, 7), (1, 8), (16, 4)] [18, 19, 20, 201] τ t685 := Fr_call F656 q687 (by decide)
            refine r_aload_n S dX6_readAll_38 rfl (lv_at hl 0 rfl) ?_
            refine r_iload_n S dX6_readAll_39 rfl (lv_at hl 1 rfl) ?_
            refine r_ki (q_V (As := [.int a0]) (rest := []) (K := 16) (ci := 6) S X684 (c_X6_readOne_1 l G t685 q686 a0 h_a0 (by rw [((q687 16 5 (by decide)).trans z659)]; exact R_of hf_0 rfl) (YT_eq hYT657 (fun j => ((q687 18 j (by simp [fz])).trans rfl)) (fun j => ((q687 19 j (by simp [fz])).trans rfl)))) ck6_71 (Nat.le_of_ble_eq_true rfl) rfl (fun _ => ⟨_, rfl⟩) ⟨_, _, rfl⟩ ⟨Nat.le_of_ble_eq_true rfl, Nat.le_of_ble_eq_true rfl⟩ rfl hl.1 rfl (Nat.le_of_ble_eq_true rfl) dX6_readAll_40 ⟨Nat.le_refl 0, Nat.le_refl 0⟩) X684 (fun v692 t691 H lc q689 X690 => ?_)
            unfold po_X6_readOne_1 at q689
            obtain ⟨q693, q694, q695, q696⟩ := q689
            have F697 : Fr [(16, 1), (16, 2), (17, 4), (1, 3), (1, 4), (1, 5), (1, 7), (1, 8), (16, 4)] [18, 19, 20, 201] τ t691 := Fr_call F688 q694 (by decide)
            refine r_if_ne (tgt := 48) S dX6_readAll_43 (by decide) (fun c698 => ?_) (fun c698 => ?_)
            ·
              have r699 : R (1) (1) v692 := ⟨by omega, by omega⟩
              refine r_aload_n S dX6_readAll_48 rfl (lv_at hl 0 rfl) ?_
              refine r_get (K := 16) (v := .ref (G.2.2.2.1 17)) S X690 (Nat.le_of_ble_eq_true rfl) rfl lk6_14_6 (fun _ => ⟨_, rfl, rfl⟩) dX6_readAll_49 ?_
              refine r_wst (i := 14) S X690 (by decide) kw81 dX6_readAll_52 ?_
              refine r_iconst S dX6_readAll_55 (by decide) (fun v700 z701 => ?_)
              have r702 := R_eq z701
              refine r_iconst S dX6_readAll_56 (by decide) (fun v703 z704 => ?_)
              have r705 := R_eq z704
              refine r_kv (q_V (As := [.ref (G.2.2.1 14), .int v700, .int v703]) (rest := []) (K := 17) (ci := 5) S X690 (c_X5_add l G t691 q693 14 (by decide) v700 v703 (R_of (lo := -2147483648) (hi := 2147483647) r702 rfl) (R_of (lo := 0) (hi := 99) r705 rfl) q695 (by omega)) ck6_67 (Nat.le_of_ble_eq_true rfl) rfl (fun _ => ⟨_, rfl⟩) ⟨_, _, rfl⟩ ⟨Nat.le_of_ble_eq_true rfl, Nat.le_of_ble_eq_true rfl⟩ rfl hl.1 rfl (Nat.le_of_ble_eq_true rfl) dX6_readAll_57 ⟨Nat.le_refl 0, Nat.le_refl 0⟩) X690 (fun t708 H lc q706 X707 => ?_)
              unfold po_X5_add at q706
              obtain ⟨q709, q710, q711⟩ := q706
              have F712 : Fr [(16, 1), (16, 2), (17, 4), (1, 3), (1, 4), (1, 5), (1, 7), (1, 8), (16, 4)] [18, 19, 20, 201] τ t708 := Fr_call F697 q710 (by decide)
              refine r_iinc (k := 2) S dX6_readAll_60 hl rfl (by decide) (by decide) (fun v713 d714 ls z715 z716 hl => ?_)
              obtain ⟨e717, r718⟩ := i_add (lo := 1) (hi := 21) z715 r670 (R_eq z716) rfl
              have hl : lv_has ls 3 [(2, .int v713), (0, .ref (G.2.2.2.1 16)), (1, .int a0)] := hl
              refine r_goto (tgt := 12) S dX6_readAll_63 (by decide) ?_
              exact ih661 t708 _ _ _ v713 X707 q709 F712 q711 (R_of r718 rfl) ((q710 16 5 (by decide)).trans ((q694 16 5 (by decide)).trans ((q687 16 5 (by decide)).trans z659))) (lv_sub hl [1, 2, 0] rfl) (by omega)
            ·
              have r719 : R (0) (0) v692 := ⟨by omega, by omega⟩
              refine r_iconst S dX6_readAll_46 (by decide) (fun v720 z721 => ?_)
              have r722 := R_eq z721
              exact r_ret S hr hlk X690 ⟨q693, F697, q695, (R_of r722 rfl)⟩ (nr_bool (R_of (lo := 0) (hi := 1) r722 rfl)) dX6_readAll_47
    exact L660 _ t5 _ _ _ v14 X4 q7 F11 q9 (R_of r16 rfl) ((q8 16 5 (by decide)).trans z2) (lv_sub hl [1, 2, 0] rfl) (Nat.lt_succ_self _)
  ·
    have r723 : R (0) (0) v6 := ⟨by omega, by omega⟩
    refine r_iconst S dX6_readAll_8 (by decide) (fun v724 z725 => ?_)
    have r726 := R_eq z725
    exact r_ret S hr hlk X4 ⟨q7, F11, q9, (R_of r726 rfl)⟩ (nr_bool (R_of (lo := 0) (hi := 1) r726 rfl)) dX6_readAll_9
def po_X6_readCond_1 (τ : Tau)  (a0 : Int32)   (r : Int32) (u : Tau) : Prop := Inv u ∧ Fr [(16, 1), (16, 2), (17, 4), (1, 3), (1, 4), (1, 5), (1, 7), (1, 8), (16, 4)] [18, 19, 20, 201] τ u ∧ YT u ∧ R (0) (1) r
set_option maxHeartbeats 4000000 in
set_option maxRecDepth 100000 in
theorem c_X6_readCond_1 (l : Launch) (G : Gx) (τ : Tau) (hI : Inv τ) (a0 : Int32) (h_a0 : R (1) (1) a0) (hf_0 : R (1) (1) (τ 16 5)) (hYT : YT τ) : Ci l G yX6_readCond cX6_readCond 3 (some .boolean) 29 633 [.ref (G.2.2.2.1 16), .int a0] τ (po_X6_readCond_1 τ  a0  ) := by
  unfold Ci
  refine C_of (own := RX6) (by decide) rfl (Nat.le_of_ble_eq_true rfl) ?_
  intro p e s m below meth c ls S hr hlk X hl
  have hl : lv_has ls 3 [(0, .ref (G.2.2.2.1 16)), (1, .int a0)] := hl
  obtain ⟨v1, z2⟩ : ∃ x, τ 16 5 = x := ⟨_, rfl⟩
  rw [z2] at hf_0
  refine r_aload_n S dX6_readCond_0 rfl (lv_at hl 0 rfl) ?_
  refine r_iload_n S dX6_readCond_1 rfl (lv_at hl 1 rfl) ?_
  refine r_ki (q_V (As := [.int a0]) (rest := []) (K := 16) (ci := 6) S X (c_X6_readAll_1 l G τ hI a0 h_a0 (by rw [z2]; exact R_of hf_0 rfl) hYT) ck6_51 (Nat.le_of_ble_eq_true rfl) rfl (fun _ => ⟨_, rfl⟩) ⟨_, _, rfl⟩ ⟨Nat.le_of_ble_eq_true rfl, Nat.le_of_ble_eq_true rfl⟩ rfl hl.1 rfl (Nat.le_of_ble_eq_true rfl) dX6_readCond_2 ⟨Nat.le_refl 0, Nat.le_refl 0⟩) X (fun v6 t5 H lc q3 X4 => ?_)
  unfold po_X6_readAll_1 at q3
  obtain ⟨q7, q8, q9, q10⟩ := q3
  have F11 : Fr [(16, 1), (16, 2), (17, 4), (1, 3), (1, 4), (1, 5), (1, 7), (1, 8), (16, 4)] [18, 19, 20, 201] τ t5 := Fr_call Fr_rfl q8 (by decide)
  refine r_if_ne (tgt := 10) S dX6_readCond_5 (by decide) (fun c12 => ?_) (fun c12 => ?_)
  ·
    have r13 : R (1) (1) v6 := ⟨by omega, by omega⟩
    refine r_iconst S dX6_readCond_10 (by decide) (fun v14 z15 => ?_)
    have r16 := R_eq z15
    refine r_istore_n (lv' := [(2, .int v14), (0, .ref (G.2.2.2.1 16)), (1, .int a0)]) S dX6_readCond_11 rfl hl (by decide) rfl (fun ls hl => ?_)
    have L660 : ∀ (n : Nat) (t654 : Tau) (H : Heap) (lc : List Loc) (ls : Array Slot) (i652 : Int32), Xd G s H lc t654 → Inv t654 → Fr [(16, 1), (16, 2), (17, 4), (1, 3), (1, 4), (1, 5), (1, 7), (1, 8), (16, 4)] [18, 19, 20, 201] τ t654 → YT t654 → R (0) (24) i652 → t654 16 5 = v1 → lv_has ls 3 [(0, .ref (G.2.2.2.1 16)), (1, .int a0), (2, .int i652)] → (24 - i652.toInt).toNat < n → W p l e (Rm 29 633) s m ([.ref (G.2.2.2.1 16), .int a0] : List Value).toArray below meth c H lc 0 0 (MQ below (va_Qi (po_X6_readCond_1 τ  a0  ) (Bs G) G.2.2.2.2) ([.ref (G.2.2.2.1 16), .int a0] : List Value).toArray s 0 0 G.2.2.2.2) (F0 m 12 ls []) := by
      intro n
      induction n with
      | zero => intros; omega
      | succ n ih661 =>
        intro t654 H lc ls i652 X658 I655 F656 hYT657 r653 z659 hl hm
        refine r_iload_n S dX6_readCond_12 rfl (lv_at hl 2 rfl) ?_
        refine r_bipush S dX6_readCond_13 (by decide) (fun v662 z663 => ?_)
        have r664 := R_eq z663
        refine r_icmp_gt (tgt := 66) S dX6_readCond_15 (by decide) (fun c665 => ?_) (fun c665 => ?_)
        ·
          have r666 : R (21) (24) i652 := ⟨by omega, by omega⟩
          refine r_iconst S dX6_readCond_66 (by decide) (fun v667 z668 => ?_)
          have r669 := R_eq z668
          exact r_ret S hr hlk X658 ⟨I655, F656, hYT657, (R_of r669 rfl)⟩ (nr_bool (R_of (lo := 0) (hi := 1) r669 rfl)) dX6_readCond_67
        ·
          have r670 : R (0) (20) i652 := ⟨by omega, by omega⟩
          refine r_aload_n S dX6_readCond_18 rfl (lv_at hl 0 rfl) ?_
          refine r_get (K := 16) (v := .ref (G.2.2.2.1 1)) S X658 (Nat.le_of_ble_eq_true rfl) rfl lk6_39_6 (fun _ => ⟨_, rfl, rfl⟩) dX6_readCond_19 ?_
          refine r_wst (i := 13) S X658 (by decide) kw82 dX6_readCond_22 ?_
          refine r_ki (q_V (As := [.ref (G.2.2.1 13)]) (rest := []) (K := 1) (ci := 7) S X658 (c_X7_is l G t654 I655 13 (by decide)) ck6_60 (Nat.le_of_ble_eq_true rfl) rfl (fun _ => ⟨_, rfl⟩) ⟨_, _, rfl⟩ ⟨Nat.le_of_ble_eq_true rfl, Nat.le_of_ble_eq_true rfl⟩ rfl hl.1 rfl (Nat.le_of_ble_eq_true rfl) dX6_readCond_25 ⟨Nat.le_refl 0, Nat.le_refl 0⟩) X658 (fun v674 t673 H lc q671 X672 => ?_)
          unfold po_X7_is at q671
          obtain ⟨q675, q676⟩ := q671
          rw [q675] at X672
          refine r_if_eq (tgt := 66) S dX6_readCond_28 (by decide) (fun c677 => ?_) (fun c677 => ?_)
          ·
            have r678 : R (0) (0) v674 := ⟨by omega, by omega⟩
            refine r_iconst S dX6_readCond_66 (by decide) (fun v679 z680 => ?_)
            have r681 := R_eq z680
            exact r_ret S hr hlk X672 ⟨I655, F656, hYT657, (R_of r681 rfl)⟩ (nr_bool (R_of (lo := 0) (hi := 1) r681 rfl)) dX6_readCond_67
          ·
            have r682 : R (1) (1) v674 := ⟨by omega, by omega⟩
            refine r_aload_n S dX6_readCond_31 rfl (lv_at hl 0 rfl) ?_
            refine r_get (K := 16) (v := .ref (G.2.2.2.1 1)) S X672 (Nat.le_of_ble_eq_true rfl) rfl lk6_39_6 (fun _ => ⟨_, rfl, rfl⟩) dX6_readCond_32 ?_
            refine r_kv (q_V (As := []) (rest := []) (K := 1) (ci := 7) S X672 (c_X7_step l G t654 I655 ) ck6_64 (Nat.le_of_ble_eq_true rfl) rfl (fun _ => ⟨_, rfl⟩) ⟨_, _, rfl⟩ ⟨Nat.le_of_ble_eq_true rfl, Nat.le_of_ble_eq_true rfl⟩ rfl hl.1 rfl (Nat.le_of_ble_eq_true rfl) dX6_readCond_35 ⟨Nat.le_refl 0, Nat.le_refl 0⟩) X672 (fun t685 H lc q683 X684 => ?_)
            unfold po_X7_step at q683
            obtain ⟨q686, q687⟩ := q683
            have F688 : Fr [(16, 1), (16, 2), (17, 4), (1, 3), (1, 4), (1, 5), (1, 7), (1, 8), (16, 4)] [18, 19, 20, 201] τ t685 := Fr_call F656 q687 (by decide)
            refine r_aload_n S dX6_readCond_38 rfl (lv_at hl 0 rfl) ?_
            refine r_iload_n S dX6_readCond_39 rfl (lv_at hl 1 rfl) ?_
            refine r_ki (q_V (As := [.int a0]) (rest := []) (K := 16) (ci := 6) S X684 (c_X6_readAll_1 l G t685 q686 a0 h_a0 (by rw [((q687 16 5 (by decide)).trans z659)]; exact R_of hf_0 rfl) (YT_eq hYT657 (fun j => ((q687 18 j (by simp [fz])).trans rfl)) (fun j => ((q687 19 j (by simp [fz])).trans rfl)))) ck6_51 (Nat.le_of_ble_eq_true rfl) rfl (fun _ => ⟨_, rfl⟩) ⟨_, _, rfl⟩ ⟨Nat.le_of_ble_eq_true rfl, Nat.le_of_ble_eq_true rfl⟩ rfl hl.1 rfl (Nat.le_of_ble_eq_true rfl) dX6_readCond_40 ⟨Nat.le_refl 0, Nat.le_refl 0⟩) X684 (fun v692 t691 H lc q689 X690 => ?_)
            unfold po_X6_readAll_1 at q689
            obtain ⟨q693, q694, q695, q696⟩ := q689
            have F697 : Fr [(16, 1), (16, 2), (17, 4), (1, 3), (1, 4), (1, 5), (1, 7), (1, 8), (16, 4)] [18, 19, 20, 201] τ t691 := Fr_call F688 q694 (by decide)
            refine r_if_ne (tgt := 48) S dX6_readCond_43 (by decide) (fun c698 => ?_) (fun c698 => ?_)
            ·
              have r699 : R (1) (1) v692 := ⟨by omega, by omega⟩
              refine r_aload_n S dX6_readCond_48 rfl (lv_at hl 0 rfl) ?_
              refine r_get (K := 16) (v := .ref (G.2.2.2.1 17)) S X690 (Nat.le_of_ble_eq_true rfl) rfl lk6_14_6 (fun _ => ⟨_, rfl, rfl⟩) dX6_readCond_49 ?_
              refine r_wst (i := 13) S X690 (by decide) kw82 dX6_readCond_52 ?_
              refine r_iconst S dX6_readCond_55 (by decide) (fun v700 z701 => ?_)
              have r702 := R_eq z701
              refine r_iconst S dX6_readCond_56 (by decide) (fun v703 z704 => ?_)
              have r705 := R_eq z704
              refine r_kv (q_V (As := [.ref (G.2.2.1 13), .int v700, .int v703]) (rest := []) (K := 17) (ci := 5) S X690 (c_X5_add l G t691 q693 13 (by decide) v700 v703 (R_of (lo := -2147483648) (hi := 2147483647) r702 rfl) (R_of (lo := 0) (hi := 99) r705 rfl) q695 (by omega)) ck6_67 (Nat.le_of_ble_eq_true rfl) rfl (fun _ => ⟨_, rfl⟩) ⟨_, _, rfl⟩ ⟨Nat.le_of_ble_eq_true rfl, Nat.le_of_ble_eq_true rfl⟩ rfl hl.1 rfl (Nat.le_of_ble_eq_true rfl) dX6_readCond_57 ⟨Nat.le_refl 0, Nat.le_refl 0⟩) X690 (fun t708 H lc q706 X707 => ?_)
              unfold po_X5_add at q706
              obtain ⟨q709, q710, q711⟩ := q706
              have F712 : Fr [(16, 1), (16, 2), (17, 4), (1, 3), (1, 4), (1, 5), (1, 7), (1, 8), (16, 4)] [18, 19, 20, 201] τ t708 := Fr_call F697 q710 (by decide)
              refine r_iinc (k := 2) S dX6_readCond_60 hl rfl (by decide) (by decide) (fun v713 d714 ls z715 z716 hl => ?_)
              obtain ⟨e717, r718⟩ := i_add (lo := 1) (hi := 21) z715 r670 (R_eq z716) rfl
              have hl : lv_has ls 3 [(2, .int v713), (0, .ref (G.2.2.2.1 16)), (1, .int a0)] := hl
              refine r_goto (tgt := 12) S dX6_readCond_63 (by decide) ?_
              exact ih661 t708 _ _ _ v713 X707 q709 F712 q711 (R_of r718 rfl) ((q710 16 5 (by decide)).trans ((q694 16 5 (by decide)).trans ((q687 16 5 (by decide)).trans z659))) (lv_sub hl [1, 2, 0] rfl) (by omega)
            ·
              have r719 : R (0) (0) v692 := ⟨by omega, by omega⟩
              refine r_iconst S dX6_readCond_46 (by decide) (fun v720 z721 => ?_)
              have r722 := R_eq z721
              exact r_ret S hr hlk X690 ⟨q693, F697, q695, (R_of r722 rfl)⟩ (nr_bool (R_of (lo := 0) (hi := 1) r722 rfl)) dX6_readCond_47
    exact L660 _ t5 _ _ _ v14 X4 q7 F11 q9 (R_of r16 rfl) ((q8 16 5 (by decide)).trans z2) (lv_sub hl [1, 2, 0] rfl) (Nat.lt_succ_self _)
  ·
    have r723 : R (0) (0) v6 := ⟨by omega, by omega⟩
    refine r_iconst S dX6_readCond_8 (by decide) (fun v724 z725 => ?_)
    have r726 := R_eq z725
    exact r_ret S hr hlk X4 ⟨q7, F11, q9, (R_of r726 rfl)⟩ (nr_bool (R_of (lo := 0) (hi := 1) r726 rfl)) dX6_readCond_9
def po_X6_read (τ : Tau)     (r : Int32) (u : Tau) : Prop := Inv u ∧ Fr [(16, 1), (16, 2), (17, 4), (1, 3), (1, 4), (1, 5), (1, 7), (1, 8), (16, 4), (16, 5), (1, 2)] [18, 19, 20, 201] τ u ∧ YT u ∧ R (0) (1) r
set_option maxHeartbeats 4000000 in
set_option maxRecDepth 100000 in
theorem c_X6_read (l : Launch) (G : Gx) (τ : Tau) (hI : Inv τ) (hYT : YT τ) : Ci l G yX6_read cX6_read 2 (some .boolean) 30 655 [.ref (G.2.2.2.1 16), .ref (G.2.2.2.1 23)] τ (po_X6_read τ    ) := by
  unfold Ci
  refine C_of (own := RX6) (by decide) rfl (Nat.le_of_ble_eq_true rfl) ?_
  intro p e s m below meth c ls S hr hlk X hl
  have hl : lv_has ls 2 [(0, .ref (G.2.2.2.1 16)), (1, .ref (G.2.2.2.1 23))] := hl
  refine r_aload_n S dX6_read_0 rfl (lv_at hl 0 rfl) ?_
  refine r_aload_n S dX6_read_1 rfl (lv_at hl 1 rfl) ?_
  refine r_putP S X lk6_20_6 dX6_read_2 (fun t1 H lc v5 h6 M2 X3 => ?_)
  have r7 : R 1 1 v5 := ⟨by omega, by omega⟩
  have I4 := Inv_mu hI M2 (show Rg (kd 16) 5 v5 from (show R 0 1 v5 from ⟨by omega, by omega⟩))
  have F8 : Fr [(16, 1), (16, 2), (17, 4), (1, 3), (1, 4), (1, 5), (1, 7), (1, 8), (16, 4), (16, 5), (1, 2)] [18, 19, 20, 201] τ t1 := Fr_mu Fr_rfl M2 (by decide)
  refine r_aload_n S dX6_read_5 rfl (lv_at hl 0 rfl) ?_
  refine r_get (K := 16) (v := .ref (G.2.2.2.1 17)) S X3 (Nat.le_of_ble_eq_true rfl) rfl lk6_14_6 (fun _ => ⟨_, rfl, rfl⟩) dX6_read_6 ?_
  refine r_iconst S dX6_read_9 (by decide) (fun v9 z10 => ?_)
  have r11 := R_eq z10
  refine r_put (K := 17) (ty := .int) S X3 (Nat.le_of_ble_eq_true rfl) rfl lk6_24_5 (fun _ => ⟨_, rfl, Nat.le_of_ble_eq_true rfl, rfl⟩) (fun _ _ _ h => by cases h; exact ⟨rfl, rfl⟩) rfl rfl dX6_read_10 (fun t12 H lc M13 X14 => ?_)
  have I15 := Inv_mu I4 M13 (show Rg (kd 17) 4 v9 from (R_of (lo := 0) (hi := 40) r11 rfl))
  have F16 : Fr [(16, 1), (16, 2), (17, 4), (1, 3), (1, 4), (1, 5), (1, 7), (1, 8), (16, 4), (16, 5), (1, 2)] [18, 19, 20, 201] τ t12 := Fr_mu F8 M13 (by decide)
  refine r_aload_n S dX6_read_13 rfl (lv_at hl 0 rfl) ?_
  refine r_iconst S dX6_read_14 (by decide) (fun v17 z18 => ?_)
  have r19 := R_eq z18
  refine r_put (K := 16) (ty := .int) S X14 (Nat.le_of_ble_eq_true rfl) rfl lk6_28_6 (fun _ => ⟨_, rfl, Nat.le_of_ble_eq_true rfl, rfl⟩) (fun _ _ _ h => by cases h; exact ⟨rfl, rfl⟩) rfl rfl dX6_read_15 (fun t20 H lc M21 X22 => ?_)
  have I23 := Inv_mu I15 M21 (show Rg (kd 16) 4 v17 from (R_of (lo := 0) (hi := 20) r19 rfl))
  have F24 : Fr [(16, 1), (16, 2), (17, 4), (1, 3), (1, 4), (1, 5), (1, 7), (1, 8), (16, 4), (16, 5), (1, 2)] [18, 19, 20, 201] τ t20 := Fr_mu F16 M21 (by decide)
  refine r_aload_n S dX6_read_18 rfl (lv_at hl 0 rfl) ?_
  refine r_sipush S dX6_read_19 (by decide) (fun v25 z26 => ?_)
  have r27 := R_eq z26
  refine r_kv (q_U (As := [.int v25]) (rest := []) (K := 16) (ci := 6) S X22 (c_X8_open_16 l G t20 I23 v25 (R_of (lo := 0) (hi := 900) r27 rfl)) ck6_31_6 (Nat.le_of_ble_eq_true rfl) rfl (fun _ => ⟨_, rfl⟩) ⟨_, _, rfl⟩ ⟨Nat.le_of_ble_eq_true rfl, Nat.le_of_ble_eq_true rfl⟩ rfl hl.1 rfl (Nat.le_of_ble_eq_true rfl) dX6_read_22 ⟨Nat.le_refl 0, Nat.le_refl 0⟩) X22 (fun t30 H lc q28 X29 => ?_)
  unfold po_X8_open_16 at q28
  obtain ⟨q31, q32⟩ := q28
  have F33 : Fr [(16, 1), (16, 2), (17, 4), (1, 3), (1, 4), (1, 5), (1, 7), (1, 8), (16, 4), (16, 5), (1, 2)] [18, 19, 20, 201] τ t30 := Fr_call F24 q32 (by decide)
  refine r_aload_n S dX6_read_25 rfl (lv_at hl 0 rfl) ?_
  refine r_iconst S dX6_read_26 (by decide) (fun v34 z35 => ?_)
  have r36 := R_eq z35
  refine r_ki (q_V (As := [.int v34]) (rest := []) (K := 16) (ci := 6) S X29 (c_X6_readCond_1 l G t30 q31 v34 r36 (by rw [((q32 16 5 (by decide)).trans ((M21.2 16 5 (Or.inr (by decide))).trans ((M13.2 16 5 (Or.inl (by decide))).trans M2.1)))]; exact R_of r7 rfl) (YT_eq hYT (fun j => ((q32 18 j (by simp [fz])).trans ((M21.2 18 j (Or.inl (by decide))).trans ((M13.2 18 j (Or.inl (by decide))).trans ((M2.2 18 j (Or.inl (by decide))).trans rfl))))) (fun j => ((q32 19 j (by simp [fz])).trans ((M21.2 19 j (Or.inl (by decide))).trans ((M13.2 19 j (Or.inl (by decide))).trans ((M2.2 19 j (Or.inl (by decide))).trans rfl))))))) ck6_35 (Nat.le_of_ble_eq_true rfl) rfl (fun _ => ⟨_, rfl⟩) ⟨_, _, rfl⟩ ⟨Nat.le_of_ble_eq_true rfl, Nat.le_of_ble_eq_true rfl⟩ rfl hl.1 rfl (Nat.le_of_ble_eq_true rfl) dX6_read_27 ⟨Nat.le_refl 0, Nat.le_refl 0⟩) X29 (fun v40 t39 H lc q37 X38 => ?_)
  unfold po_X6_readCond_1 at q37
  obtain ⟨q41, q42, q43, q44⟩ := q37
  have F45 : Fr [(16, 1), (16, 2), (17, 4), (1, 3), (1, 4), (1, 5), (1, 7), (1, 8), (16, 4), (16, 5), (1, 2)] [18, 19, 20, 201] τ t39 := Fr_call F33 q42 (by decide)
  refine r_if_ne (tgt := 35) S dX6_read_30 (by decide) (fun c46 => ?_) (fun c46 => ?_)
  ·
    have r47 : R (1) (1) v40 := ⟨by omega, by omega⟩
    refine r_aload_n S dX6_read_35 rfl (lv_at hl 0 rfl) ?_
    refine r_get (K := 16) (v := .ref (G.2.2.2.1 1)) S X38 (Nat.le_of_ble_eq_true rfl) rfl lk6_39_6 (fun _ => ⟨_, rfl, rfl⟩) dX6_read_36 ?_
    refine r_getn (K := 1) S X38 (Nat.le_of_ble_eq_true rfl) rfl lk6_43_7 (fun _ => ⟨_, rfl, rfl⟩) dX6_read_39 (fun v48 z49 => ?_)
    have r50 : R (0) (4) v48 := rd q41 rfl z49
    refine r_if_eq (tgt := 53) S dX6_read_42 (by decide) (fun c51 => ?_) (fun c51 => ?_)
    ·
      have r52 : R (0) (0) v48 := ⟨by omega, by omega⟩
      refine r_iconst S dX6_read_53 (by decide) (fun v53 z54 => ?_)
      have r55 := R_eq z54
      refine r_goto (tgt := 58) S dX6_read_54 (by decide) ?_
      exact r_ret S hr hlk X38 ⟨q41, F45, q43, (R_of r55 rfl)⟩ (nr_bool (R_of (lo := 0) (hi := 1) r55 rfl)) dX6_read_58
    ·
      have r56 : R (1) (4) v48 := ⟨by omega, by omega⟩
      refine r_aload_n S dX6_read_45 rfl (lv_at hl 0 rfl) ?_
      refine r_iconst S dX6_read_46 (by decide) (fun v57 z58 => ?_)
      have r59 := R_eq z58
      refine r_ki (q_U (As := [.int v57]) (rest := []) (K := 16) (ci := 6) S X38 (c_X8_fail_16 l G t39 q41 v57 (R_of (lo := -2147483648) (hi := 2147483647) r59 rfl)) ck6_48_6 (Nat.le_of_ble_eq_true rfl) rfl (fun _ => ⟨_, rfl⟩) ⟨_, _, rfl⟩ ⟨Nat.le_of_ble_eq_true rfl, Nat.le_of_ble_eq_true rfl⟩ rfl hl.1 rfl (Nat.le_of_ble_eq_true rfl) dX6_read_47 ⟨Nat.le_refl 0, Nat.le_refl 0⟩) X38 (fun v63 t62 H lc q60 X61 => ?_)
      unfold po_X8_fail_16 at q60
      obtain ⟨q64, q65, q66⟩ := q60
      have F67 : Fr [(16, 1), (16, 2), (17, 4), (1, 3), (1, 4), (1, 5), (1, 7), (1, 8), (16, 4), (16, 5), (1, 2)] [18, 19, 20, 201] τ t62 := Fr_call F45 q65 (by decide)
      refine r_if_eq (tgt := 57) S dX6_read_50 (by decide) (fun c68 => ?_) (fun c68 => ?_)
      ·
        refine r_iconst S dX6_read_57 (by decide) (fun v69 z70 => ?_)
        have r71 := R_eq z70
        exact r_ret S hr hlk X61 ⟨q64, F67, (YT_eq q43 (fun j => ((q65 18 j (by simp [fz])).trans rfl)) (fun j => ((q65 19 j (by simp [fz])).trans rfl))), (R_of r71 rfl)⟩ (nr_bool (R_of (lo := 0) (hi := 1) r71 rfl)) dX6_read_58
      ·
        exfalso; omega
  ·
    have r72 : R (0) (0) v40 := ⟨by omega, by omega⟩
    refine r_iconst S dX6_read_33 (by decide) (fun v73 z74 => ?_)
    have r75 := R_eq z74
    exact r_ret S hr hlk X38 ⟨q41, F45, q43, (R_of r75 rfl)⟩ (nr_bool (R_of (lo := 0) (hi := 1) r75 rfl)) dX6_read_34
def po_X11_sentence (τ : Tau)     (r : Int32) (u : Tau) : Prop := Inv u ∧ Fr [(16, 1), (16, 2), (17, 4), (1, 3), (1, 4), (1, 5), (1, 7), (1, 8), (16, 4), (16, 5), (1, 2), (1, 1), (0, 12), (35, 4)] [18, 19, 20, 36, 37, 38, 201] τ u ∧ YT u ∧ YW u ∧ (u 1 1).toInt = 0
set_option maxHeartbeats 4000000 in
set_option maxRecDepth 100000 in
theorem c_X11_sentence (l : Launch) (G : Gx) (τ : Tau) (hI : Inv τ) (hYT : YT τ) (hYW : YW τ) : Ci l G yX11_sentence cX11_sentence 2 (some .int) 31 676 [.ref (G.2.2.2.1 0)] τ (po_X11_sentence τ    ) := by
  unfold Ci
  refine C_of (own := RX11) (by decide) rfl (Nat.le_of_ble_eq_true rfl) ?_
  intro p e s m below meth c ls S hr hlk X hl
  have hl : lv_has ls 2 [(0, .ref (G.2.2.2.1 0))] := hl
  refine r_aload_n S dX11_sentence_0 rfl (lv_at hl 0 rfl) ?_
  refine r_get (K := 0) (v := .ref (G.2.2.2.1 16)) S X (Nat.le_of_ble_eq_true rfl) rfl lk11_35_9 (fun _ => ⟨_, rfl, rfl⟩) dX11_sentence_1 ?_
  refine r_aload_n S dX11_sentence_4 rfl (lv_at hl 0 rfl) ?_
  refine r_get (K := 0) (v := .ref (G.2.2.2.1 22)) S X (Nat.le_of_ble_eq_true rfl) rfl lk11_42_9 (fun _ => ⟨_, rfl, rfl⟩) dX11_sentence_5 ?_
  refine r_get (K := 22) (v := .ref (G.2.2.2.1 23)) S X (Nat.le_of_ble_eq_true rfl) rfl lk11_139_8 (fun _ => ⟨_, rfl, rfl⟩) dX11_sentence_8 ?_
  refine r_ki (q_V (As := [.ref (G.2.2.2.1 23)]) (rest := []) (K := 16) (ci := 6) S X (c_X6_read l G τ hI hYT) ck11_279 (Nat.le_of_ble_eq_true rfl) rfl (fun _ => ⟨_, rfl⟩) ⟨_, _, rfl⟩ ⟨Nat.le_of_ble_eq_true rfl, Nat.le_of_ble_eq_true rfl⟩ rfl hl.1 rfl (Nat.le_of_ble_eq_true rfl) dX11_sentence_11 ⟨Nat.le_refl 0, Nat.le_refl 0⟩) X (fun v4 t3 H lc q1 X2 => ?_)
  unfold po_X6_read at q1
  obtain ⟨q5, q6, q7, q8⟩ := q1
  have F9 : Fr [(16, 1), (16, 2), (17, 4), (1, 3), (1, 4), (1, 5), (1, 7), (1, 8), (16, 4), (16, 5), (1, 2), (1, 1), (0, 12), (35, 4)] [18, 19, 20, 36, 37, 38, 201] τ t3 := Fr_call Fr_rfl q6 (by decide)
  refine r_istore_n (lv' := [(1, .int v4), (0, .ref (G.2.2.2.1 0))]) S dX11_sentence_14 rfl hl (by decide) rfl (fun ls hl => ?_)
  refine r_aload_n S dX11_sentence_15 rfl (lv_at hl 1 rfl) ?_
  refine r_aload_n S dX11_sentence_16 rfl (lv_at hl 1 rfl) ?_
  refine r_get (K := 0) (v := .ref (G.2.2.2.1 16)) S X2 (Nat.le_of_ble_eq_true rfl) rfl lk11_35_9 (fun _ => ⟨_, rfl, rfl⟩) dX11_sentence_17 ?_
  refine r_getn (K := 16) S X2 (Nat.le_of_ble_eq_true rfl) rfl lk11_280_6 (fun _ => ⟨_, rfl, rfl⟩) dX11_sentence_20 (fun v10 z11 => ?_)
  have r13 := R_any v10
  refine r_put (K := 0) (ty := .int) S X2 (Nat.le_of_ble_eq_true rfl) rfl lk11_102_9 (fun _ => ⟨_, rfl, Nat.le_of_ble_eq_true rfl, rfl⟩) (fun _ _ _ h => by cases h; exact ⟨rfl, rfl⟩) rfl rfl dX11_sentence_23 (fun t14 H lc M15 X16 => ?_)
  have I17 := Inv_mu q5 M15 (R_any v10)
  have F18 : Fr [(16, 1), (16, 2), (17, 4), (1, 3), (1, 4), (1, 5), (1, 7), (1, 8), (16, 4), (16, 5), (1, 2), (1, 1), (0, 12), (35, 4)] [18, 19, 20, 36, 37, 38, 201] τ t14 := Fr_mu F9 M15 (by decide)
  refine r_aload_n S dX11_sentence_26 rfl (lv_at hl 1 rfl) ?_
  refine r_get (K := 0) (v := .ref (G.2.2.2.1 1)) S X16 (Nat.le_of_ble_eq_true rfl) rfl lk11_12_9 (fun _ => ⟨_, rfl, rfl⟩) dX11_sentence_27 ?_
  refine r_iconst S dX11_sentence_30 (by decide) (fun v19 z20 => ?_)
  have r21 := R_eq z20
  refine r_put (K := 1) (ty := .int) S X16 (Nat.le_of_ble_eq_true rfl) rfl lk11_88_7 (fun _ => ⟨_, rfl, Nat.le_of_ble_eq_true rfl, rfl⟩) (fun _ _ _ h => by cases h; exact ⟨rfl, rfl⟩) rfl rfl dX11_sentence_31 (fun t22 H lc M23 X24 => ?_)
  have I25 := Inv_mu I17 M23 (show Rg (kd 1) 1 v19 from (R_of (lo := 0) (hi := 940) r21 rfl))
  have F26 : Fr [(16, 1), (16, 2), (17, 4), (1, 3), (1, 4), (1, 5), (1, 7), (1, 8), (16, 4), (16, 5), (1, 2), (1, 1), (0, 12), (35, 4)] [18, 19, 20, 36, 37, 38, 201] τ t22 := Fr_mu F18 M23 (by decide)
  refine r_iload_n S dX11_sentence_34 rfl (lv_at hl 0 rfl) ?_
  refine r_if_ne (tgt := 48) S dX11_sentence_35 (by decide) (fun c27 => ?_) (fun c27 => ?_)
  ·
    have r28 : R (1) (1) v4 := ⟨by omega, by omega⟩
    refine r_aload_n S dX11_sentence_48 rfl (lv_at hl 1 rfl) ?_
    refine r_get (K := 0) (v := .ref (G.2.2.2.1 22)) S X24 (Nat.le_of_ble_eq_true rfl) rfl lk11_42_9 (fun _ => ⟨_, rfl, rfl⟩) dX11_sentence_49 ?_
    refine r_get (K := 22) (v := .ref (G.2.2.2.1 35)) S X24 (Nat.le_of_ble_eq_true rfl) rfl lk11_281_8 (fun _ => ⟨_, rfl, rfl⟩) dX11_sentence_52 ?_
    refine r_aload_n S dX11_sentence_55 rfl (lv_at hl 1 rfl) ?_
    refine r_get (K := 0) (v := .ref (G.2.2.2.1 16)) S X24 (Nat.le_of_ble_eq_true rfl) rfl lk11_35_9 (fun _ => ⟨_, rfl, rfl⟩) dX11_sentence_56 ?_
    refine r_get (K := 16) (v := .ref (G.2.2.2.1 17)) S X24 (Nat.le_of_ble_eq_true rfl) rfl lk11_285_6 (fun _ => ⟨_, rfl, rfl⟩) dX11_sentence_59 ?_
    refine r_kv (q_V (As := [.ref (G.2.2.2.1 17)]) (rest := []) (K := 17) (ci := 5) S X24 (c_sncopy_35_17 l G t22 I25 (YW_eq hYW (fun j => ((M23.2 36 j (Or.inl (by decide))).trans ((M15.2 36 j (Or.inl (by decide))).trans ((q6 36 j (by simp [fz])).trans rfl)))) (fun j => ((M23.2 37 j (Or.inl (by decide))).trans ((M15.2 37 j (Or.inl (by decide))).trans ((q6 37 j (by simp [fz])).trans rfl))))) (YT_eq q7 (fun j => ((M23.2 18 j (Or.inl (by decide))).trans ((M15.2 18 j (Or.inl (by decide))).trans rfl))) (fun j => ((M23.2 19 j (Or.inl (by decide))).trans ((M15.2 19 j (Or.inl (by decide))).trans rfl))))) ck11_288 (Nat.le_of_ble_eq_true rfl) rfl (fun _ => ⟨_, rfl⟩) ⟨_, _, rfl⟩ ⟨Nat.le_of_ble_eq_true rfl, Nat.le_of_ble_eq_true rfl⟩ rfl hl.1 rfl (Nat.le_of_ble_eq_true rfl) dX11_sentence_62 ⟨Nat.le_refl 0, Nat.le_refl 0⟩) X24 (fun t31 H lc q29 X30 => ?_)
    unfold po_sncopy_35_17 at q29
    obtain ⟨q32, q33, q34⟩ := q29
    have F35 : Fr [(16, 1), (16, 2), (17, 4), (1, 3), (1, 4), (1, 5), (1, 7), (1, 8), (16, 4), (16, 5), (1, 2), (1, 1), (0, 12), (35, 4)] [18, 19, 20, 36, 37, 38, 201] τ t31 := Fr_call F26 q33 (by decide)
    refine r_aload_n S dX11_sentence_65 rfl (lv_at hl 1 rfl) ?_
    refine r_get (K := 0) (v := .ref (G.2.2.2.1 16)) S X30 (Nat.le_of_ble_eq_true rfl) rfl lk11_35_9 (fun _ => ⟨_, rfl, rfl⟩) dX11_sentence_66 ?_
    refine r_getn (K := 16) S X30 (Nat.le_of_ble_eq_true rfl) rfl lk11_293_6 (fun _ => ⟨_, rfl, rfl⟩) dX11_sentence_69 (fun v36 z37 => ?_)
    have r38 : R (0) (20) v36 := rd q32 rfl z37
    exact r_ret S hr hlk X30 ⟨q32, F35, (YT_eq q7 (fun j => ((q33 18 j (by simp [fz])).trans ((M23.2 18 j (Or.inl (by decide))).trans ((M15.2 18 j (Or.inl (by decide))).trans rfl)))) (fun j => ((q33 19 j (by simp [fz])).trans ((M23.2 19 j (Or.inl (by decide))).trans ((M15.2 19 j (Or.inl (by decide))).trans rfl))))), q34, (by have h1_0 := congrArg Int32.toInt ((q33 1 1 (by decide)).trans M23.1); omega)⟩ rfl dX11_sentence_72
  ·
    have r39 : R (0) (0) v4 := ⟨by omega, by omega⟩
    refine r_iconst S dX11_sentence_38 (by decide) (fun v40 z41 => ?_)
    have r42 := R_eq z41
    refine r_aload_n S dX11_sentence_39 rfl (lv_at hl 1 rfl) ?_
    refine r_get (K := 0) (v := .ref (G.2.2.2.1 1)) S X24 (Nat.le_of_ble_eq_true rfl) rfl lk11_12_9 (fun _ => ⟨_, rfl, rfl⟩) dX11_sentence_40 ?_
    refine r_getn (K := 1) S X24 (Nat.le_of_ble_eq_true rfl) rfl lk11_105_7 (fun _ => ⟨_, rfl, rfl⟩) dX11_sentence_43 (fun v43 z44 => ?_)
    have r45 : R (0) (940) v43 := rd I25 rfl z44
    refine r_isub S dX11_sentence_46 (fun v46 z47 => ?_)
    obtain ⟨e48, r49⟩ := i_sub (lo := -941) (hi := -1) z47 r42 r45 rfl
    exact r_ret S hr hlk X24 ⟨I25, F26, (YT_eq q7 (fun j => ((M23.2 18 j (Or.inl (by decide))).trans ((M15.2 18 j (Or.inl (by decide))).trans rfl))) (fun j => ((M23.2 19 j (Or.inl (by decide))).trans ((M15.2 19 j (Or.inl (by decide))).trans rfl)))), (YW_eq hYW (fun j => ((M23.2 36 j (Or.inl (by decide))).trans ((M15.2 36 j (Or.inl (by decide))).trans ((q6 36 j (by simp [fz])).trans rfl)))) (fun j => ((M23.2 37 j (Or.inl (by decide))).trans ((M15.2 37 j (Or.inl (by decide))).trans ((q6 37 j (by simp [fz])).trans rfl))))), (by have h1_0 := congrArg Int32.toInt M23.1; omega)⟩ rfl dX11_sentence_47
