def po_X6_firstMeasure_q (τ : Tau)    (bb : Nat → Int) (nb : Nat) (an mn : List (List Int)) (t : Tk) (r : Int32) (u : Tau) : Prop := u = τ ∧ R (0) (24) r ∧ FM bb t r
set_option maxHeartbeats 4000000 in
set_option maxRecDepth 100000 in
theorem c_X6_firstMeasure_q (l : Launch) (G : Gx) (τ : Tau) (hI : Inv τ) (bb : Nat → Int) (nb : Nat) (an mn : List (List Int)) (t : Tk) (hR : RG bb nb 200 an mn τ t) : Cw l G yX6_firstMeasure cX6_firstMeasure 1 (some (.object "OpinionFerry$Word")) 1 21 [.ref (G.2.2.2.1 16)] τ (po_X6_firstMeasure_q τ    bb nb an mn t) := by
  unfold Cw
  refine C_of (own := RX6) (by decide) rfl (Nat.le_of_ble_eq_true rfl) ?_
  intro p e s m below meth c ls S hr hlk X hl
  have hl : lv_has ls 1 [(0, .ref (G.2.2.2.1 16))] := hl
  refine r_aload_n S dX6_firstMeasure_0 rfl (lv_at hl 0 rfl) ?_
  refine r_get (K := 16) (v := .ref (G.2.2.2.1 1)) S X (Nat.le_of_ble_eq_true rfl) rfl lk6_39_6 (fun _ => ⟨_, rfl, rfl⟩) dX6_firstMeasure_1 ?_
  refine r_wst (i := 20) S X (by decide) kw70 dX6_firstMeasure_4 ?_
  refine r_ki (q_V (As := [.ref (G.2.2.1 20)]) (rest := []) (K := 1) (ci := 7) S X (c_X7_is_q l G τ hI 20 (by decide) bb nb 200 t hR.1) ck6_60 (Nat.le_of_ble_eq_true rfl) rfl (fun _ => ⟨_, rfl⟩) ⟨_, _, rfl⟩ ⟨Nat.le_of_ble_eq_true rfl, Nat.le_of_ble_eq_true rfl⟩ rfl hl.1 rfl (Nat.le_of_ble_eq_true rfl) dX6_firstMeasure_7 ⟨Nat.le_refl 0, Nat.le_refl 0⟩) X (fun v4 t3 H lc q1 X2 => ?_)
  unfold po_X7_is_q at q1
  obtain ⟨q5, q6, q7⟩ := q1
  rw [q5] at X2
  refine r_if_eq (tgt := 17) S dX6_firstMeasure_10 (by decide) (fun c8 => ?_) (fun c8 => ?_)
  ·
    have r9 : R (0) (0) v4 := ⟨by omega, by omega⟩
    have p10 := (iff_n q7) (by omega)
    refine r_aload_n S dX6_firstMeasure_17 rfl (lv_at hl 0 rfl) ?_
    refine r_get (K := 16) (v := .ref (G.2.2.2.1 1)) S X2 (Nat.le_of_ble_eq_true rfl) rfl lk6_39_6 (fun _ => ⟨_, rfl, rfl⟩) dX6_firstMeasure_18 ?_
    refine r_wst (i := 21) S X2 (by decide) kw71 dX6_firstMeasure_21 ?_
    refine r_ki (q_V (As := [.ref (G.2.2.1 21)]) (rest := []) (K := 1) (ci := 7) S X2 (c_X7_is_q l G τ hI 21 (by decide) bb nb 200 t hR.1) ck6_60 (Nat.le_of_ble_eq_true rfl) rfl (fun _ => ⟨_, rfl⟩) ⟨_, _, rfl⟩ ⟨Nat.le_of_ble_eq_true rfl, Nat.le_of_ble_eq_true rfl⟩ rfl hl.1 rfl (Nat.le_of_ble_eq_true rfl) dX6_firstMeasure_24 ⟨Nat.le_refl 0, Nat.le_refl 0⟩) X2 (fun v14 t13 H lc q11 X12 => ?_)
    unfold po_X7_is_q at q11
    obtain ⟨q15, q16, q17⟩ := q11
    rw [q15] at X12
    refine r_if_eq (tgt := 34) S dX6_firstMeasure_27 (by decide) (fun c18 => ?_) (fun c18 => ?_)
    ·
      have r19 : R (0) (0) v14 := ⟨by omega, by omega⟩
      have p20 := (iff_n q17) (by omega)
      refine r_aload_n S dX6_firstMeasure_34 rfl (lv_at hl 0 rfl) ?_
      refine r_get (K := 16) (v := .ref (G.2.2.2.1 1)) S X12 (Nat.le_of_ble_eq_true rfl) rfl lk6_39_6 (fun _ => ⟨_, rfl, rfl⟩) dX6_firstMeasure_35 ?_
      refine r_wst (i := 22) S X12 (by decide) kw72 dX6_firstMeasure_38 ?_
      refine r_ki (q_V (As := [.ref (G.2.2.1 22)]) (rest := []) (K := 1) (ci := 7) S X12 (c_X7_is_q l G τ hI 22 (by decide) bb nb 200 t hR.1) ck6_60 (Nat.le_of_ble_eq_true rfl) rfl (fun _ => ⟨_, rfl⟩) ⟨_, _, rfl⟩ ⟨Nat.le_of_ble_eq_true rfl, Nat.le_of_ble_eq_true rfl⟩ rfl hl.1 rfl (Nat.le_of_ble_eq_true rfl) dX6_firstMeasure_41 ⟨Nat.le_refl 0, Nat.le_refl 0⟩) X12 (fun v24 t23 H lc q21 X22 => ?_)
      unfold po_X7_is_q at q21
      obtain ⟨q25, q26, q27⟩ := q21
      rw [q25] at X22
      refine r_if_eq (tgt := 51) S dX6_firstMeasure_44 (by decide) (fun c28 => ?_) (fun c28 => ?_)
      ·
        have r29 : R (0) (0) v24 := ⟨by omega, by omega⟩
        have p30 := (iff_n q27) (by omega)
        refine r_aload_n S dX6_firstMeasure_51 rfl (lv_at hl 0 rfl) ?_
        refine r_get (K := 16) (v := .ref (G.2.2.2.1 1)) S X22 (Nat.le_of_ble_eq_true rfl) rfl lk6_39_6 (fun _ => ⟨_, rfl, rfl⟩) dX6_firstMeasure_52 ?_
        refine r_wst (i := 23) S X22 (by decide) kw73 dX6_firstMeasure_55 ?_
        refine r_ki (q_V (As := [.ref (G.2.2.1 23)]) (rest := []) (K := 1) (ci := 7) S X22 (c_X7_is_q l G τ hI 23 (by decide) bb nb 200 t hR.1) ck6_60 (Nat.le_of_ble_eq_true rfl) rfl (fun _ => ⟨_, rfl⟩) ⟨_, _, rfl⟩ ⟨Nat.le_of_ble_eq_true rfl, Nat.le_of_ble_eq_true rfl⟩ rfl hl.1 rfl (Nat.le_of_ble_eq_true rfl) dX6_firstMeasure_58 ⟨Nat.le_refl 0, Nat.le_refl 0⟩) X22 (fun v34 t33 H lc q31 X32 => ?_)
        unfold po_X7_is_q at q31
        obtain ⟨q35, q36, q37⟩ := q31
        rw [q35] at X32
        refine r_if_eq (tgt := 70) S dX6_firstMeasure_61 (by decide) (fun c38 => ?_) (fun c38 => ?_)
        ·
          have r39 : R (0) (0) v34 := ⟨by omega, by omega⟩
          have p40 := (iff_n q37) (by omega)
          refine lv_null S.1.1 S.1.2.1 dX6_firstMeasure_70 ?_
          obtain ⟨y41, h42, r43⟩ := wx_0
          exact r_cretn (x := y41) S hr hlk X32 ⟨rfl, r43, (FM_0 (by omega) p10 p20 p30 p40)⟩ h42 dX6_firstMeasure_71
        ·
          have r44 : R (1) (1) v34 := ⟨by omega, by omega⟩
          have p45 := (q37).mp (by omega)
          refine r_wst (i := 23) S X32 (by decide) kw73 dX6_firstMeasure_64 ?_
          refine r_goto (tgt := 71) S dX6_firstMeasure_67 (by decide) ?_
          obtain ⟨y46, h47, r48⟩ := wx_c 23 (by decide)
          exact r_cretc (x := y46) S hr hlk X32 ⟨rfl, r48, (FM_w p45 (by omega) (by decide))⟩ h47 dX6_firstMeasure_71
      ·
        have r49 : R (1) (1) v24 := ⟨by omega, by omega⟩
        have p50 := (q27).mp (by omega)
        refine r_wst (i := 22) S X22 (by decide) kw72 dX6_firstMeasure_47 ?_
        obtain ⟨y51, h52, r53⟩ := wx_c 22 (by decide)
        exact r_cretc (x := y51) S hr hlk X22 ⟨rfl, r53, (FM_w p50 (by omega) (by decide))⟩ h52 dX6_firstMeasure_50
    ·
      have r54 : R (1) (1) v14 := ⟨by omega, by omega⟩
      have p55 := (q17).mp (by omega)
      refine r_wst (i := 21) S X12 (by decide) kw71 dX6_firstMeasure_30 ?_
      obtain ⟨y56, h57, r58⟩ := wx_c 21 (by decide)
      exact r_cretc (x := y56) S hr hlk X12 ⟨rfl, r58, (FM_w p55 (by omega) (by decide))⟩ h57 dX6_firstMeasure_33
  ·
    have r59 : R (1) (1) v4 := ⟨by omega, by omega⟩
    have p60 := (q7).mp (by omega)
    refine r_wst (i := 20) S X2 (by decide) kw70 dX6_firstMeasure_13 ?_
    obtain ⟨y61, h62, r63⟩ := wx_c 20 (by decide)
    exact r_cretc (x := y61) S hr hlk X2 ⟨rfl, r63, (FM_w p60 (by omega) (by decide))⟩ h62 dX6_firstMeasure_16
def po_X6_firstWord_q (τ : Tau)    (bb : Nat → Int) (nb : Nat) (an mn : List (List Int)) (t : Tk) (r : Int32) (u : Tau) : Prop := u = τ ∧ R (0) (24) r ∧ FW bb t r
set_option maxHeartbeats 4000000 in
set_option maxRecDepth 100000 in
theorem c_X6_firstWord_q (l : Launch) (G : Gx) (τ : Tau) (hI : Inv τ) (bb : Nat → Int) (nb : Nat) (an mn : List (List Int)) (t : Tk) (hR : RG bb nb 200 an mn τ t) : Cw l G yX6_firstWord cX6_firstWord 1 (some (.object "OpinionFerry$Word")) 2 41 [.ref (G.2.2.2.1 16)] τ (po_X6_firstWord_q τ    bb nb an mn t) := by
  unfold Cw
  refine C_of (own := RX6) (by decide) rfl (Nat.le_of_ble_eq_true rfl) ?_
  intro p e s m below meth c ls S hr hlk X hl
  have hl : lv_has ls 1 [(0, .ref (G.2.2.2.1 16))] := hl
  refine r_aload_n S dX6_firstWord_0 rfl (lv_at hl 0 rfl) ?_
  refine r_get (K := 16) (v := .ref (G.2.2.2.1 1)) S X (Nat.le_of_ble_eq_true rfl) rfl lk6_39_6 (fun _ => ⟨_, rfl, rfl⟩) dX6_firstWord_1 ?_
  refine r_wst (i := 15) S X (by decide) kw74 dX6_firstWord_4 ?_
  refine r_ki (q_V (As := [.ref (G.2.2.1 15)]) (rest := []) (K := 1) (ci := 7) S X (c_X7_is_q l G τ hI 15 (by decide) bb nb 200 t hR.1) ck6_60 (Nat.le_of_ble_eq_true rfl) rfl (fun _ => ⟨_, rfl⟩) ⟨_, _, rfl⟩ ⟨Nat.le_of_ble_eq_true rfl, Nat.le_of_ble_eq_true rfl⟩ rfl hl.1 rfl (Nat.le_of_ble_eq_true rfl) dX6_firstWord_7 ⟨Nat.le_refl 0, Nat.le_refl 0⟩) X (fun v4 t3 H lc q1 X2 => ?_)
  unfold po_X7_is_q at q1
  obtain ⟨q5, q6, q7⟩ := q1
  rw [q5] at X2
  refine r_if_eq (tgt := 17) S dX6_firstWord_10 (by decide) (fun c8 => ?_) (fun c8 => ?_)
  ·
    have r9 : R (0) (0) v4 := ⟨by omega, by omega⟩
    have p10 := (iff_n q7) (by omega)
    refine r_aload_n S dX6_firstWord_17 rfl (lv_at hl 0 rfl) ?_
    refine r_get (K := 16) (v := .ref (G.2.2.2.1 1)) S X2 (Nat.le_of_ble_eq_true rfl) rfl lk6_39_6 (fun _ => ⟨_, rfl, rfl⟩) dX6_firstWord_18 ?_
    refine r_wst (i := 16) S X2 (by decide) kw75 dX6_firstWord_21 ?_
    refine r_ki (q_V (As := [.ref (G.2.2.1 16)]) (rest := []) (K := 1) (ci := 7) S X2 (c_X7_is_q l G τ hI 16 (by decide) bb nb 200 t hR.1) ck6_60 (Nat.le_of_ble_eq_true rfl) rfl (fun _ => ⟨_, rfl⟩) ⟨_, _, rfl⟩ ⟨Nat.le_of_ble_eq_true rfl, Nat.le_of_ble_eq_true rfl⟩ rfl hl.1 rfl (Nat.le_of_ble_eq_true rfl) dX6_firstWord_24 ⟨Nat.le_refl 0, Nat.le_refl 0⟩) X2 (fun v14 t13 H lc q11 X12 => ?_)
    unfold po_X7_is_q at q11
    obtain ⟨q15, q16, q17⟩ := q11
    rw [q15] at X12
    refine r_if_eq (tgt := 34) S dX6_firstWord_27 (by decide) (fun c18 => ?_) (fun c18 => ?_)
    ·
      have r19 : R (0) (0) v14 := ⟨by omega, by omega⟩
      have p20 := (iff_n q17) (by omega)
      refine r_aload_n S dX6_firstWord_34 rfl (lv_at hl 0 rfl) ?_
      refine r_get (K := 16) (v := .ref (G.2.2.2.1 1)) S X12 (Nat.le_of_ble_eq_true rfl) rfl lk6_39_6 (fun _ => ⟨_, rfl, rfl⟩) dX6_firstWord_35 ?_
      refine r_wst (i := 17) S X12 (by decide) kw76 dX6_firstWord_38 ?_
      refine r_ki (q_V (As := [.ref (G.2.2.1 17)]) (rest := []) (K := 1) (ci := 7) S X12 (c_X7_is_q l G τ hI 17 (by decide) bb nb 200 t hR.1) ck6_60 (Nat.le_of_ble_eq_true rfl) rfl (fun _ => ⟨_, rfl⟩) ⟨_, _, rfl⟩ ⟨Nat.le_of_ble_eq_true rfl, Nat.le_of_ble_eq_true rfl⟩ rfl hl.1 rfl (Nat.le_of_ble_eq_true rfl) dX6_firstWord_41 ⟨Nat.le_refl 0, Nat.le_refl 0⟩) X12 (fun v24 t23 H lc q21 X22 => ?_)
      unfold po_X7_is_q at q21
      obtain ⟨q25, q26, q27⟩ := q21
      rw [q25] at X22
      refine r_if_eq (tgt := 51) S dX6_firstWord_44 (by decide) (fun c28 => ?_) (fun c28 => ?_)
      ·
        have r29 : R (0) (0) v24 := ⟨by omega, by omega⟩
        have p30 := (iff_n q27) (by omega)
        refine r_aload_n S dX6_firstWord_51 rfl (lv_at hl 0 rfl) ?_
        refine r_get (K := 16) (v := .ref (G.2.2.2.1 1)) S X22 (Nat.le_of_ble_eq_true rfl) rfl lk6_39_6 (fun _ => ⟨_, rfl, rfl⟩) dX6_firstWord_52 ?_
        refine r_wst (i := 18) S X22 (by decide) kw77 dX6_firstWord_55 ?_
        refine r_ki (q_V (As := [.ref (G.2.2.1 18)]) (rest := []) (K := 1) (ci := 7) S X22 (c_X7_is_q l G τ hI 18 (by decide) bb nb 200 t hR.1) ck6_60 (Nat.le_of_ble_eq_true rfl) rfl (fun _ => ⟨_, rfl⟩) ⟨_, _, rfl⟩ ⟨Nat.le_of_ble_eq_true rfl, Nat.le_of_ble_eq_true rfl⟩ rfl hl.1 rfl (Nat.le_of_ble_eq_true rfl) dX6_firstWord_58 ⟨Nat.le_refl 0, Nat.le_refl 0⟩) X22 (fun v34 t33 H lc q31 X32 => ?_)
        unfold po_X7_is_q at q31
        obtain ⟨q35, q36, q37⟩ := q31
        rw [q35] at X32
        refine r_if_eq (tgt := 68) S dX6_firstWord_61 (by decide) (fun c38 => ?_) (fun c38 => ?_)
        ·
          have r39 : R (0) (0) v34 := ⟨by omega, by omega⟩
          have p40 := (iff_n q37) (by omega)
          refine r_aload_n S dX6_firstWord_68 rfl (lv_at hl 0 rfl) ?_
          refine r_get (K := 16) (v := .ref (G.2.2.2.1 1)) S X32 (Nat.le_of_ble_eq_true rfl) rfl lk6_39_6 (fun _ => ⟨_, rfl, rfl⟩) dX6_firstWord_69 ?_
          refine r_wst (i := 19) S X32 (by decide) kw78 dX6_firstWord_72 ?_
          refine r_ki (q_V (As := [.ref (G.2.2.1 19)]) (rest := []) (K := 1) (ci := 7) S X32 (c_X7_is_q l G τ hI 19 (by decide) bb nb 200 t hR.1) ck6_60 (Nat.le_of_ble_eq_true rfl) rfl (fun _ => ⟨_, rfl⟩) ⟨_, _, rfl⟩ ⟨Nat.le_of_ble_eq_true rfl, Nat.le_of_ble_eq_true rfl⟩ rfl hl.1 rfl (Nat.le_of_ble_eq_true rfl) dX6_firstWord_75 ⟨Nat.le_refl 0, Nat.le_refl 0⟩) X32 (fun v44 t43 H lc q41 X42 => ?_)
          unfold po_X7_is_q at q41
          obtain ⟨q45, q46, q47⟩ := q41
          rw [q45] at X42
          refine r_if_eq (tgt := 85) S dX6_firstWord_78 (by decide) (fun c48 => ?_) (fun c48 => ?_)
          ·
            have r49 : R (0) (0) v44 := ⟨by omega, by omega⟩
            have p50 := (iff_n q47) (by omega)
            refine r_aload_n S dX6_firstWord_85 rfl (lv_at hl 0 rfl) ?_
            refine r_get (K := 16) (v := .ref (G.2.2.2.1 1)) S X42 (Nat.le_of_ble_eq_true rfl) rfl lk6_39_6 (fun _ => ⟨_, rfl, rfl⟩) dX6_firstWord_86 ?_
            refine r_wst (i := 4) S X42 (by decide) kw79 dX6_firstWord_89 ?_
            refine r_ki (q_V (As := [.ref (G.2.2.1 4)]) (rest := []) (K := 1) (ci := 7) S X42 (c_X7_is_q l G τ hI 4 (by decide) bb nb 200 t hR.1) ck6_60 (Nat.le_of_ble_eq_true rfl) rfl (fun _ => ⟨_, rfl⟩) ⟨_, _, rfl⟩ ⟨Nat.le_of_ble_eq_true rfl, Nat.le_of_ble_eq_true rfl⟩ rfl hl.1 rfl (Nat.le_of_ble_eq_true rfl) dX6_firstWord_92 ⟨Nat.le_refl 0, Nat.le_refl 0⟩) X42 (fun v54 t53 H lc q51 X52 => ?_)
            unfold po_X7_is_q at q51
            obtain ⟨q55, q56, q57⟩ := q51
            rw [q55] at X52
            refine r_if_eq (tgt := 102) S dX6_firstWord_95 (by decide) (fun c58 => ?_) (fun c58 => ?_)
            ·
              have r59 : R (0) (0) v54 := ⟨by omega, by omega⟩
              have p60 := (iff_n q57) (by omega)
              refine r_aload_n S dX6_firstWord_102 rfl (lv_at hl 0 rfl) ?_
              refine r_get (K := 16) (v := .ref (G.2.2.2.1 1)) S X52 (Nat.le_of_ble_eq_true rfl) rfl lk6_39_6 (fun _ => ⟨_, rfl, rfl⟩) dX6_firstWord_103 ?_
              refine r_wst (i := 5) S X52 (by decide) kw80 dX6_firstWord_106 ?_
              refine r_ki (q_V (As := [.ref (G.2.2.1 5)]) (rest := []) (K := 1) (ci := 7) S X52 (c_X7_is_q l G τ hI 5 (by decide) bb nb 200 t hR.1) ck6_60 (Nat.le_of_ble_eq_true rfl) rfl (fun _ => ⟨_, rfl⟩) ⟨_, _, rfl⟩ ⟨Nat.le_of_ble_eq_true rfl, Nat.le_of_ble_eq_true rfl⟩ rfl hl.1 rfl (Nat.le_of_ble_eq_true rfl) dX6_firstWord_109 ⟨Nat.le_refl 0, Nat.le_refl 0⟩) X52 (fun v64 t63 H lc q61 X62 => ?_)
              unfold po_X7_is_q at q61
              obtain ⟨q65, q66, q67⟩ := q61
              rw [q65] at X62
              refine r_if_eq (tgt := 121) S dX6_firstWord_112 (by decide) (fun c68 => ?_) (fun c68 => ?_)
              ·
                have r69 : R (0) (0) v64 := ⟨by omega, by omega⟩
                have p70 := (iff_n q67) (by omega)
                refine r_aload_n S dX6_firstWord_121 rfl (lv_at hl 0 rfl) ?_
                refine r_kw2 (q_V (As := []) (rest := []) (K := 16) (ci := 6) S X62 (c_X6_firstMeasure_q l G τ hI bb nb an mn t hR) ck6_112 (Nat.le_of_ble_eq_true rfl) rfl (fun _ => ⟨_, rfl⟩) ⟨_, _, rfl⟩ ⟨Nat.le_of_ble_eq_true rfl, Nat.le_of_ble_eq_true rfl⟩ rfl hl.1 rfl (Nat.le_of_ble_eq_true rfl) dX6_firstWord_122 ⟨Nat.le_refl 0, Nat.le_refl 0⟩) X62 (fun _ _ h => h.2.1) (fun y74 t73 H lc q71 X72 h75 => ?_) (fun y74 t73 H lc w76 q71 X72 h_w76 e77 => ?_)
                ·
                  unfold po_X6_firstMeasure_q at q71
                  obtain ⟨q78, q79, q80⟩ := q71
                  rw [q78] at X72
                  have r81 : R 0 24 y74 := ⟨by omega, by omega⟩
                  exact r_cretn (x := y74) S hr hlk X72 ⟨rfl, r81, (FW_m q80 p10 p20 p30 p40 p50 p60 p70)⟩ h75 dX6_firstWord_125
                ·
                  unfold po_X6_firstMeasure_q at q71
                  obtain ⟨q82, q83, q84⟩ := q71
                  rw [q82] at X72
                  have r85 : R 0 24 y74 := ⟨by omega, by omega⟩
                  exact r_cretc (x := y74) S hr hlk X72 ⟨rfl, r85, (FW_m q84 p10 p20 p30 p40 p50 p60 p70)⟩ e77 dX6_firstWord_125
              ·
                have r86 : R (1) (1) v64 := ⟨by omega, by omega⟩
                have p87 := (q67).mp (by omega)
                refine r_wst (i := 5) S X62 (by decide) kw80 dX6_firstWord_115 ?_
                refine r_goto (tgt := 125) S dX6_firstWord_118 (by decide) ?_
                obtain ⟨y88, h89, r90⟩ := wx_c 5 (by decide)
                exact r_cretc (x := y88) S hr hlk X62 ⟨rfl, r90, (FW_w p87 (by omega) (by decide))⟩ h89 dX6_firstWord_125
            ·
              have r91 : R (1) (1) v54 := ⟨by omega, by omega⟩
              have p92 := (q57).mp (by omega)
              refine r_wst (i := 4) S X52 (by decide) kw79 dX6_firstWord_98 ?_
              obtain ⟨y93, h94, r95⟩ := wx_c 4 (by decide)
              exact r_cretc (x := y93) S hr hlk X52 ⟨rfl, r95, (FW_w p92 (by omega) (by decide))⟩ h94 dX6_firstWord_101
          ·
            have r96 : R (1) (1) v44 := ⟨by omega, by omega⟩
            have p97 := (q47).mp (by omega)
            refine r_wst (i := 19) S X42 (by decide) kw78 dX6_firstWord_81 ?_
            obtain ⟨y98, h99, r100⟩ := wx_c 19 (by decide)
            exact r_cretc (x := y98) S hr hlk X42 ⟨rfl, r100, (FW_w p97 (by omega) (by decide))⟩ h99 dX6_firstWord_84
        ·
          have r101 : R (1) (1) v34 := ⟨by omega, by omega⟩
          have p102 := (q37).mp (by omega)
          refine r_wst (i := 18) S X32 (by decide) kw77 dX6_firstWord_64 ?_
          obtain ⟨y103, h104, r105⟩ := wx_c 18 (by decide)
          exact r_cretc (x := y103) S hr hlk X32 ⟨rfl, r105, (FW_w p102 (by omega) (by decide))⟩ h104 dX6_firstWord_67
      ·
        have r106 : R (1) (1) v24 := ⟨by omega, by omega⟩
        have p107 := (q27).mp (by omega)
        refine r_wst (i := 17) S X22 (by decide) kw76 dX6_firstWord_47 ?_
        obtain ⟨y108, h109, r110⟩ := wx_c 17 (by decide)
        exact r_cretc (x := y108) S hr hlk X22 ⟨rfl, r110, (FW_w p107 (by omega) (by decide))⟩ h109 dX6_firstWord_50
    ·
      have r111 : R (1) (1) v14 := ⟨by omega, by omega⟩
      have p112 := (q17).mp (by omega)
      refine r_wst (i := 16) S X12 (by decide) kw75 dX6_firstWord_30 ?_
      obtain ⟨y113, h114, r115⟩ := wx_c 16 (by decide)
      exact r_cretc (x := y113) S hr hlk X12 ⟨rfl, r115, (FW_w p112 (by omega) (by decide))⟩ h114 dX6_firstWord_33
  ·
    have r116 : R (1) (1) v4 := ⟨by omega, by omega⟩
    have p117 := (q7).mp (by omega)
    refine r_wst (i := 15) S X2 (by decide) kw74 dX6_firstWord_13 ?_
    obtain ⟨y118, h119, r120⟩ := wx_c 15 (by decide)
    exact r_cretc (x := y118) S hr hlk X2 ⟨rfl, r120, (FW_w p117 (by omega) (by decide))⟩ h119 dX6_firstWord_16
def po_X6_readPlainOne_q (τ : Tau)    (bb : Nat → Int) (nb : Nat) (an mn : List (List Int)) (t : Tk) (r : Int32) (u : Tau) : Prop := Inv u ∧ Fr [(16, 1), (16, 2), (17, 4), (1, 3), (1, 4), (1, 5), (1, 7), (1, 8)] [18, 19, 20, 201] τ u ∧ YT u ∧ R (0) (1) r ∧ (r.toInt = 1 → R (0) (0) (u 16 1)) ∧ QY 16 (sLeaf bb nb 200 an mn t) r u (fun g => RG bb nb 200 an mn u g)
set_option maxHeartbeats 4000000 in
set_option maxRecDepth 100000 in
theorem c_X6_readPlainOne_q (l : Launch) (G : Gx) (τ : Tau) (hI : Inv τ) (a0 : Nat) (h_a0 : a0 < 24) (hf_0 : R (1) (1) (τ 16 5)) (hf_1 : R (0) (0) (τ 16 1)) (hYT : YT τ) (bb : Nat → Int) (nb : Nat) (an mn : List (List Int)) (t : Tk) (hR : RG bb nb 200 an mn τ (nx bb nb 200 t)) (hW : isW bb a0 t) (hF : fwI a0 ∧ a0 ≠ 15) : Ci l G yX6_readPlainOne cX6_readPlainOne 4 (some .boolean) 2 46 [.ref (G.2.2.2.1 16), .ref (G.2.2.1 a0)] τ (po_X6_readPlainOne_q τ    bb nb an mn t) := by
  unfold Ci
  refine C_of (own := RX6) (by decide) rfl (Nat.le_of_ble_eq_true rfl) ?_
  intro p e s m below meth c ls S hr hlk X hl
  have hl : lv_has ls 4 [(0, .ref (G.2.2.2.1 16)), (1, .ref (G.2.2.1 a0))] := hl
  obtain ⟨v1, z2⟩ : ∃ x, τ 16 5 = x := ⟨_, rfl⟩
  rw [z2] at hf_0
  obtain ⟨v3, z4⟩ : ∃ x, τ 16 1 = x := ⟨_, rfl⟩
  rw [z4] at hf_1
  refine r_iconst S dX6_readPlainOne_0 (by decide) (fun v5 z6 => ?_)
  have r7 := R_eq z6
  refine r_istore_n (lv' := [(2, .int v5), (0, .ref (G.2.2.2.1 16)), (1, .ref (G.2.2.1 a0))]) S dX6_readPlainOne_1 rfl hl (by decide) rfl (fun ls hl => ?_)
  refine r_aload_n S dX6_readPlainOne_2 rfl (lv_at hl 1 rfl) ?_
  refine r_iconst S dX6_readPlainOne_3 (by decide) (fun v8 z9 => ?_)
  have r10 := R_eq z9
  refine r_put (K := 16) (ty := .int) S X (Nat.le_of_ble_eq_true rfl) rfl lk6_127_6 (fun _ => ⟨_, rfl, Nat.le_of_ble_eq_true rfl, rfl⟩) (fun _ _ _ h => by cases h; exact ⟨rfl, rfl⟩) rfl rfl dX6_readPlainOne_4 (fun t11 H lc M12 X13 => ?_)
  have I14 := Inv_mu hI M12 (R_any v8)
  have F15 : Fr [(16, 1), (16, 2), (17, 4), (1, 3), (1, 4), (1, 5), (1, 7), (1, 8)] [18, 19, 20, 201] τ t11 := Fr_mu Fr_rfl M12 (by decide)
  refine r_aload_n S dX6_readPlainOne_7 rfl (lv_at hl 2 rfl) ?_
  refine r_wst (i := 19) S X13 (by decide) kw78 dX6_readPlainOne_8 ?_
  refine r_cacmp_eq (tgt := 28) S h_a0 (by decide) dX6_readPlainOne_11 (by decide) (fun c16 => ?_) (fun c16 => ?_)
  ·
    refine r_aload_n S dX6_readPlainOne_28 rfl (lv_at hl 2 rfl) ?_
    refine r_wst (i := 19) S X13 (by decide) kw78 dX6_readPlainOne_29 ?_
    refine r_cacmp_ne (tgt := 46) S h_a0 (by decide) dX6_readPlainOne_32 (by decide) (fun c17 => ?_) (fun c17 => ?_)
    ·
      refine r_aload_n S dX6_readPlainOne_46 rfl (lv_at hl 1 rfl) ?_
      refine r_aload_n S dX6_readPlainOne_47 rfl (lv_at hl 1 rfl) ?_
      refine r_getP S X13 lk6_20_6 ((M12.2 16 5 (Or.inr (by decide))).trans z2) (by omega) dX6_readPlainOne_48 ?_
      refine r_ki (q_U (As := [.ref (G.2.2.2.1 23)]) (rest := []) (K := 16) (ci := 6) S X13 (c_X8_seeAsk_t16 l G t11 I14 (by rw [((M12.2 16 1 (Or.inr (by decide))).trans z4)]; exact R_of hf_1 rfl) bb nb an mn (nx bb nb 200 t) (RG_fr hR (fun j => ((M12.2 1 j (Or.inl (by decide))).trans rfl)) (fun j => ((M12.2 2 j (Or.inl (by decide))).trans rfl)) (fun j => ((M12.2 201 j (Or.inl (by decide))).trans rfl)) ((M12.2 23 2 (Or.inl (by decide))).trans rfl) ((M12.2 23 3 (Or.inl (by decide))).trans rfl) (fun j => ((M12.2 228 j (Or.inl (by decide))).trans rfl)) (fun j => ((M12.2 229 j (Or.inl (by decide))).trans rfl))) ) ck6_134_6 (Nat.le_of_ble_eq_true rfl) rfl (fun _ => ⟨_, rfl⟩) ⟨_, _, rfl⟩ ⟨Nat.le_of_ble_eq_true rfl, Nat.le_of_ble_eq_true rfl⟩ rfl hl.1 rfl (Nat.le_of_ble_eq_true rfl) dX6_readPlainOne_51 ⟨Nat.le_refl 0, Nat.le_refl 0⟩) X13 (fun v21 t20 H lc q18 X19 => ?_)
      unfold po_X8_seeAsk_t16 at q18
      obtain ⟨q22, q23, q24, q25, q26⟩ := q18
      have F27 : Fr [(16, 1), (16, 2), (17, 4), (1, 3), (1, 4), (1, 5), (1, 7), (1, 8)] [18, 19, 20, 201] τ t20 := Fr_call F15 q23 (by decide)
      refine r_istore_n (lv' := [(3, .int v21), (2, .int v5), (0, .ref (G.2.2.2.1 16)), (1, .ref (G.2.2.1 a0))]) S dX6_readPlainOne_54 rfl hl (by decide) rfl (fun ls hl => ?_)
      refine r_iload_n S dX6_readPlainOne_55 rfl (lv_at hl 0 rfl) ?_
      refine r_if_ne (tgt := 61) S dX6_readPlainOne_56 (by decide) (fun c28 => ?_) (fun c28 => ?_)
      ·
        have r29 : R (1) (1) v21 := ⟨by omega, by omega⟩
        obtain ⟨p30, p31⟩ := q25 (by omega)
        obtain ⟨v32, z33⟩ : ∃ x, t20 16 2 = x := ⟨_, rfl⟩
        rw [z33] at p30
        obtain ⟨v34, z35⟩ : ∃ x, t20 16 1 = x := ⟨_, rfl⟩
        rw [z35] at p31
        have p36 := (QY_1 q26) (by omega)
        obtain ⟨g37, e38, hP39⟩ := p36
        refine r_aload_n S dX6_readPlainOne_61 rfl (lv_at hl 2 rfl) ?_
        refine r_get (K := 16) (v := .ref (G.2.2.2.1 1)) S X19 (Nat.le_of_ble_eq_true rfl) rfl lk6_39_6 (fun _ => ⟨_, rfl, rfl⟩) dX6_readPlainOne_62 ?_
        refine r_kv (q_V (As := []) (rest := []) (K := 1) (ci := 7) S X19 (c_X7_step_q l G t20 q22 bb nb 200 (nx bb nb 200 t).2.2 (RT_st hP39.2.1 (Or.inl (sLook_n e38).1)).1 (RT_st hP39.2.1 (Or.inl (sLook_n e38).1)).2.1 (RT_st hP39.2.1 (Or.inl (sLook_n e38).1)).2.2) ck6_64 (Nat.le_of_ble_eq_true rfl) rfl (fun _ => ⟨_, rfl⟩) ⟨_, _, rfl⟩ ⟨Nat.le_of_ble_eq_true rfl, Nat.le_of_ble_eq_true rfl⟩ rfl hl.1 rfl (Nat.le_of_ble_eq_true rfl) dX6_readPlainOne_65 ⟨Nat.le_refl 0, Nat.le_refl 0⟩) X19 (fun t42 H lc q40 X41 => ?_)
        unfold po_X7_step_q at q40
        obtain ⟨q43, q44, q45⟩ := q40
        have F46 : Fr [(16, 1), (16, 2), (17, 4), (1, 3), (1, 4), (1, 5), (1, 7), (1, 8)] [18, 19, 20, 201] τ t42 := Fr_call F27 q44 (by decide)
        have hR47 : RG bb nb 200 an mn t42 (nx bb nb 200 (nx bb nb 200 t)) := ⟨q45, NM2_fr hP39.2.2 ((q44 23 2 (by decide)).trans rfl) ((q44 23 3 (by decide)).trans rfl) (fun j => ((q44 228 j (by simp [fz])).trans rfl)) (fun j => ((q44 229 j (by simp [fz])).trans rfl))⟩
        refine r_goto (tgt := 161) S dX6_readPlainOne_68 (by decide) ?_
        refine r_aload_n S dX6_readPlainOne_161 rfl (lv_at hl 2 rfl) ?_
        refine r_get (K := 16) (v := .ref (G.2.2.2.1 17)) S X41 (Nat.le_of_ble_eq_true rfl) rfl lk6_14_6 (fun _ => ⟨_, rfl, rfl⟩) dX6_readPlainOne_162 ?_
        refine r_aload_n S dX6_readPlainOne_165 rfl (lv_at hl 3 rfl) ?_
        refine r_iload_n S dX6_readPlainOne_166 rfl (lv_at hl 1 rfl) ?_
        refine r_aload_n S dX6_readPlainOne_167 rfl (lv_at hl 2 rfl) ?_
        refine r_geti (K := 16) S X41 (Nat.le_of_ble_eq_true rfl) rfl lk6_127_6 (fun _ => ⟨_, rfl, rfl⟩) ((q44 16 2 (by decide)).trans z33) dX6_readPlainOne_168 ?_
        refine r_kv (q_V (As := [.ref (G.2.2.1 a0), .int v5, .int v32]) (rest := []) (K := 17) (ci := 5) S X41 (c_X5_add l G t42 q43 a0 h_a0 v5 v32 (R_of (lo := -2147483648) (hi := 2147483647) r7 rfl) (R_of (lo := 0) (hi := 99) p30 rfl) (YT_eq hYT (fun j => ((q44 18 j (by simp [fz])).trans ((q23 18 j (by simp [fz])).trans ((M12.2 18 j (Or.inl (by decide))).trans rfl)))) (fun j => ((q44 19 j (by simp [fz])).trans ((q23 19 j (by simp [fz])).trans ((M12.2 19 j (Or.inl (by decide))).trans rfl))))) (by omega)) ck6_67 (Nat.le_of_ble_eq_true rfl) rfl (fun _ => ⟨_, rfl⟩) ⟨_, _, rfl⟩ ⟨Nat.le_of_ble_eq_true rfl, Nat.le_of_ble_eq_true rfl⟩ rfl hl.1 rfl (Nat.le_of_ble_eq_true rfl) dX6_readPlainOne_171 ⟨Nat.le_refl 0, Nat.le_refl 0⟩) X41 (fun t50 H lc q48 X49 => ?_)
        unfold po_X5_add at q48
        obtain ⟨q51, q52, q53⟩ := q48
        have F54 : Fr [(16, 1), (16, 2), (17, 4), (1, 3), (1, 4), (1, 5), (1, 7), (1, 8)] [18, 19, 20, 201] τ t50 := Fr_call F46 q52 (by decide)
        refine r_iconst S dX6_readPlainOne_174 (by decide) (fun v55 z56 => ?_)
        have r57 := R_eq z56
        exact r_ret S hr hlk X49 ⟨q51, F54, q53, (R_of r57 rfl), (fun h => (by rw [((q52 16 1 (by decide)).trans ((q44 16 1 (by decide)).trans z35))]; exact R_of p31 rfl)), (QY_r ((sLeaf_a (i2_of hW (by omega))).trans (thn_r e38)) (by omega) (RG_fr hR47 (fun j => ((q52 1 j (by simp [fz])).trans rfl)) (fun j => ((q52 2 j (by simp [fz])).trans rfl)) (fun j => ((q52 201 j (by simp [fz])).trans rfl)) ((q52 23 2 (by decide)).trans rfl) ((q52 23 3 (by decide)).trans rfl) (fun j => ((q52 228 j (by simp [fz])).trans rfl)) (fun j => ((q52 229 j (by simp [fz])).trans rfl))))⟩ (nr_bool (R_of (lo := 0) (hi := 1) r57 rfl)) dX6_readPlainOne_175
      ·
        have r58 : R (0) (0) v21 := ⟨by omega, by omega⟩
        have p59 := (QY_0 q26) (by omega)
        obtain ⟨q60, e61, h62, h63⟩ := p59
        refine r_iconst S dX6_readPlainOne_59 (by decide) (fun v64 z65 => ?_)
        have r66 := R_eq z65
        exact r_ret S hr hlk X19 ⟨q22, F27, (YT_eq hYT (fun j => ((q23 18 j (by simp [fz])).trans ((M12.2 18 j (Or.inl (by decide))).trans rfl))) (fun j => ((q23 19 j (by simp [fz])).trans ((M12.2 19 j (Or.inl (by decide))).trans rfl)))), (R_of r66 rfl), (fun h => by exfalso; omega), (QY_l ((sLeaf_a (i2_of hW (by omega))).trans (thn_l e61)) (by omega) h62 h63)⟩ (nr_bool (R_of (lo := 0) (hi := 1) r66 rfl)) dX6_readPlainOne_60
    ·
      refine r_aload_n S dX6_readPlainOne_35 rfl (lv_at hl 1 rfl) ?_
      refine r_aload_n S dX6_readPlainOne_36 rfl (lv_at hl 1 rfl) ?_
      refine r_getP S X13 lk6_20_6 ((M12.2 16 5 (Or.inr (by decide))).trans z2) (by omega) dX6_readPlainOne_37 ?_
      refine r_ki (q_U (As := [.ref (G.2.2.2.1 23)]) (rest := []) (K := 16) (ci := 6) S X13 (c_X8_seeMan_t16 l G t11 I14 (by rw [((M12.2 16 1 (Or.inr (by decide))).trans z4)]; exact R_of hf_1 rfl) bb nb an mn (nx bb nb 200 t) (RG_fr hR (fun j => ((M12.2 1 j (Or.inl (by decide))).trans rfl)) (fun j => ((M12.2 2 j (Or.inl (by decide))).trans rfl)) (fun j => ((M12.2 201 j (Or.inl (by decide))).trans rfl)) ((M12.2 23 2 (Or.inl (by decide))).trans rfl) ((M12.2 23 3 (Or.inl (by decide))).trans rfl) (fun j => ((M12.2 228 j (Or.inl (by decide))).trans rfl)) (fun j => ((M12.2 229 j (Or.inl (by decide))).trans rfl))) ) ck6_130_6 (Nat.le_of_ble_eq_true rfl) rfl (fun _ => ⟨_, rfl⟩) ⟨_, _, rfl⟩ ⟨Nat.le_of_ble_eq_true rfl, Nat.le_of_ble_eq_true rfl⟩ rfl hl.1 rfl (Nat.le_of_ble_eq_true rfl) dX6_readPlainOne_40 ⟨Nat.le_refl 0, Nat.le_refl 0⟩) X13 (fun v70 t69 H lc q67 X68 => ?_)
      unfold po_X8_seeMan_t16 at q67
      obtain ⟨q71, q72, q73, q74, q75⟩ := q67
      have F76 : Fr [(16, 1), (16, 2), (17, 4), (1, 3), (1, 4), (1, 5), (1, 7), (1, 8)] [18, 19, 20, 201] τ t69 := Fr_call F15 q72 (by decide)
      refine r_goto (tgt := 54) S dX6_readPlainOne_43 (by decide) ?_
      refine r_istore_n (lv' := [(3, .int v70), (2, .int v5), (0, .ref (G.2.2.2.1 16)), (1, .ref (G.2.2.1 a0))]) S dX6_readPlainOne_54 rfl hl (by decide) rfl (fun ls hl => ?_)
      refine r_iload_n S dX6_readPlainOne_55 rfl (lv_at hl 0 rfl) ?_
      refine r_if_ne (tgt := 61) S dX6_readPlainOne_56 (by decide) (fun c77 => ?_) (fun c77 => ?_)
      ·
        have r78 : R (1) (1) v70 := ⟨by omega, by omega⟩
        obtain ⟨p79, p80⟩ := q74 (by omega)
        obtain ⟨v81, z82⟩ : ∃ x, t69 16 2 = x := ⟨_, rfl⟩
        rw [z82] at p79
        obtain ⟨v83, z84⟩ : ∃ x, t69 16 1 = x := ⟨_, rfl⟩
        rw [z84] at p80
        have p85 := (QY_1 q75) (by omega)
        obtain ⟨g86, e87, hP88⟩ := p85
        refine r_aload_n S dX6_readPlainOne_61 rfl (lv_at hl 2 rfl) ?_
        refine r_get (K := 16) (v := .ref (G.2.2.2.1 1)) S X68 (Nat.le_of_ble_eq_true rfl) rfl lk6_39_6 (fun _ => ⟨_, rfl, rfl⟩) dX6_readPlainOne_62 ?_
        refine r_kv (q_V (As := []) (rest := []) (K := 1) (ci := 7) S X68 (c_X7_step_q l G t69 q71 bb nb 200 (nx bb nb 200 t).2.2 (RT_st hP88.2.1 (Or.inl (sLook_n e87).1)).1 (RT_st hP88.2.1 (Or.inl (sLook_n e87).1)).2.1 (RT_st hP88.2.1 (Or.inl (sLook_n e87).1)).2.2) ck6_64 (Nat.le_of_ble_eq_true rfl) rfl (fun _ => ⟨_, rfl⟩) ⟨_, _, rfl⟩ ⟨Nat.le_of_ble_eq_true rfl, Nat.le_of_ble_eq_true rfl⟩ rfl hl.1 rfl (Nat.le_of_ble_eq_true rfl) dX6_readPlainOne_65 ⟨Nat.le_refl 0, Nat.le_refl 0⟩) X68 (fun t91 H lc q89 X90 => ?_)
        unfold po_X7_step_q at q89
        obtain ⟨q92, q93, q94⟩ := q89
        have F95 : Fr [(16, 1), (16, 2), (17, 4), (1, 3), (1, 4), (1, 5), (1, 7), (1, 8)] [18, 19, 20, 201] τ t91 := Fr_call F76 q93 (by decide)
        have hR96 : RG bb nb 200 an mn t91 (nx bb nb 200 (nx bb nb 200 t)) := ⟨q94, NM2_fr hP88.2.2 ((q93 23 2 (by decide)).trans rfl) ((q93 23 3 (by decide)).trans rfl) (fun j => ((q93 228 j (by simp [fz])).trans rfl)) (fun j => ((q93 229 j (by simp [fz])).trans rfl))⟩
        refine r_goto (tgt := 161) S dX6_readPlainOne_68 (by decide) ?_
        refine r_aload_n S dX6_readPlainOne_161 rfl (lv_at hl 2 rfl) ?_
        refine r_get (K := 16) (v := .ref (G.2.2.2.1 17)) S X90 (Nat.le_of_ble_eq_true rfl) rfl lk6_14_6 (fun _ => ⟨_, rfl, rfl⟩) dX6_readPlainOne_162 ?_
        refine r_aload_n S dX6_readPlainOne_165 rfl (lv_at hl 3 rfl) ?_
        refine r_iload_n S dX6_readPlainOne_166 rfl (lv_at hl 1 rfl) ?_
        refine r_aload_n S dX6_readPlainOne_167 rfl (lv_at hl 2 rfl) ?_
        refine r_geti (K := 16) S X90 (Nat.le_of_ble_eq_true rfl) rfl lk6_127_6 (fun _ => ⟨_, rfl, rfl⟩) ((q93 16 2 (by decide)).trans z82) dX6_readPlainOne_168 ?_
        refine r_kv (q_V (As := [.ref (G.2.2.1 a0), .int v5, .int v81]) (rest := []) (K := 17) (ci := 5) S X90 (c_X5_add l G t91 q92 a0 h_a0 v5 v81 (R_of (lo := -2147483648) (hi := 2147483647) r7 rfl) (R_of (lo := 0) (hi := 99) p79 rfl) (YT_eq hYT (fun j => ((q93 18 j (by simp [fz])).trans ((q72 18 j (by simp [fz])).trans ((M12.2 18 j (Or.inl (by decide))).trans rfl)))) (fun j => ((q93 19 j (by simp [fz])).trans ((q72 19 j (by simp [fz])).trans ((M12.2 19 j (Or.inl (by decide))).trans rfl))))) (by omega)) ck6_67 (Nat.le_of_ble_eq_true rfl) rfl (fun _ => ⟨_, rfl⟩) ⟨_, _, rfl⟩ ⟨Nat.le_of_ble_eq_true rfl, Nat.le_of_ble_eq_true rfl⟩ rfl hl.1 rfl (Nat.le_of_ble_eq_true rfl) dX6_readPlainOne_171 ⟨Nat.le_refl 0, Nat.le_refl 0⟩) X90 (fun t99 H lc q97 X98 => ?_)
        unfold po_X5_add at q97
        obtain ⟨q100, q101, q102⟩ := q97
        have F103 : Fr [(16, 1), (16, 2), (17, 4), (1, 3), (1, 4), (1, 5), (1, 7), (1, 8)] [18, 19, 20, 201] τ t99 := Fr_call F95 q101 (by decide)
        refine r_iconst S dX6_readPlainOne_174 (by decide) (fun v104 z105 => ?_)
        have r106 := R_eq z105
        exact r_ret S hr hlk X98 ⟨q100, F103, q102, (R_of r106 rfl), (fun h => (by rw [((q101 16 1 (by decide)).trans ((q93 16 1 (by decide)).trans z84))]; exact R_of p80 rfl)), (QY_r ((sLeaf_m (w19 hW (by omega))).trans (thn_r e87)) (by omega) (RG_fr hR96 (fun j => ((q101 1 j (by simp [fz])).trans rfl)) (fun j => ((q101 2 j (by simp [fz])).trans rfl)) (fun j => ((q101 201 j (by simp [fz])).trans rfl)) ((q101 23 2 (by decide)).trans rfl) ((q101 23 3 (by decide)).trans rfl) (fun j => ((q101 228 j (by simp [fz])).trans rfl)) (fun j => ((q101 229 j (by simp [fz])).trans rfl))))⟩ (nr_bool (R_of (lo := 0) (hi := 1) r106 rfl)) dX6_readPlainOne_175
      ·
        have r107 : R (0) (0) v70 := ⟨by omega, by omega⟩
        have p108 := (QY_0 q75) (by omega)
        obtain ⟨q109, e110, h111, h112⟩ := p108
        refine r_iconst S dX6_readPlainOne_59 (by decide) (fun v113 z114 => ?_)
        have r115 := R_eq z114
        exact r_ret S hr hlk X68 ⟨q71, F76, (YT_eq hYT (fun j => ((q72 18 j (by simp [fz])).trans ((M12.2 18 j (Or.inl (by decide))).trans rfl))) (fun j => ((q72 19 j (by simp [fz])).trans ((M12.2 19 j (Or.inl (by decide))).trans rfl)))), (R_of r115 rfl), (fun h => by exfalso; omega), (QY_l ((sLeaf_m (w19 hW (by omega))).trans (thn_l e110)) (by omega) h111 h112)⟩ (nr_bool (R_of (lo := 0) (hi := 1) r115 rfl)) dX6_readPlainOne_60
  ·
    refine r_aload_n S dX6_readPlainOne_14 rfl (lv_at hl 2 rfl) ?_
    refine r_wst (i := 4) S X13 (by decide) kw79 dX6_readPlainOne_15 ?_
    refine r_cacmp_eq (tgt := 28) S h_a0 (by decide) dX6_readPlainOne_18 (by decide) (fun c116 => ?_) (fun c116 => ?_)
    ·
      refine r_aload_n S dX6_readPlainOne_28 rfl (lv_at hl 2 rfl) ?_
      refine r_wst (i := 19) S X13 (by decide) kw78 dX6_readPlainOne_29 ?_
      refine r_cacmp_ne (tgt := 46) S h_a0 (by decide) dX6_readPlainOne_32 (by decide) (fun c117 => ?_) (fun c117 => ?_)
      ·
        refine r_aload_n S dX6_readPlainOne_46 rfl (lv_at hl 1 rfl) ?_
        refine r_aload_n S dX6_readPlainOne_47 rfl (lv_at hl 1 rfl) ?_
        refine r_getP S X13 lk6_20_6 ((M12.2 16 5 (Or.inr (by decide))).trans z2) (by omega) dX6_readPlainOne_48 ?_
        refine r_ki (q_U (As := [.ref (G.2.2.2.1 23)]) (rest := []) (K := 16) (ci := 6) S X13 (c_X8_seeAsk_t16 l G t11 I14 (by rw [((M12.2 16 1 (Or.inr (by decide))).trans z4)]; exact R_of hf_1 rfl) bb nb an mn (nx bb nb 200 t) (RG_fr hR (fun j => ((M12.2 1 j (Or.inl (by decide))).trans rfl)) (fun j => ((M12.2 2 j (Or.inl (by decide))).trans rfl)) (fun j => ((M12.2 201 j (Or.inl (by decide))).trans rfl)) ((M12.2 23 2 (Or.inl (by decide))).trans rfl) ((M12.2 23 3 (Or.inl (by decide))).trans rfl) (fun j => ((M12.2 228 j (Or.inl (by decide))).trans rfl)) (fun j => ((M12.2 229 j (Or.inl (by decide))).trans rfl))) ) ck6_134_6 (Nat.le_of_ble_eq_true rfl) rfl (fun _ => ⟨_, rfl⟩) ⟨_, _, rfl⟩ ⟨Nat.le_of_ble_eq_true rfl, Nat.le_of_ble_eq_true rfl⟩ rfl hl.1 rfl (Nat.le_of_ble_eq_true rfl) dX6_readPlainOne_51 ⟨Nat.le_refl 0, Nat.le_refl 0⟩) X13 (fun v121 t120 H lc q118 X119 => ?_)
        unfold po_X8_seeAsk_t16 at q118
        obtain ⟨q122, q123, q124, q125, q126⟩ := q118
        have F127 : Fr [(16, 1), (16, 2), (17, 4), (1, 3), (1, 4), (1, 5), (1, 7), (1, 8)] [18, 19, 20, 201] τ t120 := Fr_call F15 q123 (by decide)
        refine r_istore_n (lv' := [(3, .int v121), (2, .int v5), (0, .ref (G.2.2.2.1 16)), (1, .ref (G.2.2.1 a0))]) S dX6_readPlainOne_54 rfl hl (by decide) rfl (fun ls hl => ?_)
        refine r_iload_n S dX6_readPlainOne_55 rfl (lv_at hl 0 rfl) ?_
        refine r_if_ne (tgt := 61) S dX6_readPlainOne_56 (by decide) (fun c128 => ?_) (fun c128 => ?_)
        ·
          have r129 : R (1) (1) v121 := ⟨by omega, by omega⟩
          obtain ⟨p130, p131⟩ := q125 (by omega)
          obtain ⟨v132, z133⟩ : ∃ x, t120 16 2 = x := ⟨_, rfl⟩
          rw [z133] at p130
          obtain ⟨v134, z135⟩ : ∃ x, t120 16 1 = x := ⟨_, rfl⟩
          rw [z135] at p131
          have p136 := (QY_1 q126) (by omega)
          obtain ⟨g137, e138, hP139⟩ := p136
          refine r_aload_n S dX6_readPlainOne_61 rfl (lv_at hl 2 rfl) ?_
          refine r_get (K := 16) (v := .ref (G.2.2.2.1 1)) S X119 (Nat.le_of_ble_eq_true rfl) rfl lk6_39_6 (fun _ => ⟨_, rfl, rfl⟩) dX6_readPlainOne_62 ?_
          refine r_kv (q_V (As := []) (rest := []) (K := 1) (ci := 7) S X119 (c_X7_step_q l G t120 q122 bb nb 200 (nx bb nb 200 t).2.2 (RT_st hP139.2.1 (Or.inl (sLook_n e138).1)).1 (RT_st hP139.2.1 (Or.inl (sLook_n e138).1)).2.1 (RT_st hP139.2.1 (Or.inl (sLook_n e138).1)).2.2) ck6_64 (Nat.le_of_ble_eq_true rfl) rfl (fun _ => ⟨_, rfl⟩) ⟨_, _, rfl⟩ ⟨Nat.le_of_ble_eq_true rfl, Nat.le_of_ble_eq_true rfl⟩ rfl hl.1 rfl (Nat.le_of_ble_eq_true rfl) dX6_readPlainOne_65 ⟨Nat.le_refl 0, Nat.le_refl 0⟩) X119 (fun t142 H lc q140 X141 => ?_)
          unfold po_X7_step_q at q140
          obtain ⟨q143, q144, q145⟩ := q140
          have F146 : Fr [(16, 1), (16, 2), (17, 4), (1, 3), (1, 4), (1, 5), (1, 7), (1, 8)] [18, 19, 20, 201] τ t142 := Fr_call F127 q144 (by decide)
          have hR147 : RG bb nb 200 an mn t142 (nx bb nb 200 (nx bb nb 200 t)) := ⟨q145, NM2_fr hP139.2.2 ((q144 23 2 (by decide)).trans rfl) ((q144 23 3 (by decide)).trans rfl) (fun j => ((q144 228 j (by simp [fz])).trans rfl)) (fun j => ((q144 229 j (by simp [fz])).trans rfl))⟩
          refine r_goto (tgt := 161) S dX6_readPlainOne_68 (by decide) ?_
          refine r_aload_n S dX6_readPlainOne_161 rfl (lv_at hl 2 rfl) ?_
          refine r_get (K := 16) (v := .ref (G.2.2.2.1 17)) S X141 (Nat.le_of_ble_eq_true rfl) rfl lk6_14_6 (fun _ => ⟨_, rfl, rfl⟩) dX6_readPlainOne_162 ?_
          refine r_aload_n S dX6_readPlainOne_165 rfl (lv_at hl 3 rfl) ?_
          refine r_iload_n S dX6_readPlainOne_166 rfl (lv_at hl 1 rfl) ?_
          refine r_aload_n S dX6_readPlainOne_167 rfl (lv_at hl 2 rfl) ?_
          refine r_geti (K := 16) S X141 (Nat.le_of_ble_eq_true rfl) rfl lk6_127_6 (fun _ => ⟨_, rfl, rfl⟩) ((q144 16 2 (by decide)).trans z133) dX6_readPlainOne_168 ?_
          refine r_kv (q_V (As := [.ref (G.2.2.1 a0), .int v5, .int v132]) (rest := []) (K := 17) (ci := 5) S X141 (c_X5_add l G t142 q143 a0 h_a0 v5 v132 (R_of (lo := -2147483648) (hi := 2147483647) r7 rfl) (R_of (lo := 0) (hi := 99) p130 rfl) (YT_eq hYT (fun j => ((q144 18 j (by simp [fz])).trans ((q123 18 j (by simp [fz])).trans ((M12.2 18 j (Or.inl (by decide))).trans rfl)))) (fun j => ((q144 19 j (by simp [fz])).trans ((q123 19 j (by simp [fz])).trans ((M12.2 19 j (Or.inl (by decide))).trans rfl))))) (by omega)) ck6_67 (Nat.le_of_ble_eq_true rfl) rfl (fun _ => ⟨_, rfl⟩) ⟨_, _, rfl⟩ ⟨Nat.le_of_ble_eq_true rfl, Nat.le_of_ble_eq_true rfl⟩ rfl hl.1 rfl (Nat.le_of_ble_eq_true rfl) dX6_readPlainOne_171 ⟨Nat.le_refl 0, Nat.le_refl 0⟩) X141 (fun t150 H lc q148 X149 => ?_)
          unfold po_X5_add at q148
          obtain ⟨q151, q152, q153⟩ := q148
          have F154 : Fr [(16, 1), (16, 2), (17, 4), (1, 3), (1, 4), (1, 5), (1, 7), (1, 8)] [18, 19, 20, 201] τ t150 := Fr_call F146 q152 (by decide)
          refine r_iconst S dX6_readPlainOne_174 (by decide) (fun v155 z156 => ?_)
          have r157 := R_eq z156
          exact r_ret S hr hlk X149 ⟨q151, F154, q153, (R_of r157 rfl), (fun h => (by rw [((q152 16 1 (by decide)).trans ((q144 16 1 (by decide)).trans z135))]; exact R_of p131 rfl)), (QY_r ((sLeaf_a (i2_of hW (by omega))).trans (thn_r e138)) (by omega) (RG_fr hR147 (fun j => ((q152 1 j (by simp [fz])).trans rfl)) (fun j => ((q152 2 j (by simp [fz])).trans rfl)) (fun j => ((q152 201 j (by simp [fz])).trans rfl)) ((q152 23 2 (by decide)).trans rfl) ((q152 23 3 (by decide)).trans rfl) (fun j => ((q152 228 j (by simp [fz])).trans rfl)) (fun j => ((q152 229 j (by simp [fz])).trans rfl))))⟩ (nr_bool (R_of (lo := 0) (hi := 1) r157 rfl)) dX6_readPlainOne_175
        ·
          have r158 : R (0) (0) v121 := ⟨by omega, by omega⟩
          have p159 := (QY_0 q126) (by omega)
          obtain ⟨q160, e161, h162, h163⟩ := p159
          refine r_iconst S dX6_readPlainOne_59 (by decide) (fun v164 z165 => ?_)
          have r166 := R_eq z165
          exact r_ret S hr hlk X119 ⟨q122, F127, (YT_eq hYT (fun j => ((q123 18 j (by simp [fz])).trans ((M12.2 18 j (Or.inl (by decide))).trans rfl))) (fun j => ((q123 19 j (by simp [fz])).trans ((M12.2 19 j (Or.inl (by decide))).trans rfl)))), (R_of r166 rfl), (fun h => by exfalso; omega), (QY_l ((sLeaf_a (i2_of hW (by omega))).trans (thn_l e161)) (by omega) h162 h163)⟩ (nr_bool (R_of (lo := 0) (hi := 1) r166 rfl)) dX6_readPlainOne_60
      ·
        refine r_aload_n S dX6_readPlainOne_35 rfl (lv_at hl 1 rfl) ?_
        refine r_aload_n S dX6_readPlainOne_36 rfl (lv_at hl 1 rfl) ?_
        refine r_getP S X13 lk6_20_6 ((M12.2 16 5 (Or.inr (by decide))).trans z2) (by omega) dX6_readPlainOne_37 ?_
        refine r_ki (q_U (As := [.ref (G.2.2.2.1 23)]) (rest := []) (K := 16) (ci := 6) S X13 (c_X8_seeMan_t16 l G t11 I14 (by rw [((M12.2 16 1 (Or.inr (by decide))).trans z4)]; exact R_of hf_1 rfl) bb nb an mn (nx bb nb 200 t) (RG_fr hR (fun j => ((M12.2 1 j (Or.inl (by decide))).trans rfl)) (fun j => ((M12.2 2 j (Or.inl (by decide))).trans rfl)) (fun j => ((M12.2 201 j (Or.inl (by decide))).trans rfl)) ((M12.2 23 2 (Or.inl (by decide))).trans rfl) ((M12.2 23 3 (Or.inl (by decide))).trans rfl) (fun j => ((M12.2 228 j (Or.inl (by decide))).trans rfl)) (fun j => ((M12.2 229 j (Or.inl (by decide))).trans rfl))) ) ck6_130_6 (Nat.le_of_ble_eq_true rfl) rfl (fun _ => ⟨_, rfl⟩) ⟨_, _, rfl⟩ ⟨Nat.le_of_ble_eq_true rfl, Nat.le_of_ble_eq_true rfl⟩ rfl hl.1 rfl (Nat.le_of_ble_eq_true rfl) dX6_readPlainOne_40 ⟨Nat.le_refl 0, Nat.le_refl 0⟩) X13 (fun v170 t169 H lc q167 X168 => ?_)
        unfold po_X8_seeMan_t16 at q167
        obtain ⟨q171, q172, q173, q174, q175⟩ := q167
        have F176 : Fr [(16, 1), (16, 2), (17, 4), (1, 3), (1, 4), (1, 5), (1, 7), (1, 8)] [18, 19, 20, 201] τ t169 := Fr_call F15 q172 (by decide)
        refine r_goto (tgt := 54) S dX6_readPlainOne_43 (by decide) ?_
        refine r_istore_n (lv' := [(3, .int v170), (2, .int v5), (0, .ref (G.2.2.2.1 16)), (1, .ref (G.2.2.1 a0))]) S dX6_readPlainOne_54 rfl hl (by decide) rfl (fun ls hl => ?_)
        refine r_iload_n S dX6_readPlainOne_55 rfl (lv_at hl 0 rfl) ?_
        refine r_if_ne (tgt := 61) S dX6_readPlainOne_56 (by decide) (fun c177 => ?_) (fun c177 => ?_)
        ·
          have r178 : R (1) (1) v170 := ⟨by omega, by omega⟩
          obtain ⟨p179, p180⟩ := q174 (by omega)
          obtain ⟨v181, z182⟩ : ∃ x, t169 16 2 = x := ⟨_, rfl⟩
          rw [z182] at p179
          obtain ⟨v183, z184⟩ : ∃ x, t169 16 1 = x := ⟨_, rfl⟩
          rw [z184] at p180
          have p185 := (QY_1 q175) (by omega)
          obtain ⟨g186, e187, hP188⟩ := p185
          refine r_aload_n S dX6_readPlainOne_61 rfl (lv_at hl 2 rfl) ?_
          refine r_get (K := 16) (v := .ref (G.2.2.2.1 1)) S X168 (Nat.le_of_ble_eq_true rfl) rfl lk6_39_6 (fun _ => ⟨_, rfl, rfl⟩) dX6_readPlainOne_62 ?_
          refine r_kv (q_V (As := []) (rest := []) (K := 1) (ci := 7) S X168 (c_X7_step_q l G t169 q171 bb nb 200 (nx bb nb 200 t).2.2 (RT_st hP188.2.1 (Or.inl (sLook_n e187).1)).1 (RT_st hP188.2.1 (Or.inl (sLook_n e187).1)).2.1 (RT_st hP188.2.1 (Or.inl (sLook_n e187).1)).2.2) ck6_64 (Nat.le_of_ble_eq_true rfl) rfl (fun _ => ⟨_, rfl⟩) ⟨_, _, rfl⟩ ⟨Nat.le_of_ble_eq_true rfl, Nat.le_of_ble_eq_true rfl⟩ rfl hl.1 rfl (Nat.le_of_ble_eq_true rfl) dX6_readPlainOne_65 ⟨Nat.le_refl 0, Nat.le_refl 0⟩) X168 (fun t191 H lc q189 X190 => ?_)
          unfold po_X7_step_q at q189
          obtain ⟨q192, q193, q194⟩ := q189
          have F195 : Fr [(16, 1), (16, 2), (17, 4), (1, 3), (1, 4), (1, 5), (1, 7), (1, 8)] [18, 19, 20, 201] τ t191 := Fr_call F176 q193 (by decide)
          have hR196 : RG bb nb 200 an mn t191 (nx bb nb 200 (nx bb nb 200 t)) := ⟨q194, NM2_fr hP188.2.2 ((q193 23 2 (by decide)).trans rfl) ((q193 23 3 (by decide)).trans rfl) (fun j => ((q193 228 j (by simp [fz])).trans rfl)) (fun j => ((q193 229 j (by simp [fz])).trans rfl))⟩
          refine r_goto (tgt := 161) S dX6_readPlainOne_68 (by decide) ?_
          refine r_aload_n S dX6_readPlainOne_161 rfl (lv_at hl 2 rfl) ?_
          refine r_get (K := 16) (v := .ref (G.2.2.2.1 17)) S X190 (Nat.le_of_ble_eq_true rfl) rfl lk6_14_6 (fun _ => ⟨_, rfl, rfl⟩) dX6_readPlainOne_162 ?_
          refine r_aload_n S dX6_readPlainOne_165 rfl (lv_at hl 3 rfl) ?_
          refine r_iload_n S dX6_readPlainOne_166 rfl (lv_at hl 1 rfl) ?_
          refine r_aload_n S dX6_readPlainOne_167 rfl (lv_at hl 2 rfl) ?_
          refine r_geti (K := 16) S X190 (Nat.le_of_ble_eq_true rfl) rfl lk6_127_6 (fun _ => ⟨_, rfl, rfl⟩) ((q193 16 2 (by decide)).trans z182) dX6_readPlainOne_168 ?_
          refine r_kv (q_V (As := [.ref (G.2.2.1 a0), .int v5, .int v181]) (rest := []) (K := 17) (ci := 5) S X190 (c_X5_add l G t191 q192 a0 h_a0 v5 v181 (R_of (lo := -2147483648) (hi := 2147483647) r7 rfl) (R_of (lo := 0) (hi := 99) p179 rfl) (YT_eq hYT (fun j => ((q193 18 j (by simp [fz])).trans ((q172 18 j (by simp [fz])).trans ((M12.2 18 j (Or.inl (by decide))).trans rfl)))) (fun j => ((q193 19 j (by simp [fz])).trans ((q172 19 j (by simp [fz])).trans ((M12.2 19 j (Or.inl (by decide))).trans rfl))))) (by omega)) ck6_67 (Nat.le_of_ble_eq_true rfl) rfl (fun _ => ⟨_, rfl⟩) ⟨_, _, rfl⟩ ⟨Nat.le_of_ble_eq_true rfl, Nat.le_of_ble_eq_true rfl⟩ rfl hl.1 rfl (Nat.le_of_ble_eq_true rfl) dX6_readPlainOne_171 ⟨Nat.le_refl 0, Nat.le_refl 0⟩) X190 (fun t199 H lc q197 X198 => ?_)
          unfold po_X5_add at q197
          obtain ⟨q200, q201, q202⟩ := q197
          have F203 : Fr [(16, 1), (16, 2), (17, 4), (1, 3), (1, 4), (1, 5), (1, 7), (1, 8)] [18, 19, 20, 201] τ t199 := Fr_call F195 q201 (by decide)
          refine r_iconst S dX6_readPlainOne_174 (by decide) (fun v204 z205 => ?_)
          have r206 := R_eq z205
          exact r_ret S hr hlk X198 ⟨q200, F203, q202, (R_of r206 rfl), (fun h => (by rw [((q201 16 1 (by decide)).trans ((q193 16 1 (by decide)).trans z184))]; exact R_of p180 rfl)), (QY_r ((sLeaf_m (w19 hW (by omega))).trans (thn_r e187)) (by omega) (RG_fr hR196 (fun j => ((q201 1 j (by simp [fz])).trans rfl)) (fun j => ((q201 2 j (by simp [fz])).trans rfl)) (fun j => ((q201 201 j (by simp [fz])).trans rfl)) ((q201 23 2 (by decide)).trans rfl) ((q201 23 3 (by decide)).trans rfl) (fun j => ((q201 228 j (by simp [fz])).trans rfl)) (fun j => ((q201 229 j (by simp [fz])).trans rfl))))⟩ (nr_bool (R_of (lo := 0) (hi := 1) r206 rfl)) dX6_readPlainOne_175
        ·
          have r207 : R (0) (0) v170 := ⟨by omega, by omega⟩
          have p208 := (QY_0 q175) (by omega)
          obtain ⟨q209, e210, h211, h212⟩ := p208
          refine r_iconst S dX6_readPlainOne_59 (by decide) (fun v213 z214 => ?_)
          have r215 := R_eq z214
          exact r_ret S hr hlk X168 ⟨q171, F176, (YT_eq hYT (fun j => ((q172 18 j (by simp [fz])).trans ((M12.2 18 j (Or.inl (by decide))).trans rfl))) (fun j => ((q172 19 j (by simp [fz])).trans ((M12.2 19 j (Or.inl (by decide))).trans rfl)))), (R_of r215 rfl), (fun h => by exfalso; omega), (QY_l ((sLeaf_m (w19 hW (by omega))).trans (thn_l e210)) (by omega) h211 h212)⟩ (nr_bool (R_of (lo := 0) (hi := 1) r215 rfl)) dX6_readPlainOne_60
    ·
      refine r_aload_n S dX6_readPlainOne_21 rfl (lv_at hl 2 rfl) ?_
      refine r_wst (i := 5) S X13 (by decide) kw80 dX6_readPlainOne_22 ?_
      refine r_cacmp_ne (tgt := 71) S h_a0 (by decide) dX6_readPlainOne_25 (by decide) (fun c216 => ?_) (fun c216 => ?_)
      ·
        refine r_aload_n S dX6_readPlainOne_71 rfl (lv_at hl 2 rfl) ?_
        refine r_wst (i := 16) S X13 (by decide) kw75 dX6_readPlainOne_72 ?_
        refine r_cacmp_eq (tgt := 161) S h_a0 (by decide) dX6_readPlainOne_75 (by decide) (fun c217 => ?_) (fun c217 => ?_)
        ·
          refine r_aload_n S dX6_readPlainOne_161 rfl (lv_at hl 1 rfl) ?_
          refine r_get (K := 16) (v := .ref (G.2.2.2.1 17)) S X13 (Nat.le_of_ble_eq_true rfl) rfl lk6_14_6 (fun _ => ⟨_, rfl, rfl⟩) dX6_readPlainOne_162 ?_
          refine r_aload_n S dX6_readPlainOne_165 rfl (lv_at hl 2 rfl) ?_
          refine r_iload_n S dX6_readPlainOne_166 rfl (lv_at hl 0 rfl) ?_
          refine r_aload_n S dX6_readPlainOne_167 rfl (lv_at hl 1 rfl) ?_
          refine r_geti (K := 16) S X13 (Nat.le_of_ble_eq_true rfl) rfl lk6_127_6 (fun _ => ⟨_, rfl, rfl⟩) M12.1 dX6_readPlainOne_168 ?_
          refine r_kv (q_V (As := [.ref (G.2.2.1 a0), .int v5, .int v8]) (rest := []) (K := 17) (ci := 5) S X13 (c_X5_add l G t11 I14 a0 h_a0 v5 v8 (R_of (lo := -2147483648) (hi := 2147483647) r7 rfl) (R_of (lo := 0) (hi := 99) r10 rfl) (YT_eq hYT (fun j => ((M12.2 18 j (Or.inl (by decide))).trans rfl)) (fun j => ((M12.2 19 j (Or.inl (by decide))).trans rfl))) (by omega)) ck6_67 (Nat.le_of_ble_eq_true rfl) rfl (fun _ => ⟨_, rfl⟩) ⟨_, _, rfl⟩ ⟨Nat.le_of_ble_eq_true rfl, Nat.le_of_ble_eq_true rfl⟩ rfl hl.1 rfl (Nat.le_of_ble_eq_true rfl) dX6_readPlainOne_171 ⟨Nat.le_refl 0, Nat.le_refl 0⟩) X13 (fun t220 H lc q218 X219 => ?_)
          unfold po_X5_add at q218
          obtain ⟨q221, q222, q223⟩ := q218
          have F224 : Fr [(16, 1), (16, 2), (17, 4), (1, 3), (1, 4), (1, 5), (1, 7), (1, 8)] [18, 19, 20, 201] τ t220 := Fr_call F15 q222 (by decide)
          refine r_iconst S dX6_readPlainOne_174 (by decide) (fun v225 z226 => ?_)
          have r227 := R_eq z226
          exact r_ret S hr hlk X219 ⟨q221, F224, q223, (R_of r227 rfl), (fun h => (by rw [((q222 16 1 (by decide)).trans ((M12.2 16 1 (Or.inr (by decide))).trans z4))]; exact R_of hf_1 rfl)), (QY_r (sLeaf_1 (i1_of hW (by omega))) (by omega) (RG_fr hR (fun j => ((q222 1 j (by simp [fz])).trans ((M12.2 1 j (Or.inl (by decide))).trans rfl))) (fun j => ((q222 2 j (by simp [fz])).trans ((M12.2 2 j (Or.inl (by decide))).trans rfl))) (fun j => ((q222 201 j (by simp [fz])).trans ((M12.2 201 j (Or.inl (by decide))).trans rfl))) ((q222 23 2 (by decide)).trans ((M12.2 23 2 (Or.inl (by decide))).trans rfl)) ((q222 23 3 (by decide)).trans ((M12.2 23 3 (Or.inl (by decide))).trans rfl)) (fun j => ((q222 228 j (by simp [fz])).trans ((M12.2 228 j (Or.inl (by decide))).trans rfl))) (fun j => ((q222 229 j (by simp [fz])).trans ((M12.2 229 j (Or.inl (by decide))).trans rfl)))))⟩ (nr_bool (R_of (lo := 0) (hi := 1) r227 rfl)) dX6_readPlainOne_175
        ·
          refine r_aload_n S dX6_readPlainOne_78 rfl (lv_at hl 2 rfl) ?_
          refine r_wst (i := 17) S X13 (by decide) kw76 dX6_readPlainOne_79 ?_
          refine r_cacmp_eq (tgt := 161) S h_a0 (by decide) dX6_readPlainOne_82 (by decide) (fun c228 => ?_) (fun c228 => ?_)
          ·
            refine r_aload_n S dX6_readPlainOne_161 rfl (lv_at hl 1 rfl) ?_
            refine r_get (K := 16) (v := .ref (G.2.2.2.1 17)) S X13 (Nat.le_of_ble_eq_true rfl) rfl lk6_14_6 (fun _ => ⟨_, rfl, rfl⟩) dX6_readPlainOne_162 ?_
            refine r_aload_n S dX6_readPlainOne_165 rfl (lv_at hl 2 rfl) ?_
            refine r_iload_n S dX6_readPlainOne_166 rfl (lv_at hl 0 rfl) ?_
            refine r_aload_n S dX6_readPlainOne_167 rfl (lv_at hl 1 rfl) ?_
            refine r_geti (K := 16) S X13 (Nat.le_of_ble_eq_true rfl) rfl lk6_127_6 (fun _ => ⟨_, rfl, rfl⟩) M12.1 dX6_readPlainOne_168 ?_
            refine r_kv (q_V (As := [.ref (G.2.2.1 a0), .int v5, .int v8]) (rest := []) (K := 17) (ci := 5) S X13 (c_X5_add l G t11 I14 a0 h_a0 v5 v8 (R_of (lo := -2147483648) (hi := 2147483647) r7 rfl) (R_of (lo := 0) (hi := 99) r10 rfl) (YT_eq hYT (fun j => ((M12.2 18 j (Or.inl (by decide))).trans rfl)) (fun j => ((M12.2 19 j (Or.inl (by decide))).trans rfl))) (by omega)) ck6_67 (Nat.le_of_ble_eq_true rfl) rfl (fun _ => ⟨_, rfl⟩) ⟨_, _, rfl⟩ ⟨Nat.le_of_ble_eq_true rfl, Nat.le_of_ble_eq_true rfl⟩ rfl hl.1 rfl (Nat.le_of_ble_eq_true rfl) dX6_readPlainOne_171 ⟨Nat.le_refl 0, Nat.le_refl 0⟩) X13 (fun t231 H lc q229 X230 => ?_)
            unfold po_X5_add at q229
            obtain ⟨q232, q233, q234⟩ := q229
            have F235 : Fr [(16, 1), (16, 2), (17, 4), (1, 3), (1, 4), (1, 5), (1, 7), (1, 8)] [18, 19, 20, 201] τ t231 := Fr_call F15 q233 (by decide)
            refine r_iconst S dX6_readPlainOne_174 (by decide) (fun v236 z237 => ?_)
            have r238 := R_eq z237
            exact r_ret S hr hlk X230 ⟨q232, F235, q234, (R_of r238 rfl), (fun h => (by rw [((q233 16 1 (by decide)).trans ((M12.2 16 1 (Or.inr (by decide))).trans z4))]; exact R_of hf_1 rfl)), (QY_r (sLeaf_1 (i1_of hW (by omega))) (by omega) (RG_fr hR (fun j => ((q233 1 j (by simp [fz])).trans ((M12.2 1 j (Or.inl (by decide))).trans rfl))) (fun j => ((q233 2 j (by simp [fz])).trans ((M12.2 2 j (Or.inl (by decide))).trans rfl))) (fun j => ((q233 201 j (by simp [fz])).trans ((M12.2 201 j (Or.inl (by decide))).trans rfl))) ((q233 23 2 (by decide)).trans ((M12.2 23 2 (Or.inl (by decide))).trans rfl)) ((q233 23 3 (by decide)).trans ((M12.2 23 3 (Or.inl (by decide))).trans rfl)) (fun j => ((q233 228 j (by simp [fz])).trans ((M12.2 228 j (Or.inl (by decide))).trans rfl))) (fun j => ((q233 229 j (by simp [fz])).trans ((M12.2 229 j (Or.inl (by decide))).trans rfl)))))⟩ (nr_bool (R_of (lo := 0) (hi := 1) r238 rfl)) dX6_readPlainOne_175
          ·
            refine r_aload_n S dX6_readPlainOne_85 rfl (lv_at hl 2 rfl) ?_
            refine r_wst (i := 18) S X13 (by decide) kw77 dX6_readPlainOne_86 ?_
            refine r_cacmp_eq (tgt := 161) S h_a0 (by decide) dX6_readPlainOne_89 (by decide) (fun c239 => ?_) (fun c239 => ?_)
            ·
              refine r_aload_n S dX6_readPlainOne_161 rfl (lv_at hl 1 rfl) ?_
              refine r_get (K := 16) (v := .ref (G.2.2.2.1 17)) S X13 (Nat.le_of_ble_eq_true rfl) rfl lk6_14_6 (fun _ => ⟨_, rfl, rfl⟩) dX6_readPlainOne_162 ?_
              refine r_aload_n S dX6_readPlainOne_165 rfl (lv_at hl 2 rfl) ?_
              refine r_iload_n S dX6_readPlainOne_166 rfl (lv_at hl 0 rfl) ?_
              refine r_aload_n S dX6_readPlainOne_167 rfl (lv_at hl 1 rfl) ?_
              refine r_geti (K := 16) S X13 (Nat.le_of_ble_eq_true rfl) rfl lk6_127_6 (fun _ => ⟨_, rfl, rfl⟩) M12.1 dX6_readPlainOne_168 ?_
              refine r_kv (q_V (As := [.ref (G.2.2.1 a0), .int v5, .int v8]) (rest := []) (K := 17) (ci := 5) S X13 (c_X5_add l G t11 I14 a0 h_a0 v5 v8 (R_of (lo := -2147483648) (hi := 2147483647) r7 rfl) (R_of (lo := 0) (hi := 99) r10 rfl) (YT_eq hYT (fun j => ((M12.2 18 j (Or.inl (by decide))).trans rfl)) (fun j => ((M12.2 19 j (Or.inl (by decide))).trans rfl))) (by omega)) ck6_67 (Nat.le_of_ble_eq_true rfl) rfl (fun _ => ⟨_, rfl⟩) ⟨_, _, rfl⟩ ⟨Nat.le_of_ble_eq_true rfl, Nat.le_of_ble_eq_true rfl⟩ rfl hl.1 rfl (Nat.le_of_ble_eq_true rfl) dX6_readPlainOne_171 ⟨Nat.le_refl 0, Nat.le_refl 0⟩) X13 (fun t242 H lc q240 X241 => ?_)
              unfold po_X5_add at q240
              obtain ⟨q243, q244, q245⟩ := q240
              have F246 : Fr [(16, 1), (16, 2), (17, 4), (1, 3), (1, 4), (1, 5), (1, 7), (1, 8)] [18, 19, 20, 201] τ t242 := Fr_call F15 q244 (by decide)
              refine r_iconst S dX6_readPlainOne_174 (by decide) (fun v247 z248 => ?_)
              have r249 := R_eq z248
              exact r_ret S hr hlk X241 ⟨q243, F246, q245, (R_of r249 rfl), (fun h => (by rw [((q244 16 1 (by decide)).trans ((M12.2 16 1 (Or.inr (by decide))).trans z4))]; exact R_of hf_1 rfl)), (QY_r (sLeaf_1 (i1_of hW (by omega))) (by omega) (RG_fr hR (fun j => ((q244 1 j (by simp [fz])).trans ((M12.2 1 j (Or.inl (by decide))).trans rfl))) (fun j => ((q244 2 j (by simp [fz])).trans ((M12.2 2 j (Or.inl (by decide))).trans rfl))) (fun j => ((q244 201 j (by simp [fz])).trans ((M12.2 201 j (Or.inl (by decide))).trans rfl))) ((q244 23 2 (by decide)).trans ((M12.2 23 2 (Or.inl (by decide))).trans rfl)) ((q244 23 3 (by decide)).trans ((M12.2 23 3 (Or.inl (by decide))).trans rfl)) (fun j => ((q244 228 j (by simp [fz])).trans ((M12.2 228 j (Or.inl (by decide))).trans rfl))) (fun j => ((q244 229 j (by simp [fz])).trans ((M12.2 229 j (Or.inl (by decide))).trans rfl)))))⟩ (nr_bool (R_of (lo := 0) (hi := 1) r249 rfl)) dX6_readPlainOne_175
            ·
              refine r_aload_n S dX6_readPlainOne_92 rfl (lv_at hl 1 rfl) ?_
              refine r_get (K := 16) (v := .ref (G.2.2.2.1 1)) S X13 (Nat.le_of_ble_eq_true rfl) rfl lk6_39_6 (fun _ => ⟨_, rfl, rfl⟩) dX6_readPlainOne_93 ?_
              refine r_bipush S dX6_readPlainOne_96 (by decide) (fun v250 z251 => ?_)
              have r252 := R_eq z251
              refine r_ki (q_V (As := [.int v250]) (rest := []) (K := 1) (ci := 7) S X13 (c_X7_isSigned_q l G t11 I14 v250 (R_of (lo := 0) (hi := 65535) r252 rfl) bb nb 200 (nx bb nb 200 t) (RG_fr hR (fun j => ((M12.2 1 j (Or.inl (by decide))).trans rfl)) (fun j => ((M12.2 2 j (Or.inl (by decide))).trans rfl)) (fun j => ((M12.2 201 j (Or.inl (by decide))).trans rfl)) ((M12.2 23 2 (Or.inl (by decide))).trans rfl) ((M12.2 23 3 (Or.inl (by decide))).trans rfl) (fun j => ((M12.2 228 j (Or.inl (by decide))).trans rfl)) (fun j => ((M12.2 229 j (Or.inl (by decide))).trans rfl))).1) ck6_81 (Nat.le_of_ble_eq_true rfl) rfl (fun _ => ⟨_, rfl⟩) ⟨_, _, rfl⟩ ⟨Nat.le_of_ble_eq_true rfl, Nat.le_of_ble_eq_true rfl⟩ rfl hl.1 rfl (Nat.le_of_ble_eq_true rfl) dX6_readPlainOne_98 ⟨Nat.le_refl 0, Nat.le_refl 0⟩) X13 (fun v256 t255 H lc q253 X254 => ?_)
              unfold po_X7_isSigned_q at q253
              obtain ⟨q257, q258, q259⟩ := q253
              rw [q257] at X254
              refine r_if_ne (tgt := 134) S dX6_readPlainOne_101 (by decide) (fun c260 => ?_) (fun c260 => ?_)
              ·
                have r261 : R (1) (1) v256 := ⟨by omega, by omega⟩
                have p262 := (q259).mp (by omega)
                refine r_aload_n S dX6_readPlainOne_134 rfl (lv_at hl 1 rfl) ?_
                refine r_get (K := 16) (v := .ref (G.2.2.2.1 1)) S X254 (Nat.le_of_ble_eq_true rfl) rfl lk6_39_6 (fun _ => ⟨_, rfl, rfl⟩) dX6_readPlainOne_135 ?_
                refine r_getn (K := 1) S X254 (Nat.le_of_ble_eq_true rfl) rfl lk6_137_7 (fun _ => ⟨_, rfl, rfl⟩) dX6_readPlainOne_138 (fun v263 z264 => ?_)
                have r266 := R_any v263
                refine r_istore_n (lv' := [(2, .int v263), (0, .ref (G.2.2.2.1 16)), (1, .ref (G.2.2.1 a0))]) S dX6_readPlainOne_141 rfl hl (by decide) rfl (fun ls hl => ?_)
                refine r_aload_n S dX6_readPlainOne_142 rfl (lv_at hl 1 rfl) ?_
                refine r_get (K := 16) (v := .ref (G.2.2.2.1 1)) S X254 (Nat.le_of_ble_eq_true rfl) rfl lk6_39_6 (fun _ => ⟨_, rfl, rfl⟩) dX6_readPlainOne_143 ?_
                refine r_kv (q_V (As := []) (rest := []) (K := 1) (ci := 7) S X254 (c_X7_step_q l G t11 I14 bb nb 200 (nx bb nb 200 t).2.2 (RT_st (RG_fr hR (fun j => ((M12.2 1 j (Or.inl (by decide))).trans rfl)) (fun j => ((M12.2 2 j (Or.inl (by decide))).trans rfl)) (fun j => ((M12.2 201 j (Or.inl (by decide))).trans rfl)) ((M12.2 23 2 (Or.inl (by decide))).trans rfl) ((M12.2 23 3 (Or.inl (by decide))).trans rfl) (fun j => ((M12.2 228 j (Or.inl (by decide))).trans rfl)) (fun j => ((M12.2 229 j (Or.inl (by decide))).trans rfl))).1 (Or.inr (Or.inr p262.1))).1 (RT_st (RG_fr hR (fun j => ((M12.2 1 j (Or.inl (by decide))).trans rfl)) (fun j => ((M12.2 2 j (Or.inl (by decide))).trans rfl)) (fun j => ((M12.2 201 j (Or.inl (by decide))).trans rfl)) ((M12.2 23 2 (Or.inl (by decide))).trans rfl) ((M12.2 23 3 (Or.inl (by decide))).trans rfl) (fun j => ((M12.2 228 j (Or.inl (by decide))).trans rfl)) (fun j => ((M12.2 229 j (Or.inl (by decide))).trans rfl))).1 (Or.inr (Or.inr p262.1))).2.1 (RT_st (RG_fr hR (fun j => ((M12.2 1 j (Or.inl (by decide))).trans rfl)) (fun j => ((M12.2 2 j (Or.inl (by decide))).trans rfl)) (fun j => ((M12.2 201 j (Or.inl (by decide))).trans rfl)) ((M12.2 23 2 (Or.inl (by decide))).trans rfl) ((M12.2 23 3 (Or.inl (by decide))).trans rfl) (fun j => ((M12.2 228 j (Or.inl (by decide))).trans rfl)) (fun j => ((M12.2 229 j (Or.inl (by decide))).trans rfl))).1 (Or.inr (Or.inr p262.1))).2.2) ck6_64 (Nat.le_of_ble_eq_true rfl) rfl (fun _ => ⟨_, rfl⟩) ⟨_, _, rfl⟩ ⟨Nat.le_of_ble_eq_true rfl, Nat.le_of_ble_eq_true rfl⟩ rfl hl.1 rfl (Nat.le_of_ble_eq_true rfl) dX6_readPlainOne_146 ⟨Nat.le_refl 0, Nat.le_refl 0⟩) X254 (fun t269 H lc q267 X268 => ?_)
                unfold po_X7_step_q at q267
                obtain ⟨q270, q271, q272⟩ := q267
                have F273 : Fr [(16, 1), (16, 2), (17, 4), (1, 3), (1, 4), (1, 5), (1, 7), (1, 8)] [18, 19, 20, 201] τ t269 := Fr_call F15 q271 (by decide)
                have hR274 : RG bb nb 200 an mn t269 (nx bb nb 200 (nx bb nb 200 t)) := ⟨q272, NM2_fr hR.2 ((q271 23 2 (by decide)).trans ((M12.2 23 2 (Or.inl (by decide))).trans rfl)) ((q271 23 3 (by decide)).trans ((M12.2 23 3 (Or.inl (by decide))).trans rfl)) (fun j => ((q271 228 j (by simp [fz])).trans ((M12.2 228 j (Or.inl (by decide))).trans rfl))) (fun j => ((q271 229 j (by simp [fz])).trans ((M12.2 229 j (Or.inl (by decide))).trans rfl)))⟩
                refine r_aload_n S dX6_readPlainOne_149 rfl (lv_at hl 1 rfl) ?_
                refine r_iconst S dX6_readPlainOne_150 (by decide) (fun v275 z276 => ?_)
                have r277 := R_eq z276
                refine r_bipush S dX6_readPlainOne_151 (by decide) (fun v278 z279 => ?_)
                have r280 := R_eq z279
                refine r_ki (q_U (As := [.int v275, .int v278]) (rest := []) (K := 16) (ci := 6) S X268 (c_X8_takeNumber_t16 l G t269 q270 v275 v278 r277 r280 (by rw [((q271 16 1 (by decide)).trans ((M12.2 16 1 (Or.inr (by decide))).trans z4))]; exact R_of hf_1 rfl) bb nb an mn (nx bb nb 200 (nx bb nb 200 t)) hR274 ) ck6_140_6 (Nat.le_of_ble_eq_true rfl) rfl (fun _ => ⟨_, rfl⟩) ⟨_, _, rfl⟩ ⟨Nat.le_of_ble_eq_true rfl, Nat.le_of_ble_eq_true rfl⟩ rfl hl.1 rfl (Nat.le_of_ble_eq_true rfl) dX6_readPlainOne_153 ⟨Nat.le_refl 0, Nat.le_refl 0⟩) X268 (fun v284 t283 H lc q281 X282 => ?_)
                unfold po_X8_takeNumber_t16 at q281
                obtain ⟨q285, q286, q287, q288, q289⟩ := q281
                have F290 : Fr [(16, 1), (16, 2), (17, 4), (1, 3), (1, 4), (1, 5), (1, 7), (1, 8)] [18, 19, 20, 201] τ t283 := Fr_call F273 q286 (by decide)
                refine r_if_ne (tgt := 161) S dX6_readPlainOne_156 (by decide) (fun c291 => ?_) (fun c291 => ?_)
                ·
                  have r292 : R (1) (1) v284 := ⟨by omega, by omega⟩
                  obtain ⟨p293, p294⟩ := q288 (by omega)
                  obtain ⟨v295, z296⟩ : ∃ x, t283 16 2 = x := ⟨_, rfl⟩
                  rw [z296] at p293
                  obtain ⟨v297, z298⟩ : ∃ x, t283 16 1 = x := ⟨_, rfl⟩
                  rw [z298] at p294
                  have p299 := (QY_1 q289) (by omega)
                  obtain ⟨g300, e301, hP302⟩ := p299
                  refine r_aload_n S dX6_readPlainOne_161 rfl (lv_at hl 1 rfl) ?_
                  refine r_get (K := 16) (v := .ref (G.2.2.2.1 17)) S X282 (Nat.le_of_ble_eq_true rfl) rfl lk6_14_6 (fun _ => ⟨_, rfl, rfl⟩) dX6_readPlainOne_162 ?_
                  refine r_aload_n S dX6_readPlainOne_165 rfl (lv_at hl 2 rfl) ?_
                  refine r_iload_n S dX6_readPlainOne_166 rfl (lv_at hl 0 rfl) ?_
                  refine r_aload_n S dX6_readPlainOne_167 rfl (lv_at hl 1 rfl) ?_
                  refine r_geti (K := 16) S X282 (Nat.le_of_ble_eq_true rfl) rfl lk6_127_6 (fun _ => ⟨_, rfl, rfl⟩) z296 dX6_readPlainOne_168 ?_
                  refine r_kv (q_V (As := [.ref (G.2.2.1 a0), .int v263, .int v295]) (rest := []) (K := 17) (ci := 5) S X282 (c_X5_add l G t283 q285 a0 h_a0 v263 v295 r266 p293 (YT_eq hYT (fun j => ((q286 18 j (by simp [fz])).trans ((q271 18 j (by simp [fz])).trans ((M12.2 18 j (Or.inl (by decide))).trans rfl)))) (fun j => ((q286 19 j (by simp [fz])).trans ((q271 19 j (by simp [fz])).trans ((M12.2 19 j (Or.inl (by decide))).trans rfl))))) (by omega)) ck6_67 (Nat.le_of_ble_eq_true rfl) rfl (fun _ => ⟨_, rfl⟩) ⟨_, _, rfl⟩ ⟨Nat.le_of_ble_eq_true rfl, Nat.le_of_ble_eq_true rfl⟩ rfl hl.1 rfl (Nat.le_of_ble_eq_true rfl) dX6_readPlainOne_171 ⟨Nat.le_refl 0, Nat.le_refl 0⟩) X282 (fun t305 H lc q303 X304 => ?_)
                  unfold po_X5_add at q303
                  obtain ⟨q306, q307, q308⟩ := q303
                  have F309 : Fr [(16, 1), (16, 2), (17, 4), (1, 3), (1, 4), (1, 5), (1, 7), (1, 8)] [18, 19, 20, 201] τ t305 := Fr_call F290 q307 (by decide)
                  refine r_iconst S dX6_readPlainOne_174 (by decide) (fun v310 z311 => ?_)
                  have r312 := R_eq z311
                  exact r_ret S hr hlk X304 ⟨q306, F309, q308, (R_of r312 rfl), (fun h => (by rw [((q307 16 1 (by decide)).trans z298)]; exact R_of p294 rfl)), (QY_r (by rw [(tNum_x e301).2]; exact sLeaf_n (i3_of hW (by omega)) ⟨p262.1, Or.inl (by have q := p262.2; omega)⟩ (tNum_x e301).1) (by omega) (RG_fr hP302.2 (fun j => ((q307 1 j (by simp [fz])).trans rfl)) (fun j => ((q307 2 j (by simp [fz])).trans rfl)) (fun j => ((q307 201 j (by simp [fz])).trans rfl)) ((q307 23 2 (by decide)).trans rfl) ((q307 23 3 (by decide)).trans rfl) (fun j => ((q307 228 j (by simp [fz])).trans rfl)) (fun j => ((q307 229 j (by simp [fz])).trans rfl))))⟩ (nr_bool (R_of (lo := 0) (hi := 1) r312 rfl)) dX6_readPlainOne_175
                ·
                  have r313 : R (0) (0) v284 := ⟨by omega, by omega⟩
                  have p314 := (QY_0 q289) (by omega)
                  obtain ⟨q315, e316, h317, h318⟩ := p314
                  refine r_iconst S dX6_readPlainOne_159 (by decide) (fun v319 z320 => ?_)
                  have r321 := R_eq z320
                  exact r_ret S hr hlk X282 ⟨q285, F290, (YT_eq hYT (fun j => ((q286 18 j (by simp [fz])).trans ((q271 18 j (by simp [fz])).trans ((M12.2 18 j (Or.inl (by decide))).trans rfl)))) (fun j => ((q286 19 j (by simp [fz])).trans ((q271 19 j (by simp [fz])).trans ((M12.2 19 j (Or.inl (by decide))).trans rfl))))), (R_of r321 rfl), (fun h => by exfalso; omega), (QY_l ((sLeaf_d (i3_of hW (by omega)) ⟨p262.1, Or.inl (by have q := p262.2; omega)⟩ (tNum_99 (RT_st hR.1 (Or.inr (Or.inr p262.1))).2.2 e316).1).trans (congrArg Sum.inl (tNum_99 (RT_st hR.1 (Or.inr (Or.inr p262.1))).2.2 e316).2).symm) (by omega) h317 h318)⟩ (nr_bool (R_of (lo := 0) (hi := 1) r321 rfl)) dX6_readPlainOne_160
              ·
                have r322 : R (0) (0) v256 := ⟨by omega, by omega⟩
                have p323 := (iff_n q259) (by omega)
                refine r_aload_n S dX6_readPlainOne_104 rfl (lv_at hl 1 rfl) ?_
                refine r_get (K := 16) (v := .ref (G.2.2.2.1 1)) S X254 (Nat.le_of_ble_eq_true rfl) rfl lk6_39_6 (fun _ => ⟨_, rfl, rfl⟩) dX6_readPlainOne_105 ?_
                refine r_bipush S dX6_readPlainOne_108 (by decide) (fun v324 z325 => ?_)
                have r326 := R_eq z325
                refine r_ki (q_V (As := [.int v324]) (rest := []) (K := 1) (ci := 7) S X254 (c_X7_isSigned_q l G t11 I14 v324 (R_of (lo := 0) (hi := 65535) r326 rfl) bb nb 200 (nx bb nb 200 t) (RG_fr hR (fun j => ((M12.2 1 j (Or.inl (by decide))).trans rfl)) (fun j => ((M12.2 2 j (Or.inl (by decide))).trans rfl)) (fun j => ((M12.2 201 j (Or.inl (by decide))).trans rfl)) ((M12.2 23 2 (Or.inl (by decide))).trans rfl) ((M12.2 23 3 (Or.inl (by decide))).trans rfl) (fun j => ((M12.2 228 j (Or.inl (by decide))).trans rfl)) (fun j => ((M12.2 229 j (Or.inl (by decide))).trans rfl))).1) ck6_81 (Nat.le_of_ble_eq_true rfl) rfl (fun _ => ⟨_, rfl⟩) ⟨_, _, rfl⟩ ⟨Nat.le_of_ble_eq_true rfl, Nat.le_of_ble_eq_true rfl⟩ rfl hl.1 rfl (Nat.le_of_ble_eq_true rfl) dX6_readPlainOne_110 ⟨Nat.le_refl 0, Nat.le_refl 0⟩) X254 (fun v330 t329 H lc q327 X328 => ?_)
                unfold po_X7_isSigned_q at q327
                obtain ⟨q331, q332, q333⟩ := q327
                rw [q331] at X328
                refine r_if_ne (tgt := 134) S dX6_readPlainOne_113 (by decide) (fun c334 => ?_) (fun c334 => ?_)
                ·
                  have r335 : R (1) (1) v330 := ⟨by omega, by omega⟩
                  have p336 := (q333).mp (by omega)
                  refine r_aload_n S dX6_readPlainOne_134 rfl (lv_at hl 1 rfl) ?_
                  refine r_get (K := 16) (v := .ref (G.2.2.2.1 1)) S X328 (Nat.le_of_ble_eq_true rfl) rfl lk6_39_6 (fun _ => ⟨_, rfl, rfl⟩) dX6_readPlainOne_135 ?_
                  refine r_getn (K := 1) S X328 (Nat.le_of_ble_eq_true rfl) rfl lk6_137_7 (fun _ => ⟨_, rfl, rfl⟩) dX6_readPlainOne_138 (fun v337 z338 => ?_)
                  have r340 := R_any v337
                  refine r_istore_n (lv' := [(2, .int v337), (0, .ref (G.2.2.2.1 16)), (1, .ref (G.2.2.1 a0))]) S dX6_readPlainOne_141 rfl hl (by decide) rfl (fun ls hl => ?_)
                  refine r_aload_n S dX6_readPlainOne_142 rfl (lv_at hl 1 rfl) ?_
                  refine r_get (K := 16) (v := .ref (G.2.2.2.1 1)) S X328 (Nat.le_of_ble_eq_true rfl) rfl lk6_39_6 (fun _ => ⟨_, rfl, rfl⟩) dX6_readPlainOne_143 ?_
                  refine r_kv (q_V (As := []) (rest := []) (K := 1) (ci := 7) S X328 (c_X7_step_q l G t11 I14 bb nb 200 (nx bb nb 200 t).2.2 (RT_st (RG_fr hR (fun j => ((M12.2 1 j (Or.inl (by decide))).trans rfl)) (fun j => ((M12.2 2 j (Or.inl (by decide))).trans rfl)) (fun j => ((M12.2 201 j (Or.inl (by decide))).trans rfl)) ((M12.2 23 2 (Or.inl (by decide))).trans rfl) ((M12.2 23 3 (Or.inl (by decide))).trans rfl) (fun j => ((M12.2 228 j (Or.inl (by decide))).trans rfl)) (fun j => ((M12.2 229 j (Or.inl (by decide))).trans rfl))).1 (Or.inr (Or.inr p336.1))).1 (RT_st (RG_fr hR (fun j => ((M12.2 1 j (Or.inl (by decide))).trans rfl)) (fun j => ((M12.2 2 j (Or.inl (by decide))).trans rfl)) (fun j => ((M12.2 201 j (Or.inl (by decide))).trans rfl)) ((M12.2 23 2 (Or.inl (by decide))).trans rfl) ((M12.2 23 3 (Or.inl (by decide))).trans rfl) (fun j => ((M12.2 228 j (Or.inl (by decide))).trans rfl)) (fun j => ((M12.2 229 j (Or.inl (by decide))).trans rfl))).1 (Or.inr (Or.inr p336.1))).2.1 (RT_st (RG_fr hR (fun j => ((M12.2 1 j (Or.inl (by decide))).trans rfl)) (fun j => ((M12.2 2 j (Or.inl (by decide))).trans rfl)) (fun j => ((M12.2 201 j (Or.inl (by decide))).trans rfl)) ((M12.2 23 2 (Or.inl (by decide))).trans rfl) ((M12.2 23 3 (Or.inl (by decide))).trans rfl) (fun j => ((M12.2 228 j (Or.inl (by decide))).trans rfl)) (fun j => ((M12.2 229 j (Or.inl (by decide))).trans rfl))).1 (Or.inr (Or.inr p336.1))).2.2) ck6_64 (Nat.le_of_ble_eq_true rfl) rfl (fun _ => ⟨_, rfl⟩) ⟨_, _, rfl⟩ ⟨Nat.le_of_ble_eq_true rfl, Nat.le_of_ble_eq_true rfl⟩ rfl hl.1 rfl (Nat.le_of_ble_eq_true rfl) dX6_readPlainOne_146 ⟨Nat.le_refl 0, Nat.le_refl 0⟩) X328 (fun t343 H lc q341 X342 => ?_)
                  unfold po_X7_step_q at q341
                  obtain ⟨q344, q345, q346⟩ := q341
                  have F347 : Fr [(16, 1), (16, 2), (17, 4), (1, 3), (1, 4), (1, 5), (1, 7), (1, 8)] [18, 19, 20, 201] τ t343 := Fr_call F15 q345 (by decide)
                  have hR348 : RG bb nb 200 an mn t343 (nx bb nb 200 (nx bb nb 200 t)) := ⟨q346, NM2_fr hR.2 ((q345 23 2 (by decide)).trans ((M12.2 23 2 (Or.inl (by decide))).trans rfl)) ((q345 23 3 (by decide)).trans ((M12.2 23 3 (Or.inl (by decide))).trans rfl)) (fun j => ((q345 228 j (by simp [fz])).trans ((M12.2 228 j (Or.inl (by decide))).trans rfl))) (fun j => ((q345 229 j (by simp [fz])).trans ((M12.2 229 j (Or.inl (by decide))).trans rfl)))⟩
                  refine r_aload_n S dX6_readPlainOne_149 rfl (lv_at hl 1 rfl) ?_
                  refine r_iconst S dX6_readPlainOne_150 (by decide) (fun v349 z350 => ?_)
                  have r351 := R_eq z350
                  refine r_bipush S dX6_readPlainOne_151 (by decide) (fun v352 z353 => ?_)
                  have r354 := R_eq z353
                  refine r_ki (q_U (As := [.int v349, .int v352]) (rest := []) (K := 16) (ci := 6) S X342 (c_X8_takeNumber_t16 l G t343 q344 v349 v352 r351 r354 (by rw [((q345 16 1 (by decide)).trans ((M12.2 16 1 (Or.inr (by decide))).trans z4))]; exact R_of hf_1 rfl) bb nb an mn (nx bb nb 200 (nx bb nb 200 t)) hR348 ) ck6_140_6 (Nat.le_of_ble_eq_true rfl) rfl (fun _ => ⟨_, rfl⟩) ⟨_, _, rfl⟩ ⟨Nat.le_of_ble_eq_true rfl, Nat.le_of_ble_eq_true rfl⟩ rfl hl.1 rfl (Nat.le_of_ble_eq_true rfl) dX6_readPlainOne_153 ⟨Nat.le_refl 0, Nat.le_refl 0⟩) X342 (fun v358 t357 H lc q355 X356 => ?_)
                  unfold po_X8_takeNumber_t16 at q355
                  obtain ⟨q359, q360, q361, q362, q363⟩ := q355
                  have F364 : Fr [(16, 1), (16, 2), (17, 4), (1, 3), (1, 4), (1, 5), (1, 7), (1, 8)] [18, 19, 20, 201] τ t357 := Fr_call F347 q360 (by decide)
                  refine r_if_ne (tgt := 161) S dX6_readPlainOne_156 (by decide) (fun c365 => ?_) (fun c365 => ?_)
                  ·
                    have r366 : R (1) (1) v358 := ⟨by omega, by omega⟩
                    obtain ⟨p367, p368⟩ := q362 (by omega)
                    obtain ⟨v369, z370⟩ : ∃ x, t357 16 2 = x := ⟨_, rfl⟩
                    rw [z370] at p367
                    obtain ⟨v371, z372⟩ : ∃ x, t357 16 1 = x := ⟨_, rfl⟩
                    rw [z372] at p368
                    have p373 := (QY_1 q363) (by omega)
                    obtain ⟨g374, e375, hP376⟩ := p373
                    refine r_aload_n S dX6_readPlainOne_161 rfl (lv_at hl 1 rfl) ?_
                    refine r_get (K := 16) (v := .ref (G.2.2.2.1 17)) S X356 (Nat.le_of_ble_eq_true rfl) rfl lk6_14_6 (fun _ => ⟨_, rfl, rfl⟩) dX6_readPlainOne_162 ?_
                    refine r_aload_n S dX6_readPlainOne_165 rfl (lv_at hl 2 rfl) ?_
                    refine r_iload_n S dX6_readPlainOne_166 rfl (lv_at hl 0 rfl) ?_
                    refine r_aload_n S dX6_readPlainOne_167 rfl (lv_at hl 1 rfl) ?_
                    refine r_geti (K := 16) S X356 (Nat.le_of_ble_eq_true rfl) rfl lk6_127_6 (fun _ => ⟨_, rfl, rfl⟩) z370 dX6_readPlainOne_168 ?_
                    refine r_kv (q_V (As := [.ref (G.2.2.1 a0), .int v337, .int v369]) (rest := []) (K := 17) (ci := 5) S X356 (c_X5_add l G t357 q359 a0 h_a0 v337 v369 r340 p367 (YT_eq hYT (fun j => ((q360 18 j (by simp [fz])).trans ((q345 18 j (by simp [fz])).trans ((M12.2 18 j (Or.inl (by decide))).trans rfl)))) (fun j => ((q360 19 j (by simp [fz])).trans ((q345 19 j (by simp [fz])).trans ((M12.2 19 j (Or.inl (by decide))).trans rfl))))) (by omega)) ck6_67 (Nat.le_of_ble_eq_true rfl) rfl (fun _ => ⟨_, rfl⟩) ⟨_, _, rfl⟩ ⟨Nat.le_of_ble_eq_true rfl, Nat.le_of_ble_eq_true rfl⟩ rfl hl.1 rfl (Nat.le_of_ble_eq_true rfl) dX6_readPlainOne_171 ⟨Nat.le_refl 0, Nat.le_refl 0⟩) X356 (fun t379 H lc q377 X378 => ?_)
                    unfold po_X5_add at q377
                    obtain ⟨q380, q381, q382⟩ := q377
                    have F383 : Fr [(16, 1), (16, 2), (17, 4), (1, 3), (1, 4), (1, 5), (1, 7), (1, 8)] [18, 19, 20, 201] τ t379 := Fr_call F364 q381 (by decide)
                    refine r_iconst S dX6_readPlainOne_174 (by decide) (fun v384 z385 => ?_)
                    have r386 := R_eq z385
                    exact r_ret S hr hlk X378 ⟨q380, F383, q382, (R_of r386 rfl), (fun h => (by rw [((q381 16 1 (by decide)).trans z372)]; exact R_of p368 rfl)), (QY_r (by rw [(tNum_x e375).2]; exact sLeaf_n (i3_of hW (by omega)) ⟨p336.1, Or.inr (Or.inl (by have q := p336.2; omega))⟩ (tNum_x e375).1) (by omega) (RG_fr hP376.2 (fun j => ((q381 1 j (by simp [fz])).trans rfl)) (fun j => ((q381 2 j (by simp [fz])).trans rfl)) (fun j => ((q381 201 j (by simp [fz])).trans rfl)) ((q381 23 2 (by decide)).trans rfl) ((q381 23 3 (by decide)).trans rfl) (fun j => ((q381 228 j (by simp [fz])).trans rfl)) (fun j => ((q381 229 j (by simp [fz])).trans rfl))))⟩ (nr_bool (R_of (lo := 0) (hi := 1) r386 rfl)) dX6_readPlainOne_175
                  ·
                    have r387 : R (0) (0) v358 := ⟨by omega, by omega⟩
                    have p388 := (QY_0 q363) (by omega)
                    obtain ⟨q389, e390, h391, h392⟩ := p388
                    refine r_iconst S dX6_readPlainOne_159 (by decide) (fun v393 z394 => ?_)
                    have r395 := R_eq z394
                    exact r_ret S hr hlk X356 ⟨q359, F364, (YT_eq hYT (fun j => ((q360 18 j (by simp [fz])).trans ((q345 18 j (by simp [fz])).trans ((M12.2 18 j (Or.inl (by decide))).trans rfl)))) (fun j => ((q360 19 j (by simp [fz])).trans ((q345 19 j (by simp [fz])).trans ((M12.2 19 j (Or.inl (by decide))).trans rfl))))), (R_of r395 rfl), (fun h => by exfalso; omega), (QY_l ((sLeaf_d (i3_of hW (by omega)) ⟨p336.1, Or.inr (Or.inl (by have q := p336.2; omega))⟩ (tNum_99 (RT_st hR.1 (Or.inr (Or.inr p336.1))).2.2 e390).1).trans (congrArg Sum.inl (tNum_99 (RT_st hR.1 (Or.inr (Or.inr p336.1))).2.2 e390).2).symm) (by omega) h391 h392)⟩ (nr_bool (R_of (lo := 0) (hi := 1) r395 rfl)) dX6_readPlainOne_160
                ·
                  have r396 : R (0) (0) v330 := ⟨by omega, by omega⟩
                  have p397 := (iff_n q333) (by omega)
                  refine r_aload_n S dX6_readPlainOne_116 rfl (lv_at hl 1 rfl) ?_
                  refine r_get (K := 16) (v := .ref (G.2.2.2.1 1)) S X328 (Nat.le_of_ble_eq_true rfl) rfl lk6_39_6 (fun _ => ⟨_, rfl, rfl⟩) dX6_readPlainOne_117 ?_
                  refine r_bipush S dX6_readPlainOne_120 (by decide) (fun v398 z399 => ?_)
                  have r400 := R_eq z399
                  refine r_ki (q_V (As := [.int v398]) (rest := []) (K := 1) (ci := 7) S X328 (c_X7_isSigned_q l G t11 I14 v398 (R_of (lo := 0) (hi := 65535) r400 rfl) bb nb 200 (nx bb nb 200 t) (RG_fr hR (fun j => ((M12.2 1 j (Or.inl (by decide))).trans rfl)) (fun j => ((M12.2 2 j (Or.inl (by decide))).trans rfl)) (fun j => ((M12.2 201 j (Or.inl (by decide))).trans rfl)) ((M12.2 23 2 (Or.inl (by decide))).trans rfl) ((M12.2 23 3 (Or.inl (by decide))).trans rfl) (fun j => ((M12.2 228 j (Or.inl (by decide))).trans rfl)) (fun j => ((M12.2 229 j (Or.inl (by decide))).trans rfl))).1) ck6_81 (Nat.le_of_ble_eq_true rfl) rfl (fun _ => ⟨_, rfl⟩) ⟨_, _, rfl⟩ ⟨Nat.le_of_ble_eq_true rfl, Nat.le_of_ble_eq_true rfl⟩ rfl hl.1 rfl (Nat.le_of_ble_eq_true rfl) dX6_readPlainOne_122 ⟨Nat.le_refl 0, Nat.le_refl 0⟩) X328 (fun v404 t403 H lc q401 X402 => ?_)
                  unfold po_X7_isSigned_q at q401
                  obtain ⟨q405, q406, q407⟩ := q401
                  rw [q405] at X402
                  refine r_if_ne (tgt := 134) S dX6_readPlainOne_125 (by decide) (fun c408 => ?_) (fun c408 => ?_)
                  ·
                    have r409 : R (1) (1) v404 := ⟨by omega, by omega⟩
                    have p410 := (q407).mp (by omega)
                    refine r_aload_n S dX6_readPlainOne_134 rfl (lv_at hl 1 rfl) ?_
                    refine r_get (K := 16) (v := .ref (G.2.2.2.1 1)) S X402 (Nat.le_of_ble_eq_true rfl) rfl lk6_39_6 (fun _ => ⟨_, rfl, rfl⟩) dX6_readPlainOne_135 ?_
                    refine r_getn (K := 1) S X402 (Nat.le_of_ble_eq_true rfl) rfl lk6_137_7 (fun _ => ⟨_, rfl, rfl⟩) dX6_readPlainOne_138 (fun v411 z412 => ?_)
                    have r414 := R_any v411
                    refine r_istore_n (lv' := [(2, .int v411), (0, .ref (G.2.2.2.1 16)), (1, .ref (G.2.2.1 a0))]) S dX6_readPlainOne_141 rfl hl (by decide) rfl (fun ls hl => ?_)
                    refine r_aload_n S dX6_readPlainOne_142 rfl (lv_at hl 1 rfl) ?_
                    refine r_get (K := 16) (v := .ref (G.2.2.2.1 1)) S X402 (Nat.le_of_ble_eq_true rfl) rfl lk6_39_6 (fun _ => ⟨_, rfl, rfl⟩) dX6_readPlainOne_143 ?_
                    refine r_kv (q_V (As := []) (rest := []) (K := 1) (ci := 7) S X402 (c_X7_step_q l G t11 I14 bb nb 200 (nx bb nb 200 t).2.2 (RT_st (RG_fr hR (fun j => ((M12.2 1 j (Or.inl (by decide))).trans rfl)) (fun j => ((M12.2 2 j (Or.inl (by decide))).trans rfl)) (fun j => ((M12.2 201 j (Or.inl (by decide))).trans rfl)) ((M12.2 23 2 (Or.inl (by decide))).trans rfl) ((M12.2 23 3 (Or.inl (by decide))).trans rfl) (fun j => ((M12.2 228 j (Or.inl (by decide))).trans rfl)) (fun j => ((M12.2 229 j (Or.inl (by decide))).trans rfl))).1 (Or.inr (Or.inr p410.1))).1 (RT_st (RG_fr hR (fun j => ((M12.2 1 j (Or.inl (by decide))).trans rfl)) (fun j => ((M12.2 2 j (Or.inl (by decide))).trans rfl)) (fun j => ((M12.2 201 j (Or.inl (by decide))).trans rfl)) ((M12.2 23 2 (Or.inl (by decide))).trans rfl) ((M12.2 23 3 (Or.inl (by decide))).trans rfl) (fun j => ((M12.2 228 j (Or.inl (by decide))).trans rfl)) (fun j => ((M12.2 229 j (Or.inl (by decide))).trans rfl))).1 (Or.inr (Or.inr p410.1))).2.1 (RT_st (RG_fr hR (fun j => ((M12.2 1 j (Or.inl (by decide))).trans rfl)) (fun j => ((M12.2 2 j (Or.inl (by decide))).trans rfl)) (fun j => ((M12.2 201 j (Or.inl (by decide))).trans rfl)) ((M12.2 23 2 (Or.inl (by decide))).trans rfl) ((M12.2 23 3 (Or.inl (by decide))).trans rfl) (fun j => ((M12.2 228 j (Or.inl (by decide))).trans rfl)) (fun j => ((M12.2 229 j (Or.inl (by decide))).trans rfl))).1 (Or.inr (Or.inr p410.1))).2.2) ck6_64 (Nat.le_of_ble_eq_true rfl) rfl (fun _ => ⟨_, rfl⟩) ⟨_, _, rfl⟩ ⟨Nat.le_of_ble_eq_true rfl, Nat.le_of_ble_eq_true rfl⟩ rfl hl.1 rfl (Nat.le_of_ble_eq_true rfl) dX6_readPlainOne_146 ⟨Nat.le_refl 0, Nat.le_refl 0⟩) X402 (fun t417 H lc q415 X416 => ?_)
                    unfold po_X7_step_q at q415
                    obtain ⟨q418, q419, q420⟩ := q415
                    have F421 : Fr [(16, 1), (16, 2), (17, 4), (1, 3), (1, 4), (1, 5), (1, 7), (1, 8)] [18, 19, 20, 201] τ t417 := Fr_call F15 q419 (by decide)
                    have hR422 : RG bb nb 200 an mn t417 (nx bb nb 200 (nx bb nb 200 t)) := ⟨q420, NM2_fr hR.2 ((q419 23 2 (by decide)).trans ((M12.2 23 2 (Or.inl (by decide))).trans rfl)) ((q419 23 3 (by decide)).trans ((M12.2 23 3 (Or.inl (by decide))).trans rfl)) (fun j => ((q419 228 j (by simp [fz])).trans ((M12.2 228 j (Or.inl (by decide))).trans rfl))) (fun j => ((q419 229 j (by simp [fz])).trans ((M12.2 229 j (Or.inl (by decide))).trans rfl)))⟩
                    refine r_aload_n S dX6_readPlainOne_149 rfl (lv_at hl 1 rfl) ?_
                    refine r_iconst S dX6_readPlainOne_150 (by decide) (fun v423 z424 => ?_)
                    have r425 := R_eq z424
                    refine r_bipush S dX6_readPlainOne_151 (by decide) (fun v426 z427 => ?_)
                    have r428 := R_eq z427
                    refine r_ki (q_U (As := [.int v423, .int v426]) (rest := []) (K := 16) (ci := 6) S X416 (c_X8_takeNumber_t16 l G t417 q418 v423 v426 r425 r428 (by rw [((q419 16 1 (by decide)).trans ((M12.2 16 1 (Or.inr (by decide))).trans z4))]; exact R_of hf_1 rfl) bb nb an mn (nx bb nb 200 (nx bb nb 200 t)) hR422 ) ck6_140_6 (Nat.le_of_ble_eq_true rfl) rfl (fun _ => ⟨_, rfl⟩) ⟨_, _, rfl⟩ ⟨Nat.le_of_ble_eq_true rfl, Nat.le_of_ble_eq_true rfl⟩ rfl hl.1 rfl (Nat.le_of_ble_eq_true rfl) dX6_readPlainOne_153 ⟨Nat.le_refl 0, Nat.le_refl 0⟩) X416 (fun v432 t431 H lc q429 X430 => ?_)
                    unfold po_X8_takeNumber_t16 at q429
                    obtain ⟨q433, q434, q435, q436, q437⟩ := q429
                    have F438 : Fr [(16, 1), (16, 2), (17, 4), (1, 3), (1, 4), (1, 5), (1, 7), (1, 8)] [18, 19, 20, 201] τ t431 := Fr_call F421 q434 (by decide)
                    refine r_if_ne (tgt := 161) S dX6_readPlainOne_156 (by decide) (fun c439 => ?_) (fun c439 => ?_)
                    ·
                      have r440 : R (1) (1) v432 := ⟨by omega, by omega⟩
                      obtain ⟨p441, p442⟩ := q436 (by omega)
                      obtain ⟨v443, z444⟩ : ∃ x, t431 16 2 = x := ⟨_, rfl⟩
                      rw [z444] at p441
                      obtain ⟨v445, z446⟩ : ∃ x, t431 16 1 = x := ⟨_, rfl⟩
                      rw [z446] at p442
                      have p447 := (QY_1 q437) (by omega)
                      obtain ⟨g448, e449, hP450⟩ := p447
                      refine r_aload_n S dX6_readPlainOne_161 rfl (lv_at hl 1 rfl) ?_
                      refine r_get (K := 16) (v := .ref (G.2.2.2.1 17)) S X430 (Nat.le_of_ble_eq_true rfl) rfl lk6_14_6 (fun _ => ⟨_, rfl, rfl⟩) dX6_readPlainOne_162 ?_
                      refine r_aload_n S dX6_readPlainOne_165 rfl (lv_at hl 2 rfl) ?_
                      refine r_iload_n S dX6_readPlainOne_166 rfl (lv_at hl 0 rfl) ?_
                      refine r_aload_n S dX6_readPlainOne_167 rfl (lv_at hl 1 rfl) ?_
                      refine r_geti (K := 16) S X430 (Nat.le_of_ble_eq_true rfl) rfl lk6_127_6 (fun _ => ⟨_, rfl, rfl⟩) z444 dX6_readPlainOne_168 ?_
                      refine r_kv (q_V (As := [.ref (G.2.2.1 a0), .int v411, .int v443]) (rest := []) (K := 17) (ci := 5) S X430 (c_X5_add l G t431 q433 a0 h_a0 v411 v443 r414 p441 (YT_eq hYT (fun j => ((q434 18 j (by simp [fz])).trans ((q419 18 j (by simp [fz])).trans ((M12.2 18 j (Or.inl (by decide))).trans rfl)))) (fun j => ((q434 19 j (by simp [fz])).trans ((q419 19 j (by simp [fz])).trans ((M12.2 19 j (Or.inl (by decide))).trans rfl))))) (by omega)) ck6_67 (Nat.le_of_ble_eq_true rfl) rfl (fun _ => ⟨_, rfl⟩) ⟨_, _, rfl⟩ ⟨Nat.le_of_ble_eq_true rfl, Nat.le_of_ble_eq_true rfl⟩ rfl hl.1 rfl (Nat.le_of_ble_eq_true rfl) dX6_readPlainOne_171 ⟨Nat.le_refl 0, Nat.le_refl 0⟩) X430 (fun t453 H lc q451 X452 => ?_)
                      unfold po_X5_add at q451
                      obtain ⟨q454, q455, q456⟩ := q451
                      have F457 : Fr [(16, 1), (16, 2), (17, 4), (1, 3), (1, 4), (1, 5), (1, 7), (1, 8)] [18, 19, 20, 201] τ t453 := Fr_call F438 q455 (by decide)
                      refine r_iconst S dX6_readPlainOne_174 (by decide) (fun v458 z459 => ?_)
                      have r460 := R_eq z459
                      exact r_ret S hr hlk X452 ⟨q454, F457, q456, (R_of r460 rfl), (fun h => (by rw [((q455 16 1 (by decide)).trans z446)]; exact R_of p442 rfl)), (QY_r (by rw [(tNum_x e449).2]; exact sLeaf_n (i3_of hW (by omega)) ⟨p410.1, Or.inr (Or.inr (by have q := p410.2; omega))⟩ (tNum_x e449).1) (by omega) (RG_fr hP450.2 (fun j => ((q455 1 j (by simp [fz])).trans rfl)) (fun j => ((q455 2 j (by simp [fz])).trans rfl)) (fun j => ((q455 201 j (by simp [fz])).trans rfl)) ((q455 23 2 (by decide)).trans rfl) ((q455 23 3 (by decide)).trans rfl) (fun j => ((q455 228 j (by simp [fz])).trans rfl)) (fun j => ((q455 229 j (by simp [fz])).trans rfl))))⟩ (nr_bool (R_of (lo := 0) (hi := 1) r460 rfl)) dX6_readPlainOne_175
                    ·
                      have r461 : R (0) (0) v432 := ⟨by omega, by omega⟩
                      have p462 := (QY_0 q437) (by omega)
                      obtain ⟨q463, e464, h465, h466⟩ := p462
                      refine r_iconst S dX6_readPlainOne_159 (by decide) (fun v467 z468 => ?_)
                      have r469 := R_eq z468
                      exact r_ret S hr hlk X430 ⟨q433, F438, (YT_eq hYT (fun j => ((q434 18 j (by simp [fz])).trans ((q419 18 j (by simp [fz])).trans ((M12.2 18 j (Or.inl (by decide))).trans rfl)))) (fun j => ((q434 19 j (by simp [fz])).trans ((q419 19 j (by simp [fz])).trans ((M12.2 19 j (Or.inl (by decide))).trans rfl))))), (R_of r469 rfl), (fun h => by exfalso; omega), (QY_l ((sLeaf_d (i3_of hW (by omega)) ⟨p410.1, Or.inr (Or.inr (by have q := p410.2; omega))⟩ (tNum_99 (RT_st hR.1 (Or.inr (Or.inr p410.1))).2.2 e464).1).trans (congrArg Sum.inl (tNum_99 (RT_st hR.1 (Or.inr (Or.inr p410.1))).2.2 e464).2).symm) (by omega) h465 h466)⟩ (nr_bool (R_of (lo := 0) (hi := 1) r469 rfl)) dX6_readPlainOne_160
                  ·
                    have r470 : R (0) (0) v404 := ⟨by omega, by omega⟩
                    have p471 := (iff_n q407) (by omega)
                    refine r_aload_n S dX6_readPlainOne_128 rfl (lv_at hl 1 rfl) ?_
                    refine r_iconst S dX6_readPlainOne_129 (by decide) (fun v472 z473 => ?_)
                    have r474 := R_eq z473
                    refine r_ki (q_U (As := [.int v472]) (rest := []) (K := 16) (ci := 6) S X402 (c_X8_fail_t16 l G t11 I14 v472 (R_of (lo := -2147483648) (hi := 2147483647) r474 rfl)) ck6_48_6 (Nat.le_of_ble_eq_true rfl) rfl (fun _ => ⟨_, rfl⟩) ⟨_, _, rfl⟩ ⟨Nat.le_of_ble_eq_true rfl, Nat.le_of_ble_eq_true rfl⟩ rfl hl.1 rfl (Nat.le_of_ble_eq_true rfl) dX6_readPlainOne_130 ⟨Nat.le_refl 0, Nat.le_refl 0⟩) X402 (fun v478 t477 H lc q475 X476 => ?_)
                    unfold po_X8_fail_t16 at q475
                    obtain ⟨q479, q480, q481, q482⟩ := q475
                    have F483 : Fr [(16, 1), (16, 2), (17, 4), (1, 3), (1, 4), (1, 5), (1, 7), (1, 8)] [18, 19, 20, 201] τ t477 := Fr_call F15 q480 (by decide)
                    exact r_ret S hr hlk X476 ⟨q479, F483, (YT_eq hYT (fun j => ((q480 18 j (by simp [fz])).trans ((M12.2 18 j (Or.inl (by decide))).trans rfl))) (fun j => ((q480 19 j (by simp [fz])).trans ((M12.2 19 j (Or.inl (by decide))).trans rfl)))), (R_of q481 rfl), (fun h => by exfalso; omega), (QY_b (sLeaf_c (i3_of hW (by omega)) (fun h => h.2.elim (fun z => p323 ⟨h.1, by omega⟩) (fun z => z.elim (fun z => p397 ⟨h.1, by omega⟩) (fun z => p471 ⟨h.1, by omega⟩)))) (by omega) (by rw [q482]; omega) (RG_at (RG_fr hR (fun j => ((q480 1 j (by simp [fz])).trans ((M12.2 1 j (Or.inl (by decide))).trans rfl))) (fun j => ((q480 2 j (by simp [fz])).trans ((M12.2 2 j (Or.inl (by decide))).trans rfl))) (fun j => ((q480 201 j (by simp [fz])).trans ((M12.2 201 j (Or.inl (by decide))).trans rfl))) ((q480 23 2 (by decide)).trans ((M12.2 23 2 (Or.inl (by decide))).trans rfl)) ((q480 23 3 (by decide)).trans ((M12.2 23 3 (Or.inl (by decide))).trans rfl)) (fun j => ((q480 228 j (by simp [fz])).trans ((M12.2 228 j (Or.inl (by decide))).trans rfl))) (fun j => ((q480 229 j (by simp [fz])).trans ((M12.2 229 j (Or.inl (by decide))).trans rfl))))))⟩ (nr_bool (R_of (lo := 0) (hi := 1) q481 rfl)) dX6_readPlainOne_133
      ·
        refine r_aload_n S dX6_readPlainOne_28 rfl (lv_at hl 2 rfl) ?_
        refine r_wst (i := 19) S X13 (by decide) kw78 dX6_readPlainOne_29 ?_
        refine r_cacmp_ne (tgt := 46) S h_a0 (by decide) dX6_readPlainOne_32 (by decide) (fun c484 => ?_) (fun c484 => ?_)
        ·
          refine r_aload_n S dX6_readPlainOne_46 rfl (lv_at hl 1 rfl) ?_
          refine r_aload_n S dX6_readPlainOne_47 rfl (lv_at hl 1 rfl) ?_
          refine r_getP S X13 lk6_20_6 ((M12.2 16 5 (Or.inr (by decide))).trans z2) (by omega) dX6_readPlainOne_48 ?_
          refine r_ki (q_U (As := [.ref (G.2.2.2.1 23)]) (rest := []) (K := 16) (ci := 6) S X13 (c_X8_seeAsk_t16 l G t11 I14 (by rw [((M12.2 16 1 (Or.inr (by decide))).trans z4)]; exact R_of hf_1 rfl) bb nb an mn (nx bb nb 200 t) (RG_fr hR (fun j => ((M12.2 1 j (Or.inl (by decide))).trans rfl)) (fun j => ((M12.2 2 j (Or.inl (by decide))).trans rfl)) (fun j => ((M12.2 201 j (Or.inl (by decide))).trans rfl)) ((M12.2 23 2 (Or.inl (by decide))).trans rfl) ((M12.2 23 3 (Or.inl (by decide))).trans rfl) (fun j => ((M12.2 228 j (Or.inl (by decide))).trans rfl)) (fun j => ((M12.2 229 j (Or.inl (by decide))).trans rfl))) ) ck6_134_6 (Nat.le_of_ble_eq_true rfl) rfl (fun _ => ⟨_, rfl⟩) ⟨_, _, rfl⟩ ⟨Nat.le_of_ble_eq_true rfl, Nat.le_of_ble_eq_true rfl⟩ rfl hl.1 rfl (Nat.le_of_ble_eq_true rfl) dX6_readPlainOne_51 ⟨Nat.le_refl 0, Nat.le_refl 0⟩) X13 (fun v488 t487 H lc q485 X486 => ?_)
          unfold po_X8_seeAsk_t16 at q485
          obtain ⟨q489, q490, q491, q492, q493⟩ := q485
          have F494 : Fr [(16, 1), (16, 2), (17, 4), (1, 3), (1, 4), (1, 5), (1, 7), (1, 8)] [18, 19, 20, 201] τ t487 := Fr_call F15 q490 (by decide)
          refine r_istore_n (lv' := [(3, .int v488), (2, .int v5), (0, .ref (G.2.2.2.1 16)), (1, .ref (G.2.2.1 a0))]) S dX6_readPlainOne_54 rfl hl (by decide) rfl (fun ls hl => ?_)
          refine r_iload_n S dX6_readPlainOne_55 rfl (lv_at hl 0 rfl) ?_
          refine r_if_ne (tgt := 61) S dX6_readPlainOne_56 (by decide) (fun c495 => ?_) (fun c495 => ?_)
          ·
            have r496 : R (1) (1) v488 := ⟨by omega, by omega⟩
            obtain ⟨p497, p498⟩ := q492 (by omega)
            obtain ⟨v499, z500⟩ : ∃ x, t487 16 2 = x := ⟨_, rfl⟩
            rw [z500] at p497
            obtain ⟨v501, z502⟩ : ∃ x, t487 16 1 = x := ⟨_, rfl⟩
            rw [z502] at p498
            have p503 := (QY_1 q493) (by omega)
            obtain ⟨g504, e505, hP506⟩ := p503
            refine r_aload_n S dX6_readPlainOne_61 rfl (lv_at hl 2 rfl) ?_
            refine r_get (K := 16) (v := .ref (G.2.2.2.1 1)) S X486 (Nat.le_of_ble_eq_true rfl) rfl lk6_39_6 (fun _ => ⟨_, rfl, rfl⟩) dX6_readPlainOne_62 ?_
            refine r_kv (q_V (As := []) (rest := []) (K := 1) (ci := 7) S X486 (c_X7_step_q l G t487 q489 bb nb 200 (nx bb nb 200 t).2.2 (RT_st hP506.2.1 (Or.inl (sLook_n e505).1)).1 (RT_st hP506.2.1 (Or.inl (sLook_n e505).1)).2.1 (RT_st hP506.2.1 (Or.inl (sLook_n e505).1)).2.2) ck6_64 (Nat.le_of_ble_eq_true rfl) rfl (fun _ => ⟨_, rfl⟩) ⟨_, _, rfl⟩ ⟨Nat.le_of_ble_eq_true rfl, Nat.le_of_ble_eq_true rfl⟩ rfl hl.1 rfl (Nat.le_of_ble_eq_true rfl) dX6_readPlainOne_65 ⟨Nat.le_refl 0, Nat.le_refl 0⟩) X486 (fun t509 H lc q507 X508 => ?_)
            unfold po_X7_step_q at q507
            obtain ⟨q510, q511, q512⟩ := q507
            have F513 : Fr [(16, 1), (16, 2), (17, 4), (1, 3), (1, 4), (1, 5), (1, 7), (1, 8)] [18, 19, 20, 201] τ t509 := Fr_call F494 q511 (by decide)
            have hR514 : RG bb nb 200 an mn t509 (nx bb nb 200 (nx bb nb 200 t)) := ⟨q512, NM2_fr hP506.2.2 ((q511 23 2 (by decide)).trans rfl) ((q511 23 3 (by decide)).trans rfl) (fun j => ((q511 228 j (by simp [fz])).trans rfl)) (fun j => ((q511 229 j (by simp [fz])).trans rfl))⟩
            refine r_goto (tgt := 161) S dX6_readPlainOne_68 (by decide) ?_
            refine r_aload_n S dX6_readPlainOne_161 rfl (lv_at hl 2 rfl) ?_
            refine r_get (K := 16) (v := .ref (G.2.2.2.1 17)) S X508 (Nat.le_of_ble_eq_true rfl) rfl lk6_14_6 (fun _ => ⟨_, rfl, rfl⟩) dX6_readPlainOne_162 ?_
            refine r_aload_n S dX6_readPlainOne_165 rfl (lv_at hl 3 rfl) ?_
            refine r_iload_n S dX6_readPlainOne_166 rfl (lv_at hl 1 rfl) ?_
            refine r_aload_n S dX6_readPlainOne_167 rfl (lv_at hl 2 rfl) ?_
            refine r_geti (K := 16) S X508 (Nat.le_of_ble_eq_true rfl) rfl lk6_127_6 (fun _ => ⟨_, rfl, rfl⟩) ((q511 16 2 (by decide)).trans z500) dX6_readPlainOne_168 ?_
            refine r_kv (q_V (As := [.ref (G.2.2.1 a0), .int v5, .int v499]) (rest := []) (K := 17) (ci := 5) S X508 (c_X5_add l G t509 q510 a0 h_a0 v5 v499 (R_of (lo := -2147483648) (hi := 2147483647) r7 rfl) (R_of (lo := 0) (hi := 99) p497 rfl) (YT_eq hYT (fun j => ((q511 18 j (by simp [fz])).trans ((q490 18 j (by simp [fz])).trans ((M12.2 18 j (Or.inl (by decide))).trans rfl)))) (fun j => ((q511 19 j (by simp [fz])).trans ((q490 19 j (by simp [fz])).trans ((M12.2 19 j (Or.inl (by decide))).trans rfl))))) (by omega)) ck6_67 (Nat.le_of_ble_eq_true rfl) rfl (fun _ => ⟨_, rfl⟩) ⟨_, _, rfl⟩ ⟨Nat.le_of_ble_eq_true rfl, Nat.le_of_ble_eq_true rfl⟩ rfl hl.1 rfl (Nat.le_of_ble_eq_true rfl) dX6_readPlainOne_171 ⟨Nat.le_refl 0, Nat.le_refl 0⟩) X508 (fun t517 H lc q515 X516 => ?_)
            unfold po_X5_add at q515
            obtain ⟨q518, q519, q520⟩ := q515
            have F521 : Fr [(16, 1), (16, 2), (17, 4), (1, 3), (1, 4), (1, 5), (1, 7), (1, 8)] [18, 19, 20, 201] τ t517 := Fr_call F513 q519 (by decide)
            refine r_iconst S dX6_readPlainOne_174 (by decide) (fun v522 z523 => ?_)
            have r524 := R_eq z523
            exact r_ret S hr hlk X516 ⟨q518, F521, q520, (R_of r524 rfl), (fun h => (by rw [((q519 16 1 (by decide)).trans ((q511 16 1 (by decide)).trans z502))]; exact R_of p498 rfl)), (QY_r ((sLeaf_a (i2_of hW (by omega))).trans (thn_r e505)) (by omega) (RG_fr hR514 (fun j => ((q519 1 j (by simp [fz])).trans rfl)) (fun j => ((q519 2 j (by simp [fz])).trans rfl)) (fun j => ((q519 201 j (by simp [fz])).trans rfl)) ((q519 23 2 (by decide)).trans rfl) ((q519 23 3 (by decide)).trans rfl) (fun j => ((q519 228 j (by simp [fz])).trans rfl)) (fun j => ((q519 229 j (by simp [fz])).trans rfl))))⟩ (nr_bool (R_of (lo := 0) (hi := 1) r524 rfl)) dX6_readPlainOne_175
          ·
            have r525 : R (0) (0) v488 := ⟨by omega, by omega⟩
            have p526 := (QY_0 q493) (by omega)
            obtain ⟨q527, e528, h529, h530⟩ := p526
            refine r_iconst S dX6_readPlainOne_59 (by decide) (fun v531 z532 => ?_)
            have r533 := R_eq z532
            exact r_ret S hr hlk X486 ⟨q489, F494, (YT_eq hYT (fun j => ((q490 18 j (by simp [fz])).trans ((M12.2 18 j (Or.inl (by decide))).trans rfl))) (fun j => ((q490 19 j (by simp [fz])).trans ((M12.2 19 j (Or.inl (by decide))).trans rfl)))), (R_of r533 rfl), (fun h => by exfalso; omega), (QY_l ((sLeaf_a (i2_of hW (by omega))).trans (thn_l e528)) (by omega) h529 h530)⟩ (nr_bool (R_of (lo := 0) (hi := 1) r533 rfl)) dX6_readPlainOne_60
        ·
          refine r_aload_n S dX6_readPlainOne_35 rfl (lv_at hl 1 rfl) ?_
          refine r_aload_n S dX6_readPlainOne_36 rfl (lv_at hl 1 rfl) ?_
          refine r_getP S X13 lk6_20_6 ((M12.2 16 5 (Or.inr (by decide))).trans z2) (by omega) dX6_readPlainOne_37 ?_
          refine r_ki (q_U (As := [.ref (G.2.2.2.1 23)]) (rest := []) (K := 16) (ci := 6) S X13 (c_X8_seeMan_t16 l G t11 I14 (by rw [((M12.2 16 1 (Or.inr (by decide))).trans z4)]; exact R_of hf_1 rfl) bb nb an mn (nx bb nb 200 t) (RG_fr hR (fun j => ((M12.2 1 j (Or.inl (by decide))).trans rfl)) (fun j => ((M12.2 2 j (Or.inl (by decide))).trans rfl)) (fun j => ((M12.2 201 j (Or.inl (by decide))).trans rfl)) ((M12.2 23 2 (Or.inl (by decide))).trans rfl) ((M12.2 23 3 (Or.inl (by decide))).trans rfl) (fun j => ((M12.2 228 j (Or.inl (by decide))).trans rfl)) (fun j => ((M12.2 229 j (Or.inl (by decide))).trans rfl))) ) ck6_130_6 (Nat.le_of_ble_eq_true rfl) rfl (fun _ => ⟨_, rfl⟩) ⟨_, _, rfl⟩ ⟨Nat.le_of_ble_eq_true rfl, Nat.le_of_ble_eq_true rfl⟩ rfl hl.1 rfl (Nat.le_of_ble_eq_true rfl) dX6_readPlainOne_40 ⟨Nat.le_refl 0, Nat.le_refl 0⟩) X13 (fun v537 t536 H lc q534 X535 => ?_)
          unfold po_X8_seeMan_t16 at q534
          obtain ⟨q538, q539, q540, q541, q542⟩ := q534
          have F543 : Fr [(16, 1), (16, 2), (17, 4), (1, 3), (1, 4), (1, 5), (1, 7), (1, 8)] [18, 19, 20, 201] τ t536 := Fr_call F15 q539 (by decide)
          refine r_goto (tgt := 54) S dX6_readPlainOne_43 (by decide) ?_
          refine r_istore_n (lv' := [(3, .int v537), (2, .int v5), (0, .ref (G.2.2.2.1 16)), (1, .ref (G.2.2.1 a0))]) S dX6_readPlainOne_54 rfl hl (by decide) rfl (fun ls hl => ?_)
          refine r_iload_n S dX6_readPlainOne_55 rfl (lv_at hl 0 rfl) ?_
          refine r_if_ne (tgt := 61) S dX6_readPlainOne_56 (by decide) (fun c544 => ?_) (fun c544 => ?_)
          ·
            have r545 : R (1) (1) v537 := ⟨by omega, by omega⟩
            obtain ⟨p546, p547⟩ := q541 (by omega)
            obtain ⟨v548, z549⟩ : ∃ x, t536 16 2 = x := ⟨_, rfl⟩
            rw [z549] at p546
            obtain ⟨v550, z551⟩ : ∃ x, t536 16 1 = x := ⟨_, rfl⟩
            rw [z551] at p547
            have p552 := (QY_1 q542) (by omega)
            obtain ⟨g553, e554, hP555⟩ := p552
            refine r_aload_n S dX6_readPlainOne_61 rfl (lv_at hl 2 rfl) ?_
            refine r_get (K := 16) (v := .ref (G.2.2.2.1 1)) S X535 (Nat.le_of_ble_eq_true rfl) rfl lk6_39_6 (fun _ => ⟨_, rfl, rfl⟩) dX6_readPlainOne_62 ?_
            refine r_kv (q_V (As := []) (rest := []) (K := 1) (ci := 7) S X535 (c_X7_step_q l G t536 q538 bb nb 200 (nx bb nb 200 t).2.2 (RT_st hP555.2.1 (Or.inl (sLook_n e554).1)).1 (RT_st hP555.2.1 (Or.inl (sLook_n e554).1)).2.1 (RT_st hP555.2.1 (Or.inl (sLook_n e554).1)).2.2) ck6_64 (Nat.le_of_ble_eq_true rfl) rfl (fun _ => ⟨_, rfl⟩) ⟨_, _, rfl⟩ ⟨Nat.le_of_ble_eq_true rfl, Nat.le_of_ble_eq_true rfl⟩ rfl hl.1 rfl (Nat.le_of_ble_eq_true rfl) dX6_readPlainOne_65 ⟨Nat.le_refl 0, Nat.le_refl 0⟩) X535 (fun t558 H lc q556 X557 => ?_)
            unfold po_X7_step_q at q556
            obtain ⟨q559, q560, q561⟩ := q556
            have F562 : Fr [(16, 1), (16, 2), (17, 4), (1, 3), (1, 4), (1, 5), (1, 7), (1, 8)] [18, 19, 20, 201] τ t558 := Fr_call F543 q560 (by decide)
            have hR563 : RG bb nb 200 an mn t558 (nx bb nb 200 (nx bb nb 200 t)) := ⟨q561, NM2_fr hP555.2.2 ((q560 23 2 (by decide)).trans rfl) ((q560 23 3 (by decide)).trans rfl) (fun j => ((q560 228 j (by simp [fz])).trans rfl)) (fun j => ((q560 229 j (by simp [fz])).trans rfl))⟩
            refine r_goto (tgt := 161) S dX6_readPlainOne_68 (by decide) ?_
            refine r_aload_n S dX6_readPlainOne_161 rfl (lv_at hl 2 rfl) ?_
            refine r_get (K := 16) (v := .ref (G.2.2.2.1 17)) S X557 (Nat.le_of_ble_eq_true rfl) rfl lk6_14_6 (fun _ => ⟨_, rfl, rfl⟩) dX6_readPlainOne_162 ?_
            refine r_aload_n S dX6_readPlainOne_165 rfl (lv_at hl 3 rfl) ?_
            refine r_iload_n S dX6_readPlainOne_166 rfl (lv_at hl 1 rfl) ?_
            refine r_aload_n S dX6_readPlainOne_167 rfl (lv_at hl 2 rfl) ?_
            refine r_geti (K := 16) S X557 (Nat.le_of_ble_eq_true rfl) rfl lk6_127_6 (fun _ => ⟨_, rfl, rfl⟩) ((q560 16 2 (by decide)).trans z549) dX6_readPlainOne_168 ?_
            refine r_kv (q_V (As := [.ref (G.2.2.1 a0), .int v5, .int v548]) (rest := []) (K := 17) (ci := 5) S X557 (c_X5_add l G t558 q559 a0 h_a0 v5 v548 (R_of (lo := -2147483648) (hi := 2147483647) r7 rfl) (R_of (lo := 0) (hi := 99) p546 rfl) (YT_eq hYT (fun j => ((q560 18 j (by simp [fz])).trans ((q539 18 j (by simp [fz])).trans ((M12.2 18 j (Or.inl (by decide))).trans rfl)))) (fun j => ((q560 19 j (by simp [fz])).trans ((q539 19 j (by simp [fz])).trans ((M12.2 19 j (Or.inl (by decide))).trans rfl))))) (by omega)) ck6_67 (Nat.le_of_ble_eq_true rfl) rfl (fun _ => ⟨_, rfl⟩) ⟨_, _, rfl⟩ ⟨Nat.le_of_ble_eq_true rfl, Nat.le_of_ble_eq_true rfl⟩ rfl hl.1 rfl (Nat.le_of_ble_eq_true rfl) dX6_readPlainOne_171 ⟨Nat.le_refl 0, Nat.le_refl 0⟩) X557 (fun t566 H lc q564 X565 => ?_)
            unfold po_X5_add at q564
            obtain ⟨q567, q568, q569⟩ := q564
            have F570 : Fr [(16, 1), (16, 2), (17, 4), (1, 3), (1, 4), (1, 5), (1, 7), (1, 8)] [18, 19, 20, 201] τ t566 := Fr_call F562 q568 (by decide)
            refine r_iconst S dX6_readPlainOne_174 (by decide) (fun v571 z572 => ?_)
            have r573 := R_eq z572
            exact r_ret S hr hlk X565 ⟨q567, F570, q569, (R_of r573 rfl), (fun h => (by rw [((q568 16 1 (by decide)).trans ((q560 16 1 (by decide)).trans z551))]; exact R_of p547 rfl)), (QY_r ((sLeaf_m (w19 hW (by omega))).trans (thn_r e554)) (by omega) (RG_fr hR563 (fun j => ((q568 1 j (by simp [fz])).trans rfl)) (fun j => ((q568 2 j (by simp [fz])).trans rfl)) (fun j => ((q568 201 j (by simp [fz])).trans rfl)) ((q568 23 2 (by decide)).trans rfl) ((q568 23 3 (by decide)).trans rfl) (fun j => ((q568 228 j (by simp [fz])).trans rfl)) (fun j => ((q568 229 j (by simp [fz])).trans rfl))))⟩ (nr_bool (R_of (lo := 0) (hi := 1) r573 rfl)) dX6_readPlainOne_175
          ·
            have r574 : R (0) (0) v537 := ⟨by omega, by omega⟩
            have p575 := (QY_0 q542) (by omega)
            obtain ⟨q576, e577, h578, h579⟩ := p575
            refine r_iconst S dX6_readPlainOne_59 (by decide) (fun v580 z581 => ?_)
            have r582 := R_eq z581
            exact r_ret S hr hlk X535 ⟨q538, F543, (YT_eq hYT (fun j => ((q539 18 j (by simp [fz])).trans ((M12.2 18 j (Or.inl (by decide))).trans rfl))) (fun j => ((q539 19 j (by simp [fz])).trans ((M12.2 19 j (Or.inl (by decide))).trans rfl)))), (R_of r582 rfl), (fun h => by exfalso; omega), (QY_l ((sLeaf_m (w19 hW (by omega))).trans (thn_l e577)) (by omega) h578 h579)⟩ (nr_bool (R_of (lo := 0) (hi := 1) r582 rfl)) dX6_readPlainOne_60
