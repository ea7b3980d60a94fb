/-! the calls whose posts tell more: what is alike behind both -/
def EE (τ : Tau) : Prop := ((τ 1 1).toInt = (τ 131 2).toInt ∧ (τ 0 11).toInt = (τ 152 0).toInt + 2 * (τ 152 1).toInt) ∧ ZZ τ
theorem ZZ_kp {m m' : Nat → Bool} {τ t u : Tau} (h : ZZ τ) (k1 : ZK m τ t) (k2 : ZK m' t u) (hm : ∀ i, i < 11 → m i = true ∧ m' i = true) (hl : (u 1 1).toInt ≤ (τ 1 1).toInt) : ZZ u := by
  have k := ZK_two (n := mAll) k1 k2 (fun i hi _ => hm i hi)
  exact ⟨BR_kp h.1 k rfl rfl hl, RS_fr h.2.1 (k.2.2.1 rfl), NW_kp h.2.2.1 k rfl rfl, NI_kp h.2.2.2.1 k rfl rfl rfl rfl, FE_kp h.2.2.2.2 k rfl rfl⟩
theorem ee_feed {τ t u : Tau} {a0 a1 a2 a3 a4 r r' : Int32} (hJ : JJ τ) (h : EE τ) (q1 : po_X11_feed_q τ a0 a1 a2 a3 a4 r t) (q2 : po_X12_feed_q t a0 a1 a2 a3 a4 r' u) : EE u := by
  obtain ⟨⟨hA1, hA2⟩, hZZ⟩ := h
  have rl : R 0 940 (τ 1 1) := rd (K := 1) hJ.1 rfl rfl
  have z1 := zk_X11_feed_q q1
  have z2 := zk_X12_feed_q q2
  obtain ⟨b1, b2, b3⟩ := k_X11_feed_q q1
  obtain ⟨c1, c2, c3⟩ := k_X12_feed_q q2
  obtain ⟨j1, e1, -⟩ := j_X11_feed_q hJ q1
  obtain ⟨j2, e2, -⟩ := j_X12_feed_q j1 q2
  have e1 := congrArg Int32.toInt e1
  have e2 := congrArg Int32.toInt e2
  have k := ZK_two (n := mBut [0, 1]) z1 z2 (by decide)
  have zz : BR u → ZZ u := fun hb => ⟨hb, RS_fr hZZ.2.1 (k.2.2.1 rfl), NW_kp hZZ.2.2.1 k rfl rfl, NI_kp hZZ.2.2.2.1 k rfl rfl rfl rfl, FE_kp hZZ.2.2.2.2 k rfl rfl⟩
  unfold po_X11_feed_q at q1
  unfold po_X12_feed_q at q2
  obtain ⟨-, -, x1, x2, x3, x4⟩ := q1
  obtain ⟨-, -, y1, y2, y3, y4⟩ := q2
  by_cases g : (τ 1 1).toInt + 20 ≤ 940
  · obtain ⟨x1, -⟩ := x1 g
    obtain ⟨y1, -⟩ := y1 (by omega)
    clear x2 y2
    exact ⟨⟨by omega, by omega⟩, zz (BR_feed hZZ.1 (z2.1 rfl) (z1.2.1 rfl) j2.1 hA1 e1 e2 rl.1 (fun h => ⟨x3 h, x1⟩) y3 (fun h => absurd h (by omega)) y4)⟩
  · obtain ⟨x2, -⟩ := x2 (by omega)
    obtain ⟨y2, -⟩ := y2 (by omega)
    clear x1 y1
    exact ⟨⟨by omega, by omega⟩, zz (BR_feed hZZ.1 (z2.1 rfl) (z1.2.1 rfl) j2.1 hA1 e1 e2 rl.1 (fun h => absurd h g) y3 (fun h => ⟨x4 h, x2⟩) y4)⟩
theorem ee_ferry {τ t u : Tau} {r r' : Int32} (hJ : JJ τ) (h : EE τ) (q1 : po_X11_ferry_q τ (bbT τ) (τ 1 1).toInt.toNat r t) (q2 : po_X12_ferry_q t (bbT τ) (τ 1 1).toInt.toNat r' u) : EE u ∧ r.toInt = r'.toInt := by
  obtain ⟨⟨hA1, hA2⟩, hZZ⟩ := h
  have rl : R 0 940 (τ 1 1) := rd (K := 1) hJ.1 rfl rfl
  have r2 : R 0 9 (τ 23 2) := rd (K := 4) hJ.1 rfl rfl
  have r3 : R 0 10 (τ 23 3) := rd (K := 4) hJ.1 rfl rfl
  have z1 := zk_X11_ferry_q q1
  have z2 := zk_X12_ferry_q q2
  obtain ⟨b1, b2, b3⟩ := k_X11_ferry_q q1
  obtain ⟨c1, c2, c3⟩ := k_X12_ferry_q q2
  obtain ⟨j1, e1, n1⟩ := j_X11_ferry_q hJ q1
  obtain ⟨j2, e2, n2⟩ := j_X12_ferry_q j1 q2
  have e1 := congrArg Int32.toInt e1
  have e2 := congrArg Int32.toInt e2
  have n3 := n2.1
  have n4 := n2.2
  unfold po_X11_ferry_q at q1
  unfold po_X12_ferry_q at q2
  have f1 := q1.2.2.2.2.2
  have f2 := q2.2.2.2.2
  clear q1 q2
  have k := ZK_two (n := mBut [3, 4, 9, 10]) z1 z2 (by decide)
  have p4 := z1.2.2.2.2.1 rfl
  obtain ⟨y1, y2, y3⟩ := NT_ferry hZZ.2.2.1 ⟨p4.1, p4.2.1⟩ p4.2.2 (z2.2.2.2.1 rfl) r2 r3 f1 f2
  exact ⟨⟨⟨by omega, by omega⟩, BR_kp hZZ.1 k rfl rfl (by omega), RS_fr hZZ.2.1 (k.2.2.1 rfl), y1, NI_kp hZZ.2.2.2.1 k rfl rfl rfl rfl, by unfold FE; rw [show u 0 12 = t 0 12 from z2.2.2.2.2.2.2.2.2.2.1 rfl]; exact y3⟩, y2⟩
theorem ee_sentence {τ t u : Tau} {an mn : List (List Int)} {r r' : Int32} (hJ : JJ τ) (h : EE τ) (q1 : po_X11_sentence_q τ (bbT τ) (τ 1 1).toInt.toNat an mn r t) (q2 : po_X12_sentence_s t (bbT τ) (τ 1 1).toInt.toNat an mn r' u) : EE u ∧ r.toInt = r'.toInt := by
  obtain ⟨⟨hA1, hA2⟩, hZZ⟩ := h
  have rl : R 0 940 (τ 1 1) := rd (K := 1) hJ.1 rfl rfl
  have z1 := zk_X11_sentence_q q1
  have z2 := zk_X12_sentence_s q2
  obtain ⟨b1, b2, b3⟩ := k_X11_sentence_q q1
  obtain ⟨c1, c2, c3⟩ := k_X12_sentence_s q2
  obtain ⟨j1, e1, n1⟩ := j_X11_sentence_q hJ q1
  obtain ⟨j2, e2, n2⟩ := j_X12_sentence_s j1 q2
  have e1 := congrArg Int32.toInt e1
  have e2 := congrArg Int32.toInt e2
  have n3 := n2.1
  have n4 := n2.2
  unfold po_X11_sentence_q at q1
  unfold po_X12_sentence_s at q2
  have f1 := q1.2.2.2.2.2
  have f2 := q2.2.2.2.2.2
  clear q1 q2
  have k := ZK_two (n := mBut [9, 10]) z1 z2 (by decide)
  obtain ⟨y2, y3⟩ := QT_two f1 f2
  have e9 : u 0 12 = t 0 12 := z2.2.2.2.2.2.2.2.2.2.1 rfl
  exact ⟨⟨⟨by omega, by omega⟩, BR_kp hZZ.1 k rfl rfl (by omega), RS_fr hZZ.2.1 (k.2.2.1 rfl), NW_kp hZZ.2.2.1 k rfl rfl, NI_kp hZZ.2.2.2.1 k rfl rfl rfl rfl, by unfold FE; rw [e9]; exact y3⟩, y2⟩
theorem ee_image {τ t u : Tau} {a r r' : Int32} (hJ : JJ τ) (h : EE τ) (q1 : po_X11_image_n τ a r t) (q2 : po_X12_image_n t a r' u) : EE u := by
  obtain ⟨⟨hA1, hA2⟩, hZZ⟩ := h
  have rk0 : R 0 1 (τ 152 0) := rd (K := 59) hJ.1 rfl rfl
  have rk1 : R 0 1 (τ 152 1) := rd (K := 59) hJ.1 rfl rfl
  have z1 := zk_X11_image_n q1
  have z2 := zk_X12_image_n q2
  obtain ⟨b2, b3⟩ := k_X11_image_n q1
  have c1 := k_X12_image_n q2
  obtain ⟨j1, e1, n1⟩ := j_X11_image_n hJ q1
  obtain ⟨j2, e2, n2⟩ := j_X12_image_n j1 q2
  have e1 := congrArg Int32.toInt e1
  have e2 := congrArg Int32.toInt e2
  have n1 := congrArg Int32.toInt n1
  have n2 := congrArg Int32.toInt n2
  unfold po_X11_image_n at q1
  unfold po_X12_image_n at q2
  obtain ⟨-, -, -, -, -, -, -, -, x1, x2, x3, x4, x5, x6, x7⟩ := q1
  obtain ⟨-, -, -, -, y1, y2, y3, y4, y5, y6⟩ := q2
  have k := ZK_two (n := mBut [5, 6, 7, 8]) z1 z2 (by decide)
  have hl : (u 1 1).toInt = (u 131 2).toInt := by clear x1 x2 x3 x4 x5 x6 x7 y1 y2 y3 y4 y5 y6; omega
  have hl2 : (u 1 1).toInt ≤ (τ 1 1).toInt := by clear x1 x2 x3 x4 x5 x6 x7 y1 y2 y3 y4 y5 y6; omega
  have hn : NI u := NI_image hZZ.2.2.1 hZZ.2.2.2.1 (rd (K := 4) hJ.1 rfl rfl) (rd (K := 4) hJ.1 rfl rfl) (rd (K := 4) hJ.1 rfl rfl) (rd (K := 4) hJ.1 rfl rfl) (rd (K := 4) hJ.1 rfl rfl) (rd (K := 4) hJ.1 rfl rfl) (z1.2.2.2.2.1 rfl) (z1.2.2.2.2.2.2.2.1 rfl) (z1.2.2.2.2.2.2.2.2.1 rfl) (z2.2.2.2.2.2.1 rfl) (z2.2.2.2.2.2.2.1 rfl) x4 x5 x6 x7 y3 y4 y5 y6 y1 y2
  refine ⟨⟨hl, ?_⟩, BR_kp hZZ.1 k rfl rfl hl2, RS_fr hZZ.2.1 (k.2.2.1 rfl), NW_kp hZZ.2.2.1 k rfl rfl, hn, FE_kp hZZ.2.2.2.2 k rfl rfl⟩
  rcases (show a.toInt = 0 ∨ a.toInt = 1 ∨ (a.toInt < 0 ∨ 1 < a.toInt) by clear x1 x2 x3 x4 x5 x6 x7 y1 y2 y3 y4 y5 y6; omega) with z | z | z
  · have x1 := x1 z
    have y3 := y3.1 z
    have w6 := congrArg Int32.toInt y3.2
    have w7 := y3.1
    clear x2 x3 x4 x5 x6 x7 y1 y2 y4 y5 y6
    omega
  · have x2 := x2 z
    have y3 := y3.2 z
    have w6 := congrArg Int32.toInt y3.2
    have w7 := y3.1
    clear x1 x3 x4 x5 x6 x7 y1 y2 y4 y5 y6
    omega
  · have x3 := x3 z
    have y4 := y4 z
    have w6 := congrArg Int32.toInt y4.2
    have w7 := congrArg Int32.toInt y4.1
    clear x1 x2 x4 x5 x6 x7 y1 y2 y3 y5 y6
    omega
theorem ee_restore {τ t u : Tau} {a r r' : Int32} (hJ : JJ τ) (h : EE τ) (q1 : po_X11_restore_n τ a r t) (q2 : po_X12_restore_n t a r' u) : EE u := by
  obtain ⟨⟨hA1, hA2⟩, hZZ⟩ := h
  have rk0 : R 0 1 (τ 152 0) := rd (K := 59) hJ.1 rfl rfl
  have rk1 : R 0 1 (τ 152 1) := rd (K := 59) hJ.1 rfl rfl
  have z1 := zk_X11_restore_n q1
  have z2 := zk_X12_restore_n q2
  obtain ⟨b1, b2, b3⟩ := k_X11_restore_n q1
  obtain ⟨c1, c2, c3⟩ := k_X12_restore_n q2
  obtain ⟨j1, e1, n1⟩ := j_X11_restore_n hJ q1
  obtain ⟨j2, e2, n2⟩ := j_X12_restore_n j1 q2
  have e1 := congrArg Int32.toInt e1
  have e2 := congrArg Int32.toInt e2
  have n1 := congrArg Int32.toInt n1
  have n2 := congrArg Int32.toInt n2
  unfold po_X11_restore_n at q1
  unfold po_X12_restore_n at q2
  obtain ⟨-, -, -, -, -, x0, x1, x2, x3, x4, x5⟩ := q1
  obtain ⟨-, -, y0, -, y1, y2, y3, y4, y5⟩ := q2
  have k := ZK_two (n := mBut [3, 4]) z1 z2 (by decide)
  have hl : (u 1 1).toInt = (u 131 2).toInt := by clear x1 x2 x3 x4 x5 y1 y2 y3 y4 y5; omega
  have hl2 : (u 1 1).toInt ≤ (τ 1 1).toInt := by clear x1 x2 x3 x4 x5 y1 y2 y3 y4 y5; omega
  have hk : (u 0 11).toInt = (u 152 0).toInt + 2 * (u 152 1).toInt := by clear x1 x2 x3 x4 x5 y1 y2 y3 y4 y5; omega
  have h01 : r.toInt = 0 ∨ r.toInt = 1 := by clear x1 x2 x3 x4 x5 y1 y2 y3 y4 y5; omega
  have hr : r.toInt = r'.toInt := by
    rcases (show a.toInt = 0 ∨ a.toInt = 1 ∨ (a.toInt < 0 ∨ 1 < a.toInt) by clear x1 x2 x3 x4 x5 y1 y2 y3 y4 y5; omega) with z | z | z
    · have x1 := x1 z
      have y1 := y1 z
      clear x2 x3 x4 x5 y2 y3 y4 y5
      omega
    · have x2 := x2 z
      have y2 := y2 z
      clear x1 x3 x4 x5 y1 y3 y4 y5
      omega
    · have x3 := x3 z
      have y3 := y3 z
      clear x1 x2 x4 x5 y1 y2 y4 y5
      omega
  have hn := NT_restore hZZ.2.2.1 hZZ.2.2.2.1 (rd (K := 4) hJ.1 rfl rfl) (rd (K := 4) hJ.1 rfl rfl) (rd (K := 4) hJ.1 rfl rfl) (rd (K := 4) hJ.1 rfl rfl) (z1.2.2.2.2.1 rfl) (z1.2.2.2.2.2.2.2.1 rfl) (z1.2.2.2.2.2.2.2.2.1 rfl) (z2.2.2.2.1 rfl) x4 x5 y4 y5 y1 y2 y3 hr h01
  exact ⟨⟨hl, hk⟩, BR_kp hZZ.1 k rfl rfl hl2, RS_fr hZZ.2.1 (k.2.2.1 rfl), hn, NI_kp hZZ.2.2.2.1 k rfl rfl rfl rfl, FE_kp hZZ.2.2.2.2 k rfl rfl⟩
theorem ee_log {τ t u : Tau} {an mn : List (List Int)} {a r r' : Int32} (hJ : JJ τ) (h : EE τ) (q1 : po_X11_log_q τ a (bbT τ) (τ 1 1).toInt.toNat an mn r t) (q2 : po_X12_log_q t a (bbT τ) (τ 1 1).toInt.toNat an mn r' u) : EE u := by
  obtain ⟨⟨hA1, hA2⟩, hZZ⟩ := h
  have rl : R 0 940 (τ 1 1) := rd (K := 1) hJ.1 rfl rfl
  have z1 := zk_X11_log_q q1
  have z2 := zk_X12_log_q q2
  obtain ⟨b1, b2, b3⟩ := k_X11_log_q q1
  obtain ⟨c1, c2, c3⟩ := k_X12_log_q q2
  obtain ⟨j1, e1, n1, n1'⟩ := j_X11_log_q hJ q1
  obtain ⟨j2, e2, n2, n2'⟩ := j_X12_log_q j1 q2
  have e1 := congrArg Int32.toInt e1
  have e2 := congrArg Int32.toInt e2
  unfold po_X11_log_q at q1
  unfold po_X12_log_q at q2
  have f1 := q1.2.2.2.2.2.2.2
  have f2 := q2.2.2.2.2
  clear q1 q2
  have k := ZK_two (n := mBut [9, 10]) z1 z2 (by decide)
  have e9 : u 0 12 = t 0 12 := z2.2.2.2.2.2.2.2.2.2.1 rfl
  have e10 : t 131 15 = τ 131 15 := z1.2.2.2.2.2.2.2.2.2.2 rfl
  have hf := hZZ.2.2.2.2
  by_cases g : 0 ≤ a.toInt ∧ a.toInt ≤ 1
  · have n1 := n1 g
    have n2 := n2 g
    have y3 := QL_two (f1.1 g) (f2.1 g)
    clear n1' n2' f1 f2
    exact ⟨⟨by omega, by omega⟩, BR_kp hZZ.1 k rfl rfl (by omega), RS_fr hZZ.2.1 (k.2.2.1 rfl), NW_kp hZZ.2.2.1 k rfl rfl, NI_kp hZZ.2.2.2.1 k rfl rfl rfl rfl, by unfold FE; rw [e9]; exact y3⟩
  · have g' : a.toInt < 0 ∨ 1 < a.toInt := by omega
    have n1 := n1' g'
    have n2 := n2' g'
    have y1 := f1.2 g'
    have y2 := f2.2 g'
    clear n1' n2' f1 f2
    exact ⟨⟨by omega, by omega⟩, BR_kp hZZ.1 k rfl rfl (by omega), RS_fr hZZ.2.1 (k.2.2.1 rfl), NW_kp hZZ.2.2.1 k rfl rfl, NI_kp hZZ.2.2.2.1 k rfl rfl rfl rfl, by unfold FE; rw [e9, y1, y2, e10]; exact hf⟩
theorem ee_fault {τ t u : Tau} {r r' : Int32} (hJ : JJ τ) (h : EE τ) (q1 : po_X11_fault_q τ r t) (q2 : po_X12_fault_q t r' u) : EE u ∧ r.toInt = r'.toInt := by
  obtain ⟨⟨hA1, hA2⟩, hZZ⟩ := h
  have z1 := zk_X11_fault_q q1
  have z2 := zk_X12_fault_q q2
  obtain ⟨b1, b2, b3⟩ := k_X11_fault_q q1
  obtain ⟨c1, c2, c3⟩ := k_X12_fault_q q2
  obtain ⟨j1, e1, n1⟩ := j_X11_fault_q hJ q1
  obtain ⟨j2, e2, n2⟩ := j_X12_fault_q j1 q2
  have e1 := congrArg Int32.toInt e1
  have e2 := congrArg Int32.toInt e2
  have n1 := congrArg Int32.toInt n1
  have n2 := congrArg Int32.toInt n2
  unfold po_X11_fault_q at q1
  unfold po_X12_fault_q at q2
  have f1 := q1.2
  have f2 := q2.2.2
  have e10 : t 131 15 = τ 131 15 := z1.2.2.2.2.2.2.2.2.2.2 rfl
  clear q1 q2
  exact ⟨⟨⟨by omega, by omega⟩, ZZ_kp hZZ z1 z2 (by decide) (by omega)⟩, by rw [f1, f2, e10]; exact hZZ.2.2.2.2⟩
