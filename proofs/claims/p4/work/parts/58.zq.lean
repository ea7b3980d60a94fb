/-! the five calls whose posts tell more: what is alike behind both -/
def EE (τ : Tau) : Prop := ((τ 1 1).toInt = (τ 131 2).toInt ∧ (τ 0 11).toInt = (τ 152 0).toInt + 2 * (τ 152 1).toInt) ∧ ZZ τ
theorem ee_feed {τ t u : Tau} {a0 a1 a2 a3 a4 r r' : Int32} (hJ : JJ τ) (h : EE τ) (q1 : po_X11_feed_q τ a0 a1 a2 a3 a4 r t) (q2 : po_X12_feed_q t a0 a1 a2 a3 a4 r' u) : EE u := by
  obtain ⟨⟨hA1, hA2⟩, hZZ⟩ := h
  have rl : R 0 940 (τ 1 1) := rd (K := 1) hJ.1 rfl rfl
  have z1 := zk_X11_feed_q q1
  have z2 := zk_X12_feed_q q2
  obtain ⟨b1, b2, b3⟩ := k_X11_feed_q q1
  obtain ⟨c1, c2, c3⟩ := k_X12_feed_q q2
  obtain ⟨j1, e1, -⟩ := j_X11_feed_q hJ q1
  obtain ⟨j2, e2, -⟩ := j_X12_feed_q j1 q2
  have e1 := congrArg Int32.toInt e1
  have e2 := congrArg Int32.toInt e2
  unfold po_X11_feed_q at q1
  unfold po_X12_feed_q at q2
  obtain ⟨-, -, x1, x2, x3, x4⟩ := q1
  obtain ⟨-, -, y1, y2, y3, y4⟩ := q2
  by_cases g : (τ 1 1).toInt + 20 ≤ 940
  · obtain ⟨x1, -⟩ := x1 g
    obtain ⟨y1, -⟩ := y1 (by omega)
    clear x2 y2
    exact ⟨⟨by omega, by omega⟩, ZZ_feed hZZ z1 z2 j2.1 hA1 e1 e2 rl.1 (fun h => ⟨x3 h, x1⟩) y3 (fun h => absurd h (by omega)) y4⟩
  · obtain ⟨x2, -⟩ := x2 (by omega)
    obtain ⟨y2, -⟩ := y2 (by omega)
    clear x1 y1
    exact ⟨⟨by omega, by omega⟩, ZZ_feed hZZ z1 z2 j2.1 hA1 e1 e2 rl.1 (fun h => absurd h g) y3 (fun h => ⟨x4 h, x2⟩) y4⟩
theorem ee_ferry {τ t u : Tau} {bb : Nat → Int} {nb : Nat} {r r' : Int32} (hJ : JJ τ) (h : EE τ) (q1 : po_X11_ferry_q τ bb nb r t) (q2 : po_X12_ferry_q t bb nb r' u) : EE u ∧ r.toInt = r'.toInt := by
  obtain ⟨⟨hA1, hA2⟩, hZZ⟩ := h
  have rl : R 0 940 (τ 1 1) := rd (K := 1) hJ.1 rfl rfl
  have z1 := zk_X11_ferry_q q1
  have z2 := zk_X12_ferry_q q2
  obtain ⟨b1, b2, b3⟩ := k_X11_ferry_q q1
  obtain ⟨c1, c2, c3⟩ := k_X12_ferry_q q2
  obtain ⟨j1, e1, n1⟩ := j_X11_ferry_q hJ q1
  obtain ⟨j2, e2, n2⟩ := j_X12_ferry_q j1 q2
  have e1 := congrArg Int32.toInt e1
  have e2 := congrArg Int32.toInt e2
  have n3 := n2.1
  have n4 := n2.2
  unfold po_X11_ferry_q at q1
  unfold po_X12_ferry_q at q2
  have f1 := q1.2.2.2.2.2
  have f2 := q2.2.2.2.2
  clear q1 q2
  exact ⟨⟨⟨by omega, by omega⟩, ZZ_ferry hZZ z1 z2 f1 f2 (by omega)⟩, QF_two f1 f2⟩
theorem ee_image {τ t u : Tau} {a r r' : Int32} (hJ : JJ τ) (h : EE τ) (q1 : po_X11_image τ a r t) (q2 : po_X12_image_x t a r' u) : EE u := by
  obtain ⟨⟨hA1, hA2⟩, hZZ⟩ := h
  have rk0 : R 0 1 (τ 152 0) := rd (K := 59) hJ.1 rfl rfl
  have rk1 : R 0 1 (τ 152 1) := rd (K := 59) hJ.1 rfl rfl
  have z1 := zk_X11_image q1
  have z2 := zk_X12_image_x q2
  obtain ⟨b2, b3⟩ := k_X11_image q1
  have c1 := k_X12_image_x q2
  obtain ⟨j1, e1, n1⟩ := j_X11_image hJ q1
  obtain ⟨j2, e2, n2⟩ := j_X12_image_x j1 q2
  have e1 := congrArg Int32.toInt e1
  have e2 := congrArg Int32.toInt e2
  have n1 := congrArg Int32.toInt n1
  have n2 := congrArg Int32.toInt n2
  unfold po_X11_image at q1
  unfold po_X12_image_x at q2
  obtain ⟨-, -, -, -, -, -, -, -, x1, x2, x3, x4, x5⟩ := q1
  obtain ⟨-, -, -, -, y1, y2, y3, y4, y5⟩ := q2
  have hz : ZZ u := ZZ_image hZZ z1 z2 x4 x5 y3 y4 y5 y1 y2 (by omega)
  refine ⟨⟨by clear x1 x2 x3 x4 x5 y1 y2 y3 y4 y5; omega, ?_⟩, hz⟩
  rcases (show a.toInt = 0 ∨ a.toInt = 1 ∨ (a.toInt < 0 ∨ 1 < a.toInt) by clear x1 x2 x3 x4 x5 y1 y2 y3 y4 y5; omega) with z | z | z
  · have x1 := x1 z
    have y3 := y3.1 z
    have y6 := congrArg Int32.toInt y3.2
    have y7 := y3.1
    clear x2 x3 x4 x5 y1 y2 y4 y5
    omega
  · have x2 := x2 z
    have y3 := y3.2 z
    have y6 := congrArg Int32.toInt y3.2
    have y7 := y3.1
    clear x1 x3 x4 x5 y1 y2 y4 y5
    omega
  · have x3 := x3 z
    have y4 := y4 z
    have y6 := congrArg Int32.toInt y4.2
    have y7 := congrArg Int32.toInt y4.1
    clear x1 x2 x4 x5 y1 y2 y3 y5
    omega
theorem ee_restore {τ t u : Tau} {a r r' : Int32} (hJ : JJ τ) (h : EE τ) (q1 : po_X11_restore τ a r t) (q2 : po_X12_restore_x t a r' u) : EE u := by
  obtain ⟨⟨hA1, hA2⟩, hZZ⟩ := h
  have rk0 : R 0 1 (τ 152 0) := rd (K := 59) hJ.1 rfl rfl
  have rk1 : R 0 1 (τ 152 1) := rd (K := 59) hJ.1 rfl rfl
  have z1 := zk_X11_restore q1
  have z2 := zk_X12_restore_x q2
  obtain ⟨b1, b2, b3⟩ := k_X11_restore q1
  obtain ⟨c1, c2, c3⟩ := k_X12_restore_x q2
  obtain ⟨j1, e1, n1⟩ := j_X11_restore hJ q1
  obtain ⟨j2, e2, n2⟩ := j_X12_restore_x j1 q2
  have e1 := congrArg Int32.toInt e1
  have e2 := congrArg Int32.toInt e2
  have n1 := congrArg Int32.toInt n1
  have n2 := congrArg Int32.toInt n2
  unfold po_X11_restore at q1
  unfold po_X12_restore_x at q2
  obtain ⟨-, -, -, -, -, x0, x1, x2, x3, x4⟩ := q1
  obtain ⟨-, -, y0, -, y1, y2, y3, y4⟩ := q2
  have hl : (u 1 1).toInt = (u 131 2).toInt := by clear x1 x2 x3 x4 y1 y2 y3 y4; omega
  have hl2 : (u 1 1).toInt ≤ (τ 1 1).toInt := by clear x1 x2 x3 x4 y1 y2 y3 y4; omega
  have hk : (u 0 11).toInt = (u 152 0).toInt + 2 * (u 152 1).toInt := by clear x1 x2 x3 x4 y1 y2 y3 y4; omega
  have h01 : r.toInt = 0 ∨ r.toInt = 1 := by clear x1 x2 x3 x4 y1 y2 y3 y4; omega
  have hr : r.toInt = r'.toInt := by
    rcases (show a.toInt = 0 ∨ a.toInt = 1 ∨ (a.toInt < 0 ∨ 1 < a.toInt) by clear x1 x2 x3 x4 y1 y2 y3 y4; omega) with z | z | z
    · have x1 := x1 z
      have y1 := y1 z
      clear x2 x3 x4 y2 y3 y4
      omega
    · have x2 := x2 z
      have y2 := y2 z
      clear x1 x3 x4 y1 y3 y4
      omega
    · have x3 := x3 z
      have y3 := y3 z
      clear x1 x2 x4 y1 y2 y4
      omega
  exact ⟨⟨hl, hk⟩, ZZ_restore hZZ z1 z2 x4 y4 y1 y2 y3 hr h01 hl2⟩
theorem ee_count {τ t u : Tau} {a r r' : Int32} (hJ : JJ τ) (h : EE τ) (q1 : po_X11_count_q τ a r t) (q2 : po_X12_count_q t a r' u) : EE u ∧ r.toInt = r'.toInt := by
  obtain ⟨⟨hA1, hA2⟩, hZZ⟩ := h
  have z1 := zk_X11_count_q q1
  have z2 := zk_X12_count_q q2
  obtain ⟨b1, b2, b3⟩ := k_X11_count_q q1
  obtain ⟨c1, c2, c3⟩ := k_X12_count_q q2
  obtain ⟨j1, e1, n1⟩ := j_X11_count_q hJ q1
  obtain ⟨j2, e2, n2⟩ := j_X12_count_q j1 q2
  have e1 := congrArg Int32.toInt e1
  have e2 := congrArg Int32.toInt e2
  have n1 := congrArg Int32.toInt n1
  have n2 := congrArg Int32.toInt n2
  unfold po_X11_count_q at q1
  unfold po_X12_count_q at q2
  obtain ⟨x0, x1, x2, x3, x4, x5, x6, x7⟩ := q1
  obtain ⟨-, -, y1, y2, y3⟩ := q2
  have hr := ct_eq (a := a) (a' := a) hZZ.2.2.1 hA1 rfl x0 x1 x2 x3 x4 x5 x6 x7 y1 y2 y3
  clear x0 x1 x2 x3 x4 x5 x6 x7 y1 y2 y3
  exact ⟨⟨⟨by omega, by omega⟩, ZZ_kp hZZ z1 z2 (by omega)⟩, hr⟩
