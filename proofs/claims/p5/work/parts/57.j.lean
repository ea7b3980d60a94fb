/-! what holds between the law's calls -/
def JJ (τ : Tau) : Prop := Inv τ ∧ WI τ ∧ HI τ ∧ IM τ ∧ LR τ ∧ YW τ ∧ YT τ ∧ YA τ ∧ YB τ ∧ PF τ ∧ PK τ
theorem fr_c {fs : List (Nat × Nat)} {cs : List Nat} {τ u : Tau} {c : Nat} (f : Fr fs cs τ u) (hz : (fs.all (fun q => q.1 != c || decide (q.2 < 0)) && cs.all (fun k => k != c)) = true) : ∀ j, u c j = τ c j := fun j => f c j (fz_ge hz j (Nat.zero_le _))
def frz (fs : List (Nat × Nat)) (cs : List Nat) (c : Nat) : Bool := fs.all (fun q => q.1 != c || decide (q.2 < 0)) && cs.all (fun k => k != c)
theorem WI_fr {fs : List (Nat × Nat)} {cs : List Nat} {τ u : Tau} (h : WI τ) (f : Fr fs cs τ u) (z : (fz fs cs 23 2 || fz fs cs 30 8) = false) : WI u := by
  rw [Bool.or_eq_false_iff] at z
  exact WI_eq h (f _ _ z.1) (f _ _ z.2)
theorem HI_fr {fs : List (Nat × Nat)} {cs : List Nat} {τ u : Tau} (h : HI τ) (f : Fr fs cs τ u) (z : ([(23, 2), (0, 8), (0, 9), (52, 8), (57, 8), (62, 8), (67, 8), (72, 8), (77, 8), (82, 8), (87, 8)] : List (Nat × Nat)).all (fun q => !fz fs cs q.1 q.2) = true) : HI u := by
  have g : ∀ q ∈ ([(23, 2), (0, 8), (0, 9), (52, 8), (57, 8), (62, 8), (67, 8), (72, 8), (77, 8), (82, 8), (87, 8)] : List (Nat × Nat)), u q.1 q.2 = τ q.1 q.2 := fun q hq => f _ _ (by have := List.all_eq_true.mp z q hq; simpa using this)
  exact HI_eq h (g (23, 2) (by decide)) (g (0, 8) (by decide)) (g (0, 9) (by decide)) (g (52, 8) (by decide)) (g (57, 8) (by decide)) (g (62, 8) (by decide)) (g (67, 8) (by decide)) (g (72, 8) (by decide)) (g (77, 8) (by decide)) (g (82, 8) (by decide)) (g (87, 8) (by decide))
theorem IM_fr {fs : List (Nat × Nat)} {cs : List Nat} {τ u : Tau} (h : IM τ) (f : Fr fs cs τ u) (z : ([(94, 2), (101, 8), (112, 2), (119, 8)] : List (Nat × Nat)).all (fun q => !fz fs cs q.1 q.2) = true) : IM u := by
  have g : ∀ q ∈ ([(94, 2), (101, 8), (112, 2), (119, 8)] : List (Nat × Nat)), u q.1 q.2 = τ q.1 q.2 := fun q hq => f _ _ (by have := List.all_eq_true.mp z q hq; simpa using this)
  exact IM_eq h (g (94, 2) (by decide)) (g (101, 8) (by decide)) (g (112, 2) (by decide)) (g (119, 8) (by decide))
theorem LR_fr {fs : List (Nat × Nat)} {cs : List Nat} {τ u : Tau} (h : LR τ) (f : Fr fs cs τ u) (z : (frz fs cs 12 && frz fs cs 13 && frz fs cs 14) = true) : LR u := by
  rw [Bool.and_eq_true, Bool.and_eq_true] at z
  exact LR_eq h (fr_c f z.1.1) (fr_c f z.1.2) (fr_c f z.2)
theorem YW_fr {fs : List (Nat × Nat)} {cs : List Nat} {τ u : Tau} (h : YW τ) (f : Fr fs cs τ u) (z : (frz fs cs 36 && frz fs cs 37) = true) : YW u := by
  rw [Bool.and_eq_true] at z
  exact YW_eq h (fr_c f z.1) (fr_c f z.2)
theorem YT_fr {fs : List (Nat × Nat)} {cs : List Nat} {τ u : Tau} (h : YT τ) (f : Fr fs cs τ u) (z : (frz fs cs 18 && frz fs cs 19) = true) : YT u := by
  rw [Bool.and_eq_true] at z
  exact YT_eq h (fr_c f z.1) (fr_c f z.2)
theorem YA_fr {fs : List (Nat × Nat)} {cs : List Nat} {τ u : Tau} (h : YA τ) (f : Fr fs cs τ u) (z : (frz fs cs 107 && frz fs cs 108) = true) : YA u := by
  rw [Bool.and_eq_true] at z
  exact YA_eq h (fr_c f z.1) (fr_c f z.2)
theorem YB_fr {fs : List (Nat × Nat)} {cs : List Nat} {τ u : Tau} (h : YB τ) (f : Fr fs cs τ u) (z : (frz fs cs 125 && frz fs cs 126) = true) : YB u := by
  rw [Bool.and_eq_true] at z
  exact YB_eq h (fr_c f z.1) (fr_c f z.2)
theorem j_thr {τ u : Tau} (h : JJ τ) (hp : Inv u ∧ Fr [] [353] τ u) : JJ u ∧ u 131 2 = τ 131 2 ∧ u 1 1 = τ 1 1 := by
  obtain ⟨I, F⟩ := hp
  obtain ⟨h0, hWI, hHI, hIM, hLR, hYW, hYT, hYA, hYB, hPF, hPK⟩ := h
  exact ⟨⟨I, (WI_fr hWI F (by decide +kernel)), (HI_fr hHI F (by decide +kernel)), (IM_fr hIM F (by decide +kernel)), (LR_fr hLR F (by decide +kernel)), (YW_fr hYW F (by decide +kernel)), (YT_fr hYT F (by decide +kernel)), (YA_fr hYA F (by decide +kernel)), (YB_fr hYB F (by decide +kernel)), (PF_fr hPF F (by decide +kernel)), (PK_fr hPK F (by decide +kernel))⟩, F 131 2 (by decide +kernel), F 1 1 (by decide +kernel)⟩
theorem k_thr {τ u : Tau} (hp : Inv u ∧ Fr [] [353] τ u) : (u 0 11).toInt = (τ 0 11).toInt ∧ (u 152 0).toInt = (τ 152 0).toInt ∧ (u 152 1).toInt = (τ 152 1).toInt := by
  have F := hp.2
  exact ⟨congrArg Int32.toInt (F 0 11 (by decide +kernel)), congrArg Int32.toInt (F 152 0 (by decide +kernel)), congrArg Int32.toInt (F 152 1 (by decide +kernel))⟩
theorem zk_thr {τ u : Tau} (hp : Inv u ∧ Fr [] [353] τ u) : ZK mAll τ u := by
  have F := hp.2
  exact ⟨(fun _ => (fr_c F (by decide +kernel))), (fun _ => (fr_c F (by decide +kernel))), (fun _ => (fr_c F (by decide +kernel))), (fun _ => ⟨F 23 2 (by decide +kernel), F 23 3 (by decide +kernel), (fr_c F (by decide +kernel)), (fr_c F (by decide +kernel))⟩), (fun _ => ⟨F 133 0 (by decide +kernel), F 133 1 (by decide +kernel), (fr_c F (by decide +kernel))⟩), (fun _ => ⟨F 94 2 (by decide +kernel), F 94 3 (by decide +kernel), (fr_c F (by decide +kernel)), (fr_c F (by decide +kernel))⟩), (fun _ => ⟨F 112 2 (by decide +kernel), F 112 3 (by decide +kernel), (fr_c F (by decide +kernel)), (fr_c F (by decide +kernel))⟩), (fun _ => ⟨(fr_c F (by decide +kernel)), (fr_c F (by decide +kernel))⟩), (fun _ => ⟨F 152 0 (by decide +kernel), F 152 1 (by decide +kernel)⟩), (fun _ => F 0 12 (by decide +kernel)), (fun _ => F 131 15 (by decide +kernel))⟩
theorem j_X11_feed_q {τ u : Tau} {a0 a1 a2 a3 a4 : Int32} {r : Int32} (h : JJ τ) (hp : po_X11_feed_q τ a0 a1 a2 a3 a4  r u) : JJ u ∧ u 131 2 = τ 131 2 ∧ (((τ 1 1).toInt + 20 ≤ 940 → (u 1 1).toInt = (τ 1 1).toInt + 20 ∧ r.toInt = (τ 1 1).toInt + 20)) ∧ ((940 < (τ 1 1).toInt + 20 → (u 1 1).toInt = (τ 1 1).toInt ∧ r.toInt = -1)) := by
  unfold po_X11_feed_q at hp
  obtain ⟨I, F, p2, p3, p4, p5⟩ := hp
  obtain ⟨h0, hWI, hHI, hIM, hLR, hYW, hYT, hYA, hYB, hPF, hPK⟩ := h
  exact ⟨⟨I, (WI_fr hWI F (by decide +kernel)), (HI_fr hHI F (by decide +kernel)), (IM_fr hIM F (by decide +kernel)), (LR_fr hLR F (by decide +kernel)), (YW_fr hYW F (by decide +kernel)), (YT_fr hYT F (by decide +kernel)), (YA_fr hYA F (by decide +kernel)), (YB_fr hYB F (by decide +kernel)), (PF_fr hPF F (by decide +kernel)), (PK_fr hPK F (by decide +kernel))⟩, F 131 2 (by decide +kernel), p2, p3⟩
theorem k_X11_feed_q {τ u : Tau} {a0 a1 a2 a3 a4 : Int32} {r : Int32} (hp : po_X11_feed_q τ a0 a1 a2 a3 a4  r u) : (u 0 11).toInt = (τ 0 11).toInt ∧ (u 152 0).toInt = (τ 152 0).toInt ∧ (u 152 1).toInt = (τ 152 1).toInt := by
  unfold po_X11_feed_q at hp
  have F := hp.2.1
  exact ⟨congrArg Int32.toInt (F 0 11 (by decide +kernel)), congrArg Int32.toInt (F 152 0 (by decide +kernel)), congrArg Int32.toInt (F 152 1 (by decide +kernel))⟩
theorem zk_X11_feed_q {τ u : Tau} {a0 a1 a2 a3 a4 : Int32} {r : Int32} (hp : po_X11_feed_q τ a0 a1 a2 a3 a4  r u) : ZK (mBut [0]) τ u := by
  unfold po_X11_feed_q at hp
  have F := hp.2.1
  exact ⟨(fun h => absurd h (by decide)), (fun _ => (fr_c F (by decide +kernel))), (fun _ => (fr_c F (by decide +kernel))), (fun _ => ⟨F 23 2 (by decide +kernel), F 23 3 (by decide +kernel), (fr_c F (by decide +kernel)), (fr_c F (by decide +kernel))⟩), (fun _ => ⟨F 133 0 (by decide +kernel), F 133 1 (by decide +kernel), (fr_c F (by decide +kernel))⟩), (fun _ => ⟨F 94 2 (by decide +kernel), F 94 3 (by decide +kernel), (fr_c F (by decide +kernel)), (fr_c F (by decide +kernel))⟩), (fun _ => ⟨F 112 2 (by decide +kernel), F 112 3 (by decide +kernel), (fr_c F (by decide +kernel)), (fr_c F (by decide +kernel))⟩), (fun _ => ⟨(fr_c F (by decide +kernel)), (fr_c F (by decide +kernel))⟩), (fun _ => ⟨F 152 0 (by decide +kernel), F 152 1 (by decide +kernel)⟩), (fun _ => F 0 12 (by decide +kernel)), (fun _ => F 131 15 (by decide +kernel))⟩
theorem j_X12_feed_q {τ u : Tau} {a0 a1 a2 a3 a4 : Int32} {r : Int32} (h : JJ τ) (hp : po_X12_feed_q τ a0 a1 a2 a3 a4  r u) : JJ u ∧ u 1 1 = τ 1 1 ∧ (((τ 131 2).toInt + 20 ≤ 940 → (u 131 2).toInt = (τ 131 2).toInt + 20 ∧ r.toInt = (τ 131 2).toInt + 20)) ∧ ((940 < (τ 131 2).toInt + 20 → (u 131 2).toInt = (τ 131 2).toInt ∧ r.toInt = -1)) := by
  unfold po_X12_feed_q at hp
  obtain ⟨I, F, p2, p3, p4, p5⟩ := hp
  obtain ⟨h0, hWI, hHI, hIM, hLR, hYW, hYT, hYA, hYB, hPF, hPK⟩ := h
  exact ⟨⟨I, (WI_fr hWI F (by decide +kernel)), (HI_fr hHI F (by decide +kernel)), (IM_fr hIM F (by decide +kernel)), (LR_fr hLR F (by decide +kernel)), (YW_fr hYW F (by decide +kernel)), (YT_fr hYT F (by decide +kernel)), (YA_fr hYA F (by decide +kernel)), (YB_fr hYB F (by decide +kernel)), (PF_fr hPF F (by decide +kernel)), (PK_fr hPK F (by decide +kernel))⟩, F 1 1 (by decide +kernel), p2, p3⟩
theorem k_X12_feed_q {τ u : Tau} {a0 a1 a2 a3 a4 : Int32} {r : Int32} (hp : po_X12_feed_q τ a0 a1 a2 a3 a4  r u) : (u 0 11).toInt = (τ 0 11).toInt ∧ (u 152 0).toInt = (τ 152 0).toInt ∧ (u 152 1).toInt = (τ 152 1).toInt := by
  unfold po_X12_feed_q at hp
  have F := hp.2.1
  exact ⟨congrArg Int32.toInt (F 0 11 (by decide +kernel)), congrArg Int32.toInt (F 152 0 (by decide +kernel)), congrArg Int32.toInt (F 152 1 (by decide +kernel))⟩
theorem zk_X12_feed_q {τ u : Tau} {a0 a1 a2 a3 a4 : Int32} {r : Int32} (hp : po_X12_feed_q τ a0 a1 a2 a3 a4  r u) : ZK (mBut [1]) τ u := by
  unfold po_X12_feed_q at hp
  have F := hp.2.1
  exact ⟨(fun _ => (fr_c F (by decide +kernel))), (fun h => absurd h (by decide)), (fun _ => (fr_c F (by decide +kernel))), (fun _ => ⟨F 23 2 (by decide +kernel), F 23 3 (by decide +kernel), (fr_c F (by decide +kernel)), (fr_c F (by decide +kernel))⟩), (fun _ => ⟨F 133 0 (by decide +kernel), F 133 1 (by decide +kernel), (fr_c F (by decide +kernel))⟩), (fun _ => ⟨F 94 2 (by decide +kernel), F 94 3 (by decide +kernel), (fr_c F (by decide +kernel)), (fr_c F (by decide +kernel))⟩), (fun _ => ⟨F 112 2 (by decide +kernel), F 112 3 (by decide +kernel), (fr_c F (by decide +kernel)), (fr_c F (by decide +kernel))⟩), (fun _ => ⟨(fr_c F (by decide +kernel)), (fr_c F (by decide +kernel))⟩), (fun _ => ⟨F 152 0 (by decide +kernel), F 152 1 (by decide +kernel)⟩), (fun _ => F 0 12 (by decide +kernel)), (fun _ => F 131 15 (by decide +kernel))⟩
theorem j_X11_end {τ u : Tau} {a0 : Int32} {r : Int32} (h : JJ τ) (hp : po_X11_end τ a0  r u) : JJ u ∧ u 131 2 = τ 131 2 ∧ ((0 ≤ a0.toInt ∧ a0.toInt ≤ (τ 1 1).toInt → (u 1 1).toInt = a0.toInt ∧ r.toInt = 1)) ∧ ((a0.toInt < 0 ∨ (τ 1 1).toInt < a0.toInt → (u 1 1).toInt = (τ 1 1).toInt ∧ r.toInt = 0)) := by
  unfold po_X11_end at hp
  obtain ⟨I, F, p2, p3, p4⟩ := hp
  obtain ⟨h0, hWI, hHI, hIM, hLR, hYW, hYT, hYA, hYB, hPF, hPK⟩ := h
  exact ⟨⟨I, (WI_fr hWI F (by decide +kernel)), (HI_fr hHI F (by decide +kernel)), (IM_fr hIM F (by decide +kernel)), (LR_fr hLR F (by decide +kernel)), (YW_fr hYW F (by decide +kernel)), (YT_fr hYT F (by decide +kernel)), (YA_fr hYA F (by decide +kernel)), (YB_fr hYB F (by decide +kernel)), (PF_fr hPF F (by decide +kernel)), (PK_fr hPK F (by decide +kernel))⟩, F 131 2 (by decide +kernel), p3, p4⟩
theorem k_X11_end {τ u : Tau} {a0 : Int32} {r : Int32} (hp : po_X11_end τ a0  r u) : (u 0 11).toInt = (τ 0 11).toInt ∧ (u 152 0).toInt = (τ 152 0).toInt ∧ (u 152 1).toInt = (τ 152 1).toInt := by
  unfold po_X11_end at hp
  have F := hp.2.1
  exact ⟨congrArg Int32.toInt (F 0 11 (by decide +kernel)), congrArg Int32.toInt (F 152 0 (by decide +kernel)), congrArg Int32.toInt (F 152 1 (by decide +kernel))⟩
theorem zk_X11_end {τ u : Tau} {a0 : Int32} {r : Int32} (hp : po_X11_end τ a0  r u) : ZK mAll τ u := by
  unfold po_X11_end at hp
  have F := hp.2.1
  exact ⟨(fun _ => (fr_c F (by decide +kernel))), (fun _ => (fr_c F (by decide +kernel))), (fun _ => (fr_c F (by decide +kernel))), (fun _ => ⟨F 23 2 (by decide +kernel), F 23 3 (by decide +kernel), (fr_c F (by decide +kernel)), (fr_c F (by decide +kernel))⟩), (fun _ => ⟨F 133 0 (by decide +kernel), F 133 1 (by decide +kernel), (fr_c F (by decide +kernel))⟩), (fun _ => ⟨F 94 2 (by decide +kernel), F 94 3 (by decide +kernel), (fr_c F (by decide +kernel)), (fr_c F (by decide +kernel))⟩), (fun _ => ⟨F 112 2 (by decide +kernel), F 112 3 (by decide +kernel), (fr_c F (by decide +kernel)), (fr_c F (by decide +kernel))⟩), (fun _ => ⟨(fr_c F (by decide +kernel)), (fr_c F (by decide +kernel))⟩), (fun _ => ⟨F 152 0 (by decide +kernel), F 152 1 (by decide +kernel)⟩), (fun _ => F 0 12 (by decide +kernel)), (fun _ => F 131 15 (by decide +kernel))⟩
theorem j_X12_end {τ u : Tau} {a0 : Int32} {r : Int32} (h : JJ τ) (hp : po_X12_end τ a0  r u) : JJ u ∧ u 1 1 = τ 1 1 ∧ ((0 ≤ a0.toInt ∧ a0.toInt ≤ (τ 131 2).toInt → (u 131 2).toInt = a0.toInt ∧ r.toInt = 1)) ∧ ((a0.toInt < 0 ∨ (τ 131 2).toInt < a0.toInt → (u 131 2).toInt = (τ 131 2).toInt ∧ r.toInt = 0)) := by
  unfold po_X12_end at hp
  obtain ⟨I, F, p2, p3, p4⟩ := hp
  obtain ⟨h0, hWI, hHI, hIM, hLR, hYW, hYT, hYA, hYB, hPF, hPK⟩ := h
  exact ⟨⟨I, (WI_fr hWI F (by decide +kernel)), (HI_fr hHI F (by decide +kernel)), (IM_fr hIM F (by decide +kernel)), (LR_fr hLR F (by decide +kernel)), (YW_fr hYW F (by decide +kernel)), (YT_fr hYT F (by decide +kernel)), (YA_fr hYA F (by decide +kernel)), (YB_fr hYB F (by decide +kernel)), (PF_fr hPF F (by decide +kernel)), (PK_fr hPK F (by decide +kernel))⟩, F 1 1 (by decide +kernel), p3, p4⟩
theorem k_X12_end {τ u : Tau} {a0 : Int32} {r : Int32} (hp : po_X12_end τ a0  r u) : (u 0 11).toInt = (τ 0 11).toInt ∧ (u 152 0).toInt = (τ 152 0).toInt ∧ (u 152 1).toInt = (τ 152 1).toInt := by
  unfold po_X12_end at hp
  have F := hp.2.1
  exact ⟨congrArg Int32.toInt (F 0 11 (by decide +kernel)), congrArg Int32.toInt (F 152 0 (by decide +kernel)), congrArg Int32.toInt (F 152 1 (by decide +kernel))⟩
theorem zk_X12_end {τ u : Tau} {a0 : Int32} {r : Int32} (hp : po_X12_end τ a0  r u) : ZK mAll τ u := by
  unfold po_X12_end at hp
  have F := hp.2.1
  exact ⟨(fun _ => (fr_c F (by decide +kernel))), (fun _ => (fr_c F (by decide +kernel))), (fun _ => (fr_c F (by decide +kernel))), (fun _ => ⟨F 23 2 (by decide +kernel), F 23 3 (by decide +kernel), (fr_c F (by decide +kernel)), (fr_c F (by decide +kernel))⟩), (fun _ => ⟨F 133 0 (by decide +kernel), F 133 1 (by decide +kernel), (fr_c F (by decide +kernel))⟩), (fun _ => ⟨F 94 2 (by decide +kernel), F 94 3 (by decide +kernel), (fr_c F (by decide +kernel)), (fr_c F (by decide +kernel))⟩), (fun _ => ⟨F 112 2 (by decide +kernel), F 112 3 (by decide +kernel), (fr_c F (by decide +kernel)), (fr_c F (by decide +kernel))⟩), (fun _ => ⟨(fr_c F (by decide +kernel)), (fr_c F (by decide +kernel))⟩), (fun _ => ⟨F 152 0 (by decide +kernel), F 152 1 (by decide +kernel)⟩), (fun _ => F 0 12 (by decide +kernel)), (fun _ => F 131 15 (by decide +kernel))⟩
theorem j_X11_ferry_q {τ u : Tau} {bb : Nat → Int} {nb : Nat} {r : Int32} (h : JJ τ) (hp : po_X11_ferry_q τ  bb nb r u) : JJ u ∧ u 131 2 = τ 131 2 ∧ ((u 1 1).toInt = 0) := by
  unfold po_X11_ferry_q at hp
  obtain ⟨I, F, p2, p3, p4, p5⟩ := hp
  obtain ⟨h0, hWI, hHI, hIM, hLR, hYW, hYT, hYA, hYB, hPF, hPK⟩ := h
  exact ⟨⟨I, p2, p3, (IM_fr hIM F (by decide +kernel)), (LR_fr hLR F (by decide +kernel)), (YW_fr hYW F (by decide +kernel)), (YT_fr hYT F (by decide +kernel)), (YA_fr hYA F (by decide +kernel)), (YB_fr hYB F (by decide +kernel)), (PF_fr hPF F (by decide +kernel)), (PK_fr hPK F (by decide +kernel))⟩, F 131 2 (by decide +kernel), p4⟩
theorem k_X11_ferry_q {τ u : Tau} {bb : Nat → Int} {nb : Nat} {r : Int32} (hp : po_X11_ferry_q τ  bb nb r u) : (u 0 11).toInt = (τ 0 11).toInt ∧ (u 152 0).toInt = (τ 152 0).toInt ∧ (u 152 1).toInt = (τ 152 1).toInt := by
  unfold po_X11_ferry_q at hp
  have F := hp.2.1
  exact ⟨congrArg Int32.toInt (F 0 11 (by decide +kernel)), congrArg Int32.toInt (F 152 0 (by decide +kernel)), congrArg Int32.toInt (F 152 1 (by decide +kernel))⟩
theorem zk_X11_ferry_q {τ u : Tau} {bb : Nat → Int} {nb : Nat} {r : Int32} (hp : po_X11_ferry_q τ  bb nb r u) : ZK (mBut [3, 9]) τ u := by
  unfold po_X11_ferry_q at hp
  have F := hp.2.1
  exact ⟨(fun _ => (fr_c F (by decide +kernel))), (fun _ => (fr_c F (by decide +kernel))), (fun _ => (fr_c F (by decide +kernel))), (fun h => absurd h (by decide)), (fun _ => ⟨F 133 0 (by decide +kernel), F 133 1 (by decide +kernel), (fr_c F (by decide +kernel))⟩), (fun _ => ⟨F 94 2 (by decide +kernel), F 94 3 (by decide +kernel), (fr_c F (by decide +kernel)), (fr_c F (by decide +kernel))⟩), (fun _ => ⟨F 112 2 (by decide +kernel), F 112 3 (by decide +kernel), (fr_c F (by decide +kernel)), (fr_c F (by decide +kernel))⟩), (fun _ => ⟨(fr_c F (by decide +kernel)), (fr_c F (by decide +kernel))⟩), (fun _ => ⟨F 152 0 (by decide +kernel), F 152 1 (by decide +kernel)⟩), (fun h => absurd h (by decide)), (fun _ => F 131 15 (by decide +kernel))⟩
theorem j_X12_ferry_q {τ u : Tau} {bb : Nat → Int} {nb : Nat} {r : Int32} (h : JJ τ) (hp : po_X12_ferry_q τ  bb nb r u) : JJ u ∧ u 1 1 = τ 1 1 ∧ (R (0) (0) (u 131 2)) := by
  unfold po_X12_ferry_q at hp
  obtain ⟨I, F, p2, p3, p4⟩ := hp
  obtain ⟨h0, hWI, hHI, hIM, hLR, hYW, hYT, hYA, hYB, hPF, hPK⟩ := h
  exact ⟨⟨I, (WI_fr hWI F (by decide +kernel)), (HI_fr hHI F (by decide +kernel)), (IM_fr hIM F (by decide +kernel)), (LR_fr hLR F (by decide +kernel)), (YW_fr hYW F (by decide +kernel)), (YT_fr hYT F (by decide +kernel)), (YA_fr hYA F (by decide +kernel)), (YB_fr hYB F (by decide +kernel)), p3, (PK_fr hPK F (by decide +kernel))⟩, F 1 1 (by decide +kernel), p2⟩
theorem k_X12_ferry_q {τ u : Tau} {bb : Nat → Int} {nb : Nat} {r : Int32} (hp : po_X12_ferry_q τ  bb nb r u) : (u 0 11).toInt = (τ 0 11).toInt ∧ (u 152 0).toInt = (τ 152 0).toInt ∧ (u 152 1).toInt = (τ 152 1).toInt := by
  unfold po_X12_ferry_q at hp
  have F := hp.2.1
  exact ⟨congrArg Int32.toInt (F 0 11 (by decide +kernel)), congrArg Int32.toInt (F 152 0 (by decide +kernel)), congrArg Int32.toInt (F 152 1 (by decide +kernel))⟩
theorem zk_X12_ferry_q {τ u : Tau} {bb : Nat → Int} {nb : Nat} {r : Int32} (hp : po_X12_ferry_q τ  bb nb r u) : ZK (mBut [4, 10]) τ u := by
  unfold po_X12_ferry_q at hp
  have F := hp.2.1
  exact ⟨(fun _ => (fr_c F (by decide +kernel))), (fun _ => (fr_c F (by decide +kernel))), (fun _ => (fr_c F (by decide +kernel))), (fun _ => ⟨F 23 2 (by decide +kernel), F 23 3 (by decide +kernel), (fr_c F (by decide +kernel)), (fr_c F (by decide +kernel))⟩), (fun h => absurd h (by decide)), (fun _ => ⟨F 94 2 (by decide +kernel), F 94 3 (by decide +kernel), (fr_c F (by decide +kernel)), (fr_c F (by decide +kernel))⟩), (fun _ => ⟨F 112 2 (by decide +kernel), F 112 3 (by decide +kernel), (fr_c F (by decide +kernel)), (fr_c F (by decide +kernel))⟩), (fun _ => ⟨(fr_c F (by decide +kernel)), (fr_c F (by decide +kernel))⟩), (fun _ => ⟨F 152 0 (by decide +kernel), F 152 1 (by decide +kernel)⟩), (fun _ => F 0 12 (by decide +kernel)), (fun h => absurd h (by decide))⟩
theorem j_X11_fault_q {τ u : Tau} {r : Int32} (h : JJ τ) (hp : po_X11_fault_q τ   r u) : JJ u ∧ u 131 2 = τ 131 2 ∧ u 1 1 = τ 1 1 := by
  unfold po_X11_fault_q at hp
  obtain ⟨e, _⟩ := hp
  subst e
  exact ⟨h, rfl, rfl⟩
theorem k_X11_fault_q {τ u : Tau} {r : Int32} (hp : po_X11_fault_q τ   r u) : (u 0 11).toInt = (τ 0 11).toInt ∧ (u 152 0).toInt = (τ 152 0).toInt ∧ (u 152 1).toInt = (τ 152 1).toInt := by
  unfold po_X11_fault_q at hp
  have e := hp.1
  subst e
  exact ⟨rfl, rfl, rfl⟩
theorem zk_X11_fault_q {τ u : Tau} {r : Int32} (hp : po_X11_fault_q τ   r u) : ZK mAll τ u := by
  unfold po_X11_fault_q at hp
  have e := hp.1
  subst e
  exact ZK_rfl
theorem j_X12_fault_q {τ u : Tau} {r : Int32} (h : JJ τ) (hp : po_X12_fault_q τ   r u) : JJ u ∧ u 1 1 = τ 1 1 ∧ u 131 2 = τ 131 2 := by
  unfold po_X12_fault_q at hp
  obtain ⟨I, F, p2⟩ := hp
  obtain ⟨h0, hWI, hHI, hIM, hLR, hYW, hYT, hYA, hYB, hPF, hPK⟩ := h
  exact ⟨⟨I, (WI_fr hWI F (by decide +kernel)), (HI_fr hHI F (by decide +kernel)), (IM_fr hIM F (by decide +kernel)), (LR_fr hLR F (by decide +kernel)), (YW_fr hYW F (by decide +kernel)), (YT_fr hYT F (by decide +kernel)), (YA_fr hYA F (by decide +kernel)), (YB_fr hYB F (by decide +kernel)), (PF_fr hPF F (by decide +kernel)), (PK_fr hPK F (by decide +kernel))⟩, F 1 1 (by decide +kernel), F 131 2 (by decide +kernel)⟩
theorem k_X12_fault_q {τ u : Tau} {r : Int32} (hp : po_X12_fault_q τ   r u) : (u 0 11).toInt = (τ 0 11).toInt ∧ (u 152 0).toInt = (τ 152 0).toInt ∧ (u 152 1).toInt = (τ 152 1).toInt := by
  unfold po_X12_fault_q at hp
  have F := hp.2.1
  exact ⟨congrArg Int32.toInt (F 0 11 (by decide +kernel)), congrArg Int32.toInt (F 152 0 (by decide +kernel)), congrArg Int32.toInt (F 152 1 (by decide +kernel))⟩
theorem zk_X12_fault_q {τ u : Tau} {r : Int32} (hp : po_X12_fault_q τ   r u) : ZK mAll τ u := by
  unfold po_X12_fault_q at hp
  have F := hp.2.1
  exact ⟨(fun _ => (fr_c F (by decide +kernel))), (fun _ => (fr_c F (by decide +kernel))), (fun _ => (fr_c F (by decide +kernel))), (fun _ => ⟨F 23 2 (by decide +kernel), F 23 3 (by decide +kernel), (fr_c F (by decide +kernel)), (fr_c F (by decide +kernel))⟩), (fun _ => ⟨F 133 0 (by decide +kernel), F 133 1 (by decide +kernel), (fr_c F (by decide +kernel))⟩), (fun _ => ⟨F 94 2 (by decide +kernel), F 94 3 (by decide +kernel), (fr_c F (by decide +kernel)), (fr_c F (by decide +kernel))⟩), (fun _ => ⟨F 112 2 (by decide +kernel), F 112 3 (by decide +kernel), (fr_c F (by decide +kernel)), (fr_c F (by decide +kernel))⟩), (fun _ => ⟨(fr_c F (by decide +kernel)), (fr_c F (by decide +kernel))⟩), (fun _ => ⟨F 152 0 (by decide +kernel), F 152 1 (by decide +kernel)⟩), (fun _ => F 0 12 (by decide +kernel)), (fun _ => F 131 15 (by decide +kernel))⟩
theorem j_X12_man {τ u : Tau} {a0 a1 : Int32} {r : Int32} (h : JJ τ) (hp : po_X12_man τ a0 a1  r u) : JJ u ∧ u 1 1 = τ 1 1 ∧ u 131 2 = τ 131 2 := by
  unfold po_X12_man at hp
  obtain ⟨I, F⟩ := hp
  obtain ⟨h0, hWI, hHI, hIM, hLR, hYW, hYT, hYA, hYB, hPF, hPK⟩ := h
  exact ⟨⟨I, (WI_fr hWI F (by decide +kernel)), (HI_fr hHI F (by decide +kernel)), (IM_fr hIM F (by decide +kernel)), (LR_fr hLR F (by decide +kernel)), (YW_fr hYW F (by decide +kernel)), (YT_fr hYT F (by decide +kernel)), (YA_fr hYA F (by decide +kernel)), (YB_fr hYB F (by decide +kernel)), (PF_fr hPF F (by decide +kernel)), (PK_fr hPK F (by decide +kernel))⟩, F 1 1 (by decide +kernel), F 131 2 (by decide +kernel)⟩
theorem k_X12_man {τ u : Tau} {a0 a1 : Int32} {r : Int32} (hp : po_X12_man τ a0 a1  r u) : (u 0 11).toInt = (τ 0 11).toInt ∧ (u 152 0).toInt = (τ 152 0).toInt ∧ (u 152 1).toInt = (τ 152 1).toInt := by
  unfold po_X12_man at hp
  have F := hp.2
  exact ⟨congrArg Int32.toInt (F 0 11 (by decide +kernel)), congrArg Int32.toInt (F 152 0 (by decide +kernel)), congrArg Int32.toInt (F 152 1 (by decide +kernel))⟩
theorem zk_X12_man {τ u : Tau} {a0 a1 : Int32} {r : Int32} (hp : po_X12_man τ a0 a1  r u) : ZK mAll τ u := by
  unfold po_X12_man at hp
  have F := hp.2
  exact ⟨(fun _ => (fr_c F (by decide +kernel))), (fun _ => (fr_c F (by decide +kernel))), (fun _ => (fr_c F (by decide +kernel))), (fun _ => ⟨F 23 2 (by decide +kernel), F 23 3 (by decide +kernel), (fr_c F (by decide +kernel)), (fr_c F (by decide +kernel))⟩), (fun _ => ⟨F 133 0 (by decide +kernel), F 133 1 (by decide +kernel), (fr_c F (by decide +kernel))⟩), (fun _ => ⟨F 94 2 (by decide +kernel), F 94 3 (by decide +kernel), (fr_c F (by decide +kernel)), (fr_c F (by decide +kernel))⟩), (fun _ => ⟨F 112 2 (by decide +kernel), F 112 3 (by decide +kernel), (fr_c F (by decide +kernel)), (fr_c F (by decide +kernel))⟩), (fun _ => ⟨(fr_c F (by decide +kernel)), (fr_c F (by decide +kernel))⟩), (fun _ => ⟨F 152 0 (by decide +kernel), F 152 1 (by decide +kernel)⟩), (fun _ => F 0 12 (by decide +kernel)), (fun _ => F 131 15 (by decide +kernel))⟩
theorem j_X12_thinks {τ u : Tau} {a0 a1 : Int32} {r : Int32} (h : JJ τ) (hp : po_X12_thinks τ a0 a1  r u) : JJ u ∧ u 1 1 = τ 1 1 ∧ u 131 2 = τ 131 2 := by
  unfold po_X12_thinks at hp
  obtain ⟨I, F⟩ := hp
  obtain ⟨h0, hWI, hHI, hIM, hLR, hYW, hYT, hYA, hYB, hPF, hPK⟩ := h
  exact ⟨⟨I, (WI_fr hWI F (by decide +kernel)), (HI_fr hHI F (by decide +kernel)), (IM_fr hIM F (by decide +kernel)), (LR_fr hLR F (by decide +kernel)), (YW_fr hYW F (by decide +kernel)), (YT_fr hYT F (by decide +kernel)), (YA_fr hYA F (by decide +kernel)), (YB_fr hYB F (by decide +kernel)), (PF_fr hPF F (by decide +kernel)), (PK_fr hPK F (by decide +kernel))⟩, F 1 1 (by decide +kernel), F 131 2 (by decide +kernel)⟩
theorem k_X12_thinks {τ u : Tau} {a0 a1 : Int32} {r : Int32} (hp : po_X12_thinks τ a0 a1  r u) : (u 0 11).toInt = (τ 0 11).toInt ∧ (u 152 0).toInt = (τ 152 0).toInt ∧ (u 152 1).toInt = (τ 152 1).toInt := by
  unfold po_X12_thinks at hp
  have F := hp.2
  exact ⟨congrArg Int32.toInt (F 0 11 (by decide +kernel)), congrArg Int32.toInt (F 152 0 (by decide +kernel)), congrArg Int32.toInt (F 152 1 (by decide +kernel))⟩
theorem zk_X12_thinks {τ u : Tau} {a0 a1 : Int32} {r : Int32} (hp : po_X12_thinks τ a0 a1  r u) : ZK mAll τ u := by
  unfold po_X12_thinks at hp
  have F := hp.2
  exact ⟨(fun _ => (fr_c F (by decide +kernel))), (fun _ => (fr_c F (by decide +kernel))), (fun _ => (fr_c F (by decide +kernel))), (fun _ => ⟨F 23 2 (by decide +kernel), F 23 3 (by decide +kernel), (fr_c F (by decide +kernel)), (fr_c F (by decide +kernel))⟩), (fun _ => ⟨F 133 0 (by decide +kernel), F 133 1 (by decide +kernel), (fr_c F (by decide +kernel))⟩), (fun _ => ⟨F 94 2 (by decide +kernel), F 94 3 (by decide +kernel), (fr_c F (by decide +kernel)), (fr_c F (by decide +kernel))⟩), (fun _ => ⟨F 112 2 (by decide +kernel), F 112 3 (by decide +kernel), (fr_c F (by decide +kernel)), (fr_c F (by decide +kernel))⟩), (fun _ => ⟨(fr_c F (by decide +kernel)), (fr_c F (by decide +kernel))⟩), (fun _ => ⟨F 152 0 (by decide +kernel), F 152 1 (by decide +kernel)⟩), (fun _ => F 0 12 (by decide +kernel)), (fun _ => F 131 15 (by decide +kernel))⟩
theorem j_X12_says {τ u : Tau} {a0 a1 : Int32} {r : Int32} (h : JJ τ) (hp : po_X12_says τ a0 a1  r u) : JJ u ∧ u 1 1 = τ 1 1 ∧ u 131 2 = τ 131 2 := by
  unfold po_X12_says at hp
  obtain ⟨I, F⟩ := hp
  obtain ⟨h0, hWI, hHI, hIM, hLR, hYW, hYT, hYA, hYB, hPF, hPK⟩ := h
  exact ⟨⟨I, (WI_fr hWI F (by decide +kernel)), (HI_fr hHI F (by decide +kernel)), (IM_fr hIM F (by decide +kernel)), (LR_fr hLR F (by decide +kernel)), (YW_fr hYW F (by decide +kernel)), (YT_fr hYT F (by decide +kernel)), (YA_fr hYA F (by decide +kernel)), (YB_fr hYB F (by decide +kernel)), (PF_fr hPF F (by decide +kernel)), (PK_fr hPK F (by decide +kernel))⟩, F 1 1 (by decide +kernel), F 131 2 (by decide +kernel)⟩
theorem k_X12_says {τ u : Tau} {a0 a1 : Int32} {r : Int32} (hp : po_X12_says τ a0 a1  r u) : (u 0 11).toInt = (τ 0 11).toInt ∧ (u 152 0).toInt = (τ 152 0).toInt ∧ (u 152 1).toInt = (τ 152 1).toInt := by
  unfold po_X12_says at hp
  have F := hp.2
  exact ⟨congrArg Int32.toInt (F 0 11 (by decide +kernel)), congrArg Int32.toInt (F 152 0 (by decide +kernel)), congrArg Int32.toInt (F 152 1 (by decide +kernel))⟩
theorem zk_X12_says {τ u : Tau} {a0 a1 : Int32} {r : Int32} (hp : po_X12_says τ a0 a1  r u) : ZK mAll τ u := by
  unfold po_X12_says at hp
  have F := hp.2
  exact ⟨(fun _ => (fr_c F (by decide +kernel))), (fun _ => (fr_c F (by decide +kernel))), (fun _ => (fr_c F (by decide +kernel))), (fun _ => ⟨F 23 2 (by decide +kernel), F 23 3 (by decide +kernel), (fr_c F (by decide +kernel)), (fr_c F (by decide +kernel))⟩), (fun _ => ⟨F 133 0 (by decide +kernel), F 133 1 (by decide +kernel), (fr_c F (by decide +kernel))⟩), (fun _ => ⟨F 94 2 (by decide +kernel), F 94 3 (by decide +kernel), (fr_c F (by decide +kernel)), (fr_c F (by decide +kernel))⟩), (fun _ => ⟨F 112 2 (by decide +kernel), F 112 3 (by decide +kernel), (fr_c F (by decide +kernel)), (fr_c F (by decide +kernel))⟩), (fun _ => ⟨(fr_c F (by decide +kernel)), (fr_c F (by decide +kernel))⟩), (fun _ => ⟨F 152 0 (by decide +kernel), F 152 1 (by decide +kernel)⟩), (fun _ => F 0 12 (by decide +kernel)), (fun _ => F 131 15 (by decide +kernel))⟩
theorem j_X11_now {τ u : Tau} {a0 : Int32} {r : Int32} (h : JJ τ) (hp : po_X11_now τ a0  r u) : JJ u ∧ u 131 2 = τ 131 2 ∧ u 1 1 = τ 1 1 := by
  unfold po_X11_now at hp
  have e := hp
  subst e
  exact ⟨h, rfl, rfl⟩
theorem k_X11_now {τ u : Tau} {a0 : Int32} {r : Int32} (hp : po_X11_now τ a0  r u) : (u 0 11).toInt = (τ 0 11).toInt ∧ (u 152 0).toInt = (τ 152 0).toInt ∧ (u 152 1).toInt = (τ 152 1).toInt := by
  unfold po_X11_now at hp
  have e := hp
  subst e
  exact ⟨rfl, rfl, rfl⟩
theorem zk_X11_now {τ u : Tau} {a0 : Int32} {r : Int32} (hp : po_X11_now τ a0  r u) : ZK mAll τ u := by
  unfold po_X11_now at hp
  have e := hp
  subst e
  exact ZK_rfl
theorem j_X12_now {τ u : Tau} {a0 : Int32} {r : Int32} (h : JJ τ) (hp : po_X12_now τ a0  r u) : JJ u ∧ u 1 1 = τ 1 1 ∧ u 131 2 = τ 131 2 := by
  unfold po_X12_now at hp
  obtain ⟨I, F⟩ := hp
  obtain ⟨h0, hWI, hHI, hIM, hLR, hYW, hYT, hYA, hYB, hPF, hPK⟩ := h
  exact ⟨⟨I, (WI_fr hWI F (by decide +kernel)), (HI_fr hHI F (by decide +kernel)), (IM_fr hIM F (by decide +kernel)), (LR_fr hLR F (by decide +kernel)), (YW_fr hYW F (by decide +kernel)), (YT_fr hYT F (by decide +kernel)), (YA_fr hYA F (by decide +kernel)), (YB_fr hYB F (by decide +kernel)), (PF_fr hPF F (by decide +kernel)), (PK_fr hPK F (by decide +kernel))⟩, F 1 1 (by decide +kernel), F 131 2 (by decide +kernel)⟩
theorem k_X12_now {τ u : Tau} {a0 : Int32} {r : Int32} (hp : po_X12_now τ a0  r u) : (u 0 11).toInt = (τ 0 11).toInt ∧ (u 152 0).toInt = (τ 152 0).toInt ∧ (u 152 1).toInt = (τ 152 1).toInt := by
  unfold po_X12_now at hp
  have F := hp.2
  exact ⟨congrArg Int32.toInt (F 0 11 (by decide +kernel)), congrArg Int32.toInt (F 152 0 (by decide +kernel)), congrArg Int32.toInt (F 152 1 (by decide +kernel))⟩
theorem zk_X12_now {τ u : Tau} {a0 : Int32} {r : Int32} (hp : po_X12_now τ a0  r u) : ZK mAll τ u := by
  unfold po_X12_now at hp
  have F := hp.2
  exact ⟨(fun _ => (fr_c F (by decide +kernel))), (fun _ => (fr_c F (by decide +kernel))), (fun _ => (fr_c F (by decide +kernel))), (fun _ => ⟨F 23 2 (by decide +kernel), F 23 3 (by decide +kernel), (fr_c F (by decide +kernel)), (fr_c F (by decide +kernel))⟩), (fun _ => ⟨F 133 0 (by decide +kernel), F 133 1 (by decide +kernel), (fr_c F (by decide +kernel))⟩), (fun _ => ⟨F 94 2 (by decide +kernel), F 94 3 (by decide +kernel), (fr_c F (by decide +kernel)), (fr_c F (by decide +kernel))⟩), (fun _ => ⟨F 112 2 (by decide +kernel), F 112 3 (by decide +kernel), (fr_c F (by decide +kernel)), (fr_c F (by decide +kernel))⟩), (fun _ => ⟨(fr_c F (by decide +kernel)), (fr_c F (by decide +kernel))⟩), (fun _ => ⟨F 152 0 (by decide +kernel), F 152 1 (by decide +kernel)⟩), (fun _ => F 0 12 (by decide +kernel)), (fun _ => F 131 15 (by decide +kernel))⟩
theorem j_X11_why {τ u : Tau} {a0 : Int32} {r : Int32} (h : JJ τ) (hp : po_X11_why τ a0  r u) : JJ u ∧ u 131 2 = τ 131 2 ∧ u 1 1 = τ 1 1 := by
  unfold po_X11_why at hp
  have e := hp
  subst e
  exact ⟨h, rfl, rfl⟩
theorem k_X11_why {τ u : Tau} {a0 : Int32} {r : Int32} (hp : po_X11_why τ a0  r u) : (u 0 11).toInt = (τ 0 11).toInt ∧ (u 152 0).toInt = (τ 152 0).toInt ∧ (u 152 1).toInt = (τ 152 1).toInt := by
  unfold po_X11_why at hp
  have e := hp
  subst e
  exact ⟨rfl, rfl, rfl⟩
theorem zk_X11_why {τ u : Tau} {a0 : Int32} {r : Int32} (hp : po_X11_why τ a0  r u) : ZK mAll τ u := by
  unfold po_X11_why at hp
  have e := hp
  subst e
  exact ZK_rfl
theorem j_X12_why {τ u : Tau} {a0 : Int32} {r : Int32} (h : JJ τ) (hp : po_X12_why τ a0  r u) : JJ u ∧ u 1 1 = τ 1 1 ∧ u 131 2 = τ 131 2 := by
  unfold po_X12_why at hp
  obtain ⟨I, F⟩ := hp
  obtain ⟨h0, hWI, hHI, hIM, hLR, hYW, hYT, hYA, hYB, hPF, hPK⟩ := h
  exact ⟨⟨I, (WI_fr hWI F (by decide +kernel)), (HI_fr hHI F (by decide +kernel)), (IM_fr hIM F (by decide +kernel)), (LR_fr hLR F (by decide +kernel)), (YW_fr hYW F (by decide +kernel)), (YT_fr hYT F (by decide +kernel)), (YA_fr hYA F (by decide +kernel)), (YB_fr hYB F (by decide +kernel)), (PF_fr hPF F (by decide +kernel)), (PK_fr hPK F (by decide +kernel))⟩, F 1 1 (by decide +kernel), F 131 2 (by decide +kernel)⟩
theorem k_X12_why {τ u : Tau} {a0 : Int32} {r : Int32} (hp : po_X12_why τ a0  r u) : (u 0 11).toInt = (τ 0 11).toInt ∧ (u 152 0).toInt = (τ 152 0).toInt ∧ (u 152 1).toInt = (τ 152 1).toInt := by
  unfold po_X12_why at hp
  have F := hp.2
  exact ⟨congrArg Int32.toInt (F 0 11 (by decide +kernel)), congrArg Int32.toInt (F 152 0 (by decide +kernel)), congrArg Int32.toInt (F 152 1 (by decide +kernel))⟩
theorem zk_X12_why {τ u : Tau} {a0 : Int32} {r : Int32} (hp : po_X12_why τ a0  r u) : ZK mAll τ u := by
  unfold po_X12_why at hp
  have F := hp.2
  exact ⟨(fun _ => (fr_c F (by decide +kernel))), (fun _ => (fr_c F (by decide +kernel))), (fun _ => (fr_c F (by decide +kernel))), (fun _ => ⟨F 23 2 (by decide +kernel), F 23 3 (by decide +kernel), (fr_c F (by decide +kernel)), (fr_c F (by decide +kernel))⟩), (fun _ => ⟨F 133 0 (by decide +kernel), F 133 1 (by decide +kernel), (fr_c F (by decide +kernel))⟩), (fun _ => ⟨F 94 2 (by decide +kernel), F 94 3 (by decide +kernel), (fr_c F (by decide +kernel)), (fr_c F (by decide +kernel))⟩), (fun _ => ⟨F 112 2 (by decide +kernel), F 112 3 (by decide +kernel), (fr_c F (by decide +kernel)), (fr_c F (by decide +kernel))⟩), (fun _ => ⟨(fr_c F (by decide +kernel)), (fr_c F (by decide +kernel))⟩), (fun _ => ⟨F 152 0 (by decide +kernel), F 152 1 (by decide +kernel)⟩), (fun _ => F 0 12 (by decide +kernel)), (fun _ => F 131 15 (by decide +kernel))⟩
theorem j_X11_cross {τ u : Tau} {a0 : Int32} {r : Int32} (h : JJ τ) (hp : po_X11_cross τ a0  r u) : JJ u ∧ u 131 2 = τ 131 2 ∧ u 1 1 = τ 1 1 := by
  unfold po_X11_cross at hp
  obtain ⟨I, F, p2, p3⟩ := hp
  obtain ⟨h0, hWI, hHI, hIM, hLR, hYW, hYT, hYA, hYB, hPF, hPK⟩ := h
  exact ⟨⟨I, p2, p3, (IM_fr hIM F (by decide +kernel)), (LR_fr hLR F (by decide +kernel)), (YW_fr hYW F (by decide +kernel)), (YT_fr hYT F (by decide +kernel)), (YA_fr hYA F (by decide +kernel)), (YB_fr hYB F (by decide +kernel)), (PF_fr hPF F (by decide +kernel)), (PK_fr hPK F (by decide +kernel))⟩, F 131 2 (by decide +kernel), F 1 1 (by decide +kernel)⟩
theorem k_X11_cross {τ u : Tau} {a0 : Int32} {r : Int32} (hp : po_X11_cross τ a0  r u) : (u 0 11).toInt = (τ 0 11).toInt ∧ (u 152 0).toInt = (τ 152 0).toInt ∧ (u 152 1).toInt = (τ 152 1).toInt := by
  unfold po_X11_cross at hp
  have F := hp.2.1
  exact ⟨congrArg Int32.toInt (F 0 11 (by decide +kernel)), congrArg Int32.toInt (F 152 0 (by decide +kernel)), congrArg Int32.toInt (F 152 1 (by decide +kernel))⟩
theorem zk_X11_cross {τ u : Tau} {a0 : Int32} {r : Int32} (hp : po_X11_cross τ a0  r u) : ZK mAll τ u := by
  unfold po_X11_cross at hp
  have F := hp.2.1
  exact ⟨(fun _ => (fr_c F (by decide +kernel))), (fun _ => (fr_c F (by decide +kernel))), (fun _ => (fr_c F (by decide +kernel))), (fun _ => ⟨F 23 2 (by decide +kernel), F 23 3 (by decide +kernel), (fr_c F (by decide +kernel)), (fr_c F (by decide +kernel))⟩), (fun _ => ⟨F 133 0 (by decide +kernel), F 133 1 (by decide +kernel), (fr_c F (by decide +kernel))⟩), (fun _ => ⟨F 94 2 (by decide +kernel), F 94 3 (by decide +kernel), (fr_c F (by decide +kernel)), (fr_c F (by decide +kernel))⟩), (fun _ => ⟨F 112 2 (by decide +kernel), F 112 3 (by decide +kernel), (fr_c F (by decide +kernel)), (fr_c F (by decide +kernel))⟩), (fun _ => ⟨(fr_c F (by decide +kernel)), (fr_c F (by decide +kernel))⟩), (fun _ => ⟨F 152 0 (by decide +kernel), F 152 1 (by decide +kernel)⟩), (fun _ => F 0 12 (by decide +kernel)), (fun _ => F 131 15 (by decide +kernel))⟩
theorem j_X12_cross_x {τ u : Tau} {a0 : Int32} {r : Int32} (h : JJ τ) (hp : po_X12_cross_x τ a0  r u) : JJ u ∧ u 1 1 = τ 1 1 ∧ u 131 2 = τ 131 2 := by
  unfold po_X12_cross_x at hp
  obtain ⟨I, F⟩ := hp
  obtain ⟨h0, hWI, hHI, hIM, hLR, hYW, hYT, hYA, hYB, hPF, hPK⟩ := h
  exact ⟨⟨I, (WI_fr hWI F (by decide +kernel)), (HI_fr hHI F (by decide +kernel)), (IM_fr hIM F (by decide +kernel)), (LR_fr hLR F (by decide +kernel)), (YW_fr hYW F (by decide +kernel)), (YT_fr hYT F (by decide +kernel)), (YA_fr hYA F (by decide +kernel)), (YB_fr hYB F (by decide +kernel)), (PF_fr hPF F (by decide +kernel)), (PK_fr hPK F (by decide +kernel))⟩, F 1 1 (by decide +kernel), F 131 2 (by decide +kernel)⟩
theorem k_X12_cross_x {τ u : Tau} {a0 : Int32} {r : Int32} (hp : po_X12_cross_x τ a0  r u) : (u 0 11).toInt = (τ 0 11).toInt ∧ (u 152 0).toInt = (τ 152 0).toInt ∧ (u 152 1).toInt = (τ 152 1).toInt := by
  unfold po_X12_cross_x at hp
  have F := hp.2
  exact ⟨congrArg Int32.toInt (F 0 11 (by decide +kernel)), congrArg Int32.toInt (F 152 0 (by decide +kernel)), congrArg Int32.toInt (F 152 1 (by decide +kernel))⟩
theorem zk_X12_cross_x {τ u : Tau} {a0 : Int32} {r : Int32} (hp : po_X12_cross_x τ a0  r u) : ZK mAll τ u := by
  unfold po_X12_cross_x at hp
  have F := hp.2
  exact ⟨(fun _ => (fr_c F (by decide +kernel))), (fun _ => (fr_c F (by decide +kernel))), (fun _ => (fr_c F (by decide +kernel))), (fun _ => ⟨F 23 2 (by decide +kernel), F 23 3 (by decide +kernel), (fr_c F (by decide +kernel)), (fr_c F (by decide +kernel))⟩), (fun _ => ⟨F 133 0 (by decide +kernel), F 133 1 (by decide +kernel), (fr_c F (by decide +kernel))⟩), (fun _ => ⟨F 94 2 (by decide +kernel), F 94 3 (by decide +kernel), (fr_c F (by decide +kernel)), (fr_c F (by decide +kernel))⟩), (fun _ => ⟨F 112 2 (by decide +kernel), F 112 3 (by decide +kernel), (fr_c F (by decide +kernel)), (fr_c F (by decide +kernel))⟩), (fun _ => ⟨(fr_c F (by decide +kernel)), (fr_c F (by decide +kernel))⟩), (fun _ => ⟨F 152 0 (by decide +kernel), F 152 1 (by decide +kernel)⟩), (fun _ => F 0 12 (by decide +kernel)), (fun _ => F 131 15 (by decide +kernel))⟩
theorem j_X11_raise {τ u : Tau} {a0 : Int32} {r : Int32} (h : JJ τ) (hp : po_X11_raise τ a0  r u) : JJ u ∧ u 131 2 = τ 131 2 ∧ u 1 1 = τ 1 1 := by
  unfold po_X11_raise at hp
  obtain ⟨I, F, p2, p3⟩ := hp
  obtain ⟨h0, hWI, hHI, hIM, hLR, hYW, hYT, hYA, hYB, hPF, hPK⟩ := h
  exact ⟨⟨I, p2, p3, (IM_fr hIM F (by decide +kernel)), (LR_fr hLR F (by decide +kernel)), (YW_fr hYW F (by decide +kernel)), (YT_fr hYT F (by decide +kernel)), (YA_fr hYA F (by decide +kernel)), (YB_fr hYB F (by decide +kernel)), (PF_fr hPF F (by decide +kernel)), (PK_fr hPK F (by decide +kernel))⟩, F 131 2 (by decide +kernel), F 1 1 (by decide +kernel)⟩
theorem k_X11_raise {τ u : Tau} {a0 : Int32} {r : Int32} (hp : po_X11_raise τ a0  r u) : (u 0 11).toInt = (τ 0 11).toInt ∧ (u 152 0).toInt = (τ 152 0).toInt ∧ (u 152 1).toInt = (τ 152 1).toInt := by
  unfold po_X11_raise at hp
  have F := hp.2.1
  exact ⟨congrArg Int32.toInt (F 0 11 (by decide +kernel)), congrArg Int32.toInt (F 152 0 (by decide +kernel)), congrArg Int32.toInt (F 152 1 (by decide +kernel))⟩
theorem zk_X11_raise {τ u : Tau} {a0 : Int32} {r : Int32} (hp : po_X11_raise τ a0  r u) : ZK mAll τ u := by
  unfold po_X11_raise at hp
  have F := hp.2.1
  exact ⟨(fun _ => (fr_c F (by decide +kernel))), (fun _ => (fr_c F (by decide +kernel))), (fun _ => (fr_c F (by decide +kernel))), (fun _ => ⟨F 23 2 (by decide +kernel), F 23 3 (by decide +kernel), (fr_c F (by decide +kernel)), (fr_c F (by decide +kernel))⟩), (fun _ => ⟨F 133 0 (by decide +kernel), F 133 1 (by decide +kernel), (fr_c F (by decide +kernel))⟩), (fun _ => ⟨F 94 2 (by decide +kernel), F 94 3 (by decide +kernel), (fr_c F (by decide +kernel)), (fr_c F (by decide +kernel))⟩), (fun _ => ⟨F 112 2 (by decide +kernel), F 112 3 (by decide +kernel), (fr_c F (by decide +kernel)), (fr_c F (by decide +kernel))⟩), (fun _ => ⟨(fr_c F (by decide +kernel)), (fr_c F (by decide +kernel))⟩), (fun _ => ⟨F 152 0 (by decide +kernel), F 152 1 (by decide +kernel)⟩), (fun _ => F 0 12 (by decide +kernel)), (fun _ => F 131 15 (by decide +kernel))⟩
theorem j_X12_raise_x {τ u : Tau} {a0 : Int32} {r : Int32} (h : JJ τ) (hp : po_X12_raise_x τ a0  r u) : JJ u ∧ u 1 1 = τ 1 1 ∧ u 131 2 = τ 131 2 := by
  unfold po_X12_raise_x at hp
  obtain ⟨I, F⟩ := hp
  obtain ⟨h0, hWI, hHI, hIM, hLR, hYW, hYT, hYA, hYB, hPF, hPK⟩ := h
  exact ⟨⟨I, (WI_fr hWI F (by decide +kernel)), (HI_fr hHI F (by decide +kernel)), (IM_fr hIM F (by decide +kernel)), (LR_fr hLR F (by decide +kernel)), (YW_fr hYW F (by decide +kernel)), (YT_fr hYT F (by decide +kernel)), (YA_fr hYA F (by decide +kernel)), (YB_fr hYB F (by decide +kernel)), (PF_fr hPF F (by decide +kernel)), (PK_fr hPK F (by decide +kernel))⟩, F 1 1 (by decide +kernel), F 131 2 (by decide +kernel)⟩
theorem k_X12_raise_x {τ u : Tau} {a0 : Int32} {r : Int32} (hp : po_X12_raise_x τ a0  r u) : (u 0 11).toInt = (τ 0 11).toInt ∧ (u 152 0).toInt = (τ 152 0).toInt ∧ (u 152 1).toInt = (τ 152 1).toInt := by
  unfold po_X12_raise_x at hp
  have F := hp.2
  exact ⟨congrArg Int32.toInt (F 0 11 (by decide +kernel)), congrArg Int32.toInt (F 152 0 (by decide +kernel)), congrArg Int32.toInt (F 152 1 (by decide +kernel))⟩
theorem zk_X12_raise_x {τ u : Tau} {a0 : Int32} {r : Int32} (hp : po_X12_raise_x τ a0  r u) : ZK mAll τ u := by
  unfold po_X12_raise_x at hp
  have F := hp.2
  exact ⟨(fun _ => (fr_c F (by decide +kernel))), (fun _ => (fr_c F (by decide +kernel))), (fun _ => (fr_c F (by decide +kernel))), (fun _ => ⟨F 23 2 (by decide +kernel), F 23 3 (by decide +kernel), (fr_c F (by decide +kernel)), (fr_c F (by decide +kernel))⟩), (fun _ => ⟨F 133 0 (by decide +kernel), F 133 1 (by decide +kernel), (fr_c F (by decide +kernel))⟩), (fun _ => ⟨F 94 2 (by decide +kernel), F 94 3 (by decide +kernel), (fr_c F (by decide +kernel)), (fr_c F (by decide +kernel))⟩), (fun _ => ⟨F 112 2 (by decide +kernel), F 112 3 (by decide +kernel), (fr_c F (by decide +kernel)), (fr_c F (by decide +kernel))⟩), (fun _ => ⟨(fr_c F (by decide +kernel)), (fr_c F (by decide +kernel))⟩), (fun _ => ⟨F 152 0 (by decide +kernel), F 152 1 (by decide +kernel)⟩), (fun _ => F 0 12 (by decide +kernel)), (fun _ => F 131 15 (by decide +kernel))⟩
theorem j_X11_hire {τ u : Tau} {a0 : Int32} {r : Int32} (h : JJ τ) (hp : po_X11_hire τ a0  r u) : JJ u ∧ u 131 2 = τ 131 2 ∧ u 1 1 = τ 1 1 := by
  unfold po_X11_hire at hp
  obtain ⟨I, F, p2, p3⟩ := hp
  obtain ⟨h0, hWI, hHI, hIM, hLR, hYW, hYT, hYA, hYB, hPF, hPK⟩ := h
  exact ⟨⟨I, p2, p3, (IM_fr hIM F (by decide +kernel)), (LR_fr hLR F (by decide +kernel)), (YW_fr hYW F (by decide +kernel)), (YT_fr hYT F (by decide +kernel)), (YA_fr hYA F (by decide +kernel)), (YB_fr hYB F (by decide +kernel)), (PF_fr hPF F (by decide +kernel)), (PK_fr hPK F (by decide +kernel))⟩, F 131 2 (by decide +kernel), F 1 1 (by decide +kernel)⟩
theorem k_X11_hire {τ u : Tau} {a0 : Int32} {r : Int32} (hp : po_X11_hire τ a0  r u) : (u 0 11).toInt = (τ 0 11).toInt ∧ (u 152 0).toInt = (τ 152 0).toInt ∧ (u 152 1).toInt = (τ 152 1).toInt := by
  unfold po_X11_hire at hp
  have F := hp.2.1
  exact ⟨congrArg Int32.toInt (F 0 11 (by decide +kernel)), congrArg Int32.toInt (F 152 0 (by decide +kernel)), congrArg Int32.toInt (F 152 1 (by decide +kernel))⟩
theorem zk_X11_hire {τ u : Tau} {a0 : Int32} {r : Int32} (hp : po_X11_hire τ a0  r u) : ZK mAll τ u := by
  unfold po_X11_hire at hp
  have F := hp.2.1
  exact ⟨(fun _ => (fr_c F (by decide +kernel))), (fun _ => (fr_c F (by decide +kernel))), (fun _ => (fr_c F (by decide +kernel))), (fun _ => ⟨F 23 2 (by decide +kernel), F 23 3 (by decide +kernel), (fr_c F (by decide +kernel)), (fr_c F (by decide +kernel))⟩), (fun _ => ⟨F 133 0 (by decide +kernel), F 133 1 (by decide +kernel), (fr_c F (by decide +kernel))⟩), (fun _ => ⟨F 94 2 (by decide +kernel), F 94 3 (by decide +kernel), (fr_c F (by decide +kernel)), (fr_c F (by decide +kernel))⟩), (fun _ => ⟨F 112 2 (by decide +kernel), F 112 3 (by decide +kernel), (fr_c F (by decide +kernel)), (fr_c F (by decide +kernel))⟩), (fun _ => ⟨(fr_c F (by decide +kernel)), (fr_c F (by decide +kernel))⟩), (fun _ => ⟨F 152 0 (by decide +kernel), F 152 1 (by decide +kernel)⟩), (fun _ => F 0 12 (by decide +kernel)), (fun _ => F 131 15 (by decide +kernel))⟩
theorem j_X12_hire_x {τ u : Tau} {a0 : Int32} {r : Int32} (h : JJ τ) (hp : po_X12_hire_x τ a0  r u) : JJ u ∧ u 1 1 = τ 1 1 ∧ u 131 2 = τ 131 2 := by
  unfold po_X12_hire_x at hp
  obtain ⟨I, F⟩ := hp
  obtain ⟨h0, hWI, hHI, hIM, hLR, hYW, hYT, hYA, hYB, hPF, hPK⟩ := h
  exact ⟨⟨I, (WI_fr hWI F (by decide +kernel)), (HI_fr hHI F (by decide +kernel)), (IM_fr hIM F (by decide +kernel)), (LR_fr hLR F (by decide +kernel)), (YW_fr hYW F (by decide +kernel)), (YT_fr hYT F (by decide +kernel)), (YA_fr hYA F (by decide +kernel)), (YB_fr hYB F (by decide +kernel)), (PF_fr hPF F (by decide +kernel)), (PK_fr hPK F (by decide +kernel))⟩, F 1 1 (by decide +kernel), F 131 2 (by decide +kernel)⟩
theorem k_X12_hire_x {τ u : Tau} {a0 : Int32} {r : Int32} (hp : po_X12_hire_x τ a0  r u) : (u 0 11).toInt = (τ 0 11).toInt ∧ (u 152 0).toInt = (τ 152 0).toInt ∧ (u 152 1).toInt = (τ 152 1).toInt := by
  unfold po_X12_hire_x at hp
  have F := hp.2
  exact ⟨congrArg Int32.toInt (F 0 11 (by decide +kernel)), congrArg Int32.toInt (F 152 0 (by decide +kernel)), congrArg Int32.toInt (F 152 1 (by decide +kernel))⟩
theorem zk_X12_hire_x {τ u : Tau} {a0 : Int32} {r : Int32} (hp : po_X12_hire_x τ a0  r u) : ZK mAll τ u := by
  unfold po_X12_hire_x at hp
  have F := hp.2
  exact ⟨(fun _ => (fr_c F (by decide +kernel))), (fun _ => (fr_c F (by decide +kernel))), (fun _ => (fr_c F (by decide +kernel))), (fun _ => ⟨F 23 2 (by decide +kernel), F 23 3 (by decide +kernel), (fr_c F (by decide +kernel)), (fr_c F (by decide +kernel))⟩), (fun _ => ⟨F 133 0 (by decide +kernel), F 133 1 (by decide +kernel), (fr_c F (by decide +kernel))⟩), (fun _ => ⟨F 94 2 (by decide +kernel), F 94 3 (by decide +kernel), (fr_c F (by decide +kernel)), (fr_c F (by decide +kernel))⟩), (fun _ => ⟨F 112 2 (by decide +kernel), F 112 3 (by decide +kernel), (fr_c F (by decide +kernel)), (fr_c F (by decide +kernel))⟩), (fun _ => ⟨(fr_c F (by decide +kernel)), (fr_c F (by decide +kernel))⟩), (fun _ => ⟨F 152 0 (by decide +kernel), F 152 1 (by decide +kernel)⟩), (fun _ => F 0 12 (by decide +kernel)), (fun _ => F 131 15 (by decide +kernel))⟩
theorem j_X11_lie {τ u : Tau} {a0 a1 a2 : Int32} {r : Int32} (h : JJ τ) (hp : po_X11_lie τ a0 a1 a2  r u) : JJ u ∧ u 131 2 = τ 131 2 ∧ u 1 1 = τ 1 1 := by
  unfold po_X11_lie at hp
  obtain ⟨I, F, p2, p3⟩ := hp
  obtain ⟨h0, hWI, hHI, hIM, hLR, hYW, hYT, hYA, hYB, hPF, hPK⟩ := h
  exact ⟨⟨I, p2, p3, (IM_fr hIM F (by decide +kernel)), (LR_fr hLR F (by decide +kernel)), (YW_fr hYW F (by decide +kernel)), (YT_fr hYT F (by decide +kernel)), (YA_fr hYA F (by decide +kernel)), (YB_fr hYB F (by decide +kernel)), (PF_fr hPF F (by decide +kernel)), (PK_fr hPK F (by decide +kernel))⟩, F 131 2 (by decide +kernel), F 1 1 (by decide +kernel)⟩
theorem k_X11_lie {τ u : Tau} {a0 a1 a2 : Int32} {r : Int32} (hp : po_X11_lie τ a0 a1 a2  r u) : (u 0 11).toInt = (τ 0 11).toInt ∧ (u 152 0).toInt = (τ 152 0).toInt ∧ (u 152 1).toInt = (τ 152 1).toInt := by
  unfold po_X11_lie at hp
  have F := hp.2.1
  exact ⟨congrArg Int32.toInt (F 0 11 (by decide +kernel)), congrArg Int32.toInt (F 152 0 (by decide +kernel)), congrArg Int32.toInt (F 152 1 (by decide +kernel))⟩
theorem zk_X11_lie {τ u : Tau} {a0 a1 a2 : Int32} {r : Int32} (hp : po_X11_lie τ a0 a1 a2  r u) : ZK mAll τ u := by
  unfold po_X11_lie at hp
  have F := hp.2.1
  exact ⟨(fun _ => (fr_c F (by decide +kernel))), (fun _ => (fr_c F (by decide +kernel))), (fun _ => (fr_c F (by decide +kernel))), (fun _ => ⟨F 23 2 (by decide +kernel), F 23 3 (by decide +kernel), (fr_c F (by decide +kernel)), (fr_c F (by decide +kernel))⟩), (fun _ => ⟨F 133 0 (by decide +kernel), F 133 1 (by decide +kernel), (fr_c F (by decide +kernel))⟩), (fun _ => ⟨F 94 2 (by decide +kernel), F 94 3 (by decide +kernel), (fr_c F (by decide +kernel)), (fr_c F (by decide +kernel))⟩), (fun _ => ⟨F 112 2 (by decide +kernel), F 112 3 (by decide +kernel), (fr_c F (by decide +kernel)), (fr_c F (by decide +kernel))⟩), (fun _ => ⟨(fr_c F (by decide +kernel)), (fr_c F (by decide +kernel))⟩), (fun _ => ⟨F 152 0 (by decide +kernel), F 152 1 (by decide +kernel)⟩), (fun _ => F 0 12 (by decide +kernel)), (fun _ => F 131 15 (by decide +kernel))⟩
theorem j_X12_lie_x {τ u : Tau} {a0 a1 a2 : Int32} {r : Int32} (h : JJ τ) (hp : po_X12_lie_x τ a0 a1 a2  r u) : JJ u ∧ u 1 1 = τ 1 1 ∧ u 131 2 = τ 131 2 := by
  unfold po_X12_lie_x at hp
  obtain ⟨I, F⟩ := hp
  obtain ⟨h0, hWI, hHI, hIM, hLR, hYW, hYT, hYA, hYB, hPF, hPK⟩ := h
  exact ⟨⟨I, (WI_fr hWI F (by decide +kernel)), (HI_fr hHI F (by decide +kernel)), (IM_fr hIM F (by decide +kernel)), (LR_fr hLR F (by decide +kernel)), (YW_fr hYW F (by decide +kernel)), (YT_fr hYT F (by decide +kernel)), (YA_fr hYA F (by decide +kernel)), (YB_fr hYB F (by decide +kernel)), (PF_fr hPF F (by decide +kernel)), (PK_fr hPK F (by decide +kernel))⟩, F 1 1 (by decide +kernel), F 131 2 (by decide +kernel)⟩
theorem k_X12_lie_x {τ u : Tau} {a0 a1 a2 : Int32} {r : Int32} (hp : po_X12_lie_x τ a0 a1 a2  r u) : (u 0 11).toInt = (τ 0 11).toInt ∧ (u 152 0).toInt = (τ 152 0).toInt ∧ (u 152 1).toInt = (τ 152 1).toInt := by
  unfold po_X12_lie_x at hp
  have F := hp.2
  exact ⟨congrArg Int32.toInt (F 0 11 (by decide +kernel)), congrArg Int32.toInt (F 152 0 (by decide +kernel)), congrArg Int32.toInt (F 152 1 (by decide +kernel))⟩
theorem zk_X12_lie_x {τ u : Tau} {a0 a1 a2 : Int32} {r : Int32} (hp : po_X12_lie_x τ a0 a1 a2  r u) : ZK mAll τ u := by
  unfold po_X12_lie_x at hp
  have F := hp.2
  exact ⟨(fun _ => (fr_c F (by decide +kernel))), (fun _ => (fr_c F (by decide +kernel))), (fun _ => (fr_c F (by decide +kernel))), (fun _ => ⟨F 23 2 (by decide +kernel), F 23 3 (by decide +kernel), (fr_c F (by decide +kernel)), (fr_c F (by decide +kernel))⟩), (fun _ => ⟨F 133 0 (by decide +kernel), F 133 1 (by decide +kernel), (fr_c F (by decide +kernel))⟩), (fun _ => ⟨F 94 2 (by decide +kernel), F 94 3 (by decide +kernel), (fr_c F (by decide +kernel)), (fr_c F (by decide +kernel))⟩), (fun _ => ⟨F 112 2 (by decide +kernel), F 112 3 (by decide +kernel), (fr_c F (by decide +kernel)), (fr_c F (by decide +kernel))⟩), (fun _ => ⟨(fr_c F (by decide +kernel)), (fr_c F (by decide +kernel))⟩), (fun _ => ⟨F 152 0 (by decide +kernel), F 152 1 (by decide +kernel)⟩), (fun _ => F 0 12 (by decide +kernel)), (fun _ => F 131 15 (by decide +kernel))⟩
theorem j_X11_turn {τ u : Tau} {a0 a1 a2 : Int32} {r : Int32} (h : JJ τ) (hp : po_X11_turn τ a0 a1 a2  r u) : JJ u ∧ u 131 2 = τ 131 2 ∧ u 1 1 = τ 1 1 := by
  unfold po_X11_turn at hp
  obtain ⟨I, F, p2, p3⟩ := hp
  obtain ⟨h0, hWI, hHI, hIM, hLR, hYW, hYT, hYA, hYB, hPF, hPK⟩ := h
  exact ⟨⟨I, p2, p3, (IM_fr hIM F (by decide +kernel)), (LR_fr hLR F (by decide +kernel)), (YW_fr hYW F (by decide +kernel)), (YT_fr hYT F (by decide +kernel)), (YA_fr hYA F (by decide +kernel)), (YB_fr hYB F (by decide +kernel)), (PF_fr hPF F (by decide +kernel)), (PK_fr hPK F (by decide +kernel))⟩, F 131 2 (by decide +kernel), F 1 1 (by decide +kernel)⟩
theorem k_X11_turn {τ u : Tau} {a0 a1 a2 : Int32} {r : Int32} (hp : po_X11_turn τ a0 a1 a2  r u) : (u 0 11).toInt = (τ 0 11).toInt ∧ (u 152 0).toInt = (τ 152 0).toInt ∧ (u 152 1).toInt = (τ 152 1).toInt := by
  unfold po_X11_turn at hp
  have F := hp.2.1
  exact ⟨congrArg Int32.toInt (F 0 11 (by decide +kernel)), congrArg Int32.toInt (F 152 0 (by decide +kernel)), congrArg Int32.toInt (F 152 1 (by decide +kernel))⟩
theorem zk_X11_turn {τ u : Tau} {a0 a1 a2 : Int32} {r : Int32} (hp : po_X11_turn τ a0 a1 a2  r u) : ZK mAll τ u := by
  unfold po_X11_turn at hp
  have F := hp.2.1
  exact ⟨(fun _ => (fr_c F (by decide +kernel))), (fun _ => (fr_c F (by decide +kernel))), (fun _ => (fr_c F (by decide +kernel))), (fun _ => ⟨F 23 2 (by decide +kernel), F 23 3 (by decide +kernel), (fr_c F (by decide +kernel)), (fr_c F (by decide +kernel))⟩), (fun _ => ⟨F 133 0 (by decide +kernel), F 133 1 (by decide +kernel), (fr_c F (by decide +kernel))⟩), (fun _ => ⟨F 94 2 (by decide +kernel), F 94 3 (by decide +kernel), (fr_c F (by decide +kernel)), (fr_c F (by decide +kernel))⟩), (fun _ => ⟨F 112 2 (by decide +kernel), F 112 3 (by decide +kernel), (fr_c F (by decide +kernel)), (fr_c F (by decide +kernel))⟩), (fun _ => ⟨(fr_c F (by decide +kernel)), (fr_c F (by decide +kernel))⟩), (fun _ => ⟨F 152 0 (by decide +kernel), F 152 1 (by decide +kernel)⟩), (fun _ => F 0 12 (by decide +kernel)), (fun _ => F 131 15 (by decide +kernel))⟩
theorem j_X12_turn_x {τ u : Tau} {a0 a1 a2 : Int32} {r : Int32} (h : JJ τ) (hp : po_X12_turn_x τ a0 a1 a2  r u) : JJ u ∧ u 1 1 = τ 1 1 ∧ u 131 2 = τ 131 2 := by
  unfold po_X12_turn_x at hp
  obtain ⟨I, F⟩ := hp
  obtain ⟨h0, hWI, hHI, hIM, hLR, hYW, hYT, hYA, hYB, hPF, hPK⟩ := h
  exact ⟨⟨I, (WI_fr hWI F (by decide +kernel)), (HI_fr hHI F (by decide +kernel)), (IM_fr hIM F (by decide +kernel)), (LR_fr hLR F (by decide +kernel)), (YW_fr hYW F (by decide +kernel)), (YT_fr hYT F (by decide +kernel)), (YA_fr hYA F (by decide +kernel)), (YB_fr hYB F (by decide +kernel)), (PF_fr hPF F (by decide +kernel)), (PK_fr hPK F (by decide +kernel))⟩, F 1 1 (by decide +kernel), F 131 2 (by decide +kernel)⟩
theorem k_X12_turn_x {τ u : Tau} {a0 a1 a2 : Int32} {r : Int32} (hp : po_X12_turn_x τ a0 a1 a2  r u) : (u 0 11).toInt = (τ 0 11).toInt ∧ (u 152 0).toInt = (τ 152 0).toInt ∧ (u 152 1).toInt = (τ 152 1).toInt := by
  unfold po_X12_turn_x at hp
  have F := hp.2
  exact ⟨congrArg Int32.toInt (F 0 11 (by decide +kernel)), congrArg Int32.toInt (F 152 0 (by decide +kernel)), congrArg Int32.toInt (F 152 1 (by decide +kernel))⟩
theorem zk_X12_turn_x {τ u : Tau} {a0 a1 a2 : Int32} {r : Int32} (hp : po_X12_turn_x τ a0 a1 a2  r u) : ZK mAll τ u := by
  unfold po_X12_turn_x at hp
  have F := hp.2
  exact ⟨(fun _ => (fr_c F (by decide +kernel))), (fun _ => (fr_c F (by decide +kernel))), (fun _ => (fr_c F (by decide +kernel))), (fun _ => ⟨F 23 2 (by decide +kernel), F 23 3 (by decide +kernel), (fr_c F (by decide +kernel)), (fr_c F (by decide +kernel))⟩), (fun _ => ⟨F 133 0 (by decide +kernel), F 133 1 (by decide +kernel), (fr_c F (by decide +kernel))⟩), (fun _ => ⟨F 94 2 (by decide +kernel), F 94 3 (by decide +kernel), (fr_c F (by decide +kernel)), (fr_c F (by decide +kernel))⟩), (fun _ => ⟨F 112 2 (by decide +kernel), F 112 3 (by decide +kernel), (fr_c F (by decide +kernel)), (fr_c F (by decide +kernel))⟩), (fun _ => ⟨(fr_c F (by decide +kernel)), (fr_c F (by decide +kernel))⟩), (fun _ => ⟨F 152 0 (by decide +kernel), F 152 1 (by decide +kernel)⟩), (fun _ => F 0 12 (by decide +kernel)), (fun _ => F 131 15 (by decide +kernel))⟩
theorem j_X11_undo {τ u : Tau} {r : Int32} (h : JJ τ) (hp : po_X11_undo τ   r u) : JJ u ∧ u 131 2 = τ 131 2 ∧ u 1 1 = τ 1 1 := by
  unfold po_X11_undo at hp
  obtain ⟨I, F, p2, p3⟩ := hp
  obtain ⟨h0, hWI, hHI, hIM, hLR, hYW, hYT, hYA, hYB, hPF, hPK⟩ := h
  exact ⟨⟨I, p2, p3, (IM_fr hIM F (by decide +kernel)), (LR_fr hLR F (by decide +kernel)), (YW_fr hYW F (by decide +kernel)), (YT_fr hYT F (by decide +kernel)), (YA_fr hYA F (by decide +kernel)), (YB_fr hYB F (by decide +kernel)), (PF_fr hPF F (by decide +kernel)), (PK_fr hPK F (by decide +kernel))⟩, F 131 2 (by decide +kernel), F 1 1 (by decide +kernel)⟩
theorem k_X11_undo {τ u : Tau} {r : Int32} (hp : po_X11_undo τ   r u) : (u 0 11).toInt = (τ 0 11).toInt ∧ (u 152 0).toInt = (τ 152 0).toInt ∧ (u 152 1).toInt = (τ 152 1).toInt := by
  unfold po_X11_undo at hp
  have F := hp.2.1
  exact ⟨congrArg Int32.toInt (F 0 11 (by decide +kernel)), congrArg Int32.toInt (F 152 0 (by decide +kernel)), congrArg Int32.toInt (F 152 1 (by decide +kernel))⟩
theorem zk_X11_undo {τ u : Tau} {r : Int32} (hp : po_X11_undo τ   r u) : ZK mAll τ u := by
  unfold po_X11_undo at hp
  have F := hp.2.1
  exact ⟨(fun _ => (fr_c F (by decide +kernel))), (fun _ => (fr_c F (by decide +kernel))), (fun _ => (fr_c F (by decide +kernel))), (fun _ => ⟨F 23 2 (by decide +kernel), F 23 3 (by decide +kernel), (fr_c F (by decide +kernel)), (fr_c F (by decide +kernel))⟩), (fun _ => ⟨F 133 0 (by decide +kernel), F 133 1 (by decide +kernel), (fr_c F (by decide +kernel))⟩), (fun _ => ⟨F 94 2 (by decide +kernel), F 94 3 (by decide +kernel), (fr_c F (by decide +kernel)), (fr_c F (by decide +kernel))⟩), (fun _ => ⟨F 112 2 (by decide +kernel), F 112 3 (by decide +kernel), (fr_c F (by decide +kernel)), (fr_c F (by decide +kernel))⟩), (fun _ => ⟨(fr_c F (by decide +kernel)), (fr_c F (by decide +kernel))⟩), (fun _ => ⟨F 152 0 (by decide +kernel), F 152 1 (by decide +kernel)⟩), (fun _ => F 0 12 (by decide +kernel)), (fun _ => F 131 15 (by decide +kernel))⟩
theorem j_X12_undo_x {τ u : Tau} {r : Int32} (h : JJ τ) (hp : po_X12_undo_x τ   r u) : JJ u ∧ u 1 1 = τ 1 1 ∧ u 131 2 = τ 131 2 := by
  unfold po_X12_undo_x at hp
  obtain ⟨I, F⟩ := hp
  obtain ⟨h0, hWI, hHI, hIM, hLR, hYW, hYT, hYA, hYB, hPF, hPK⟩ := h
  exact ⟨⟨I, (WI_fr hWI F (by decide +kernel)), (HI_fr hHI F (by decide +kernel)), (IM_fr hIM F (by decide +kernel)), (LR_fr hLR F (by decide +kernel)), (YW_fr hYW F (by decide +kernel)), (YT_fr hYT F (by decide +kernel)), (YA_fr hYA F (by decide +kernel)), (YB_fr hYB F (by decide +kernel)), (PF_fr hPF F (by decide +kernel)), (PK_fr hPK F (by decide +kernel))⟩, F 1 1 (by decide +kernel), F 131 2 (by decide +kernel)⟩
theorem k_X12_undo_x {τ u : Tau} {r : Int32} (hp : po_X12_undo_x τ   r u) : (u 0 11).toInt = (τ 0 11).toInt ∧ (u 152 0).toInt = (τ 152 0).toInt ∧ (u 152 1).toInt = (τ 152 1).toInt := by
  unfold po_X12_undo_x at hp
  have F := hp.2
  exact ⟨congrArg Int32.toInt (F 0 11 (by decide +kernel)), congrArg Int32.toInt (F 152 0 (by decide +kernel)), congrArg Int32.toInt (F 152 1 (by decide +kernel))⟩
theorem zk_X12_undo_x {τ u : Tau} {r : Int32} (hp : po_X12_undo_x τ   r u) : ZK mAll τ u := by
  unfold po_X12_undo_x at hp
  have F := hp.2
  exact ⟨(fun _ => (fr_c F (by decide +kernel))), (fun _ => (fr_c F (by decide +kernel))), (fun _ => (fr_c F (by decide +kernel))), (fun _ => ⟨F 23 2 (by decide +kernel), F 23 3 (by decide +kernel), (fr_c F (by decide +kernel)), (fr_c F (by decide +kernel))⟩), (fun _ => ⟨F 133 0 (by decide +kernel), F 133 1 (by decide +kernel), (fr_c F (by decide +kernel))⟩), (fun _ => ⟨F 94 2 (by decide +kernel), F 94 3 (by decide +kernel), (fr_c F (by decide +kernel)), (fr_c F (by decide +kernel))⟩), (fun _ => ⟨F 112 2 (by decide +kernel), F 112 3 (by decide +kernel), (fr_c F (by decide +kernel)), (fr_c F (by decide +kernel))⟩), (fun _ => ⟨(fr_c F (by decide +kernel)), (fr_c F (by decide +kernel))⟩), (fun _ => ⟨F 152 0 (by decide +kernel), F 152 1 (by decide +kernel)⟩), (fun _ => F 0 12 (by decide +kernel)), (fun _ => F 131 15 (by decide +kernel))⟩
theorem j_X12_sum {τ u : Tau} {a0 : Int32} {r : Int32} (h : JJ τ) (hp : po_X12_sum τ a0  r u) : JJ u ∧ u 1 1 = τ 1 1 ∧ u 131 2 = τ 131 2 := by
  unfold po_X12_sum at hp
  obtain ⟨I, F⟩ := hp
  obtain ⟨h0, hWI, hHI, hIM, hLR, hYW, hYT, hYA, hYB, hPF, hPK⟩ := h
  exact ⟨⟨I, (WI_fr hWI F (by decide +kernel)), (HI_fr hHI F (by decide +kernel)), (IM_fr hIM F (by decide +kernel)), (LR_fr hLR F (by decide +kernel)), (YW_fr hYW F (by decide +kernel)), (YT_fr hYT F (by decide +kernel)), (YA_fr hYA F (by decide +kernel)), (YB_fr hYB F (by decide +kernel)), (PF_fr hPF F (by decide +kernel)), (PK_fr hPK F (by decide +kernel))⟩, F 1 1 (by decide +kernel), F 131 2 (by decide +kernel)⟩
theorem k_X12_sum {τ u : Tau} {a0 : Int32} {r : Int32} (hp : po_X12_sum τ a0  r u) : (u 0 11).toInt = (τ 0 11).toInt ∧ (u 152 0).toInt = (τ 152 0).toInt ∧ (u 152 1).toInt = (τ 152 1).toInt := by
  unfold po_X12_sum at hp
  have F := hp.2
  exact ⟨congrArg Int32.toInt (F 0 11 (by decide +kernel)), congrArg Int32.toInt (F 152 0 (by decide +kernel)), congrArg Int32.toInt (F 152 1 (by decide +kernel))⟩
theorem zk_X12_sum {τ u : Tau} {a0 : Int32} {r : Int32} (hp : po_X12_sum τ a0  r u) : ZK mAll τ u := by
  unfold po_X12_sum at hp
  have F := hp.2
  exact ⟨(fun _ => (fr_c F (by decide +kernel))), (fun _ => (fr_c F (by decide +kernel))), (fun _ => (fr_c F (by decide +kernel))), (fun _ => ⟨F 23 2 (by decide +kernel), F 23 3 (by decide +kernel), (fr_c F (by decide +kernel)), (fr_c F (by decide +kernel))⟩), (fun _ => ⟨F 133 0 (by decide +kernel), F 133 1 (by decide +kernel), (fr_c F (by decide +kernel))⟩), (fun _ => ⟨F 94 2 (by decide +kernel), F 94 3 (by decide +kernel), (fr_c F (by decide +kernel)), (fr_c F (by decide +kernel))⟩), (fun _ => ⟨F 112 2 (by decide +kernel), F 112 3 (by decide +kernel), (fr_c F (by decide +kernel)), (fr_c F (by decide +kernel))⟩), (fun _ => ⟨(fr_c F (by decide +kernel)), (fr_c F (by decide +kernel))⟩), (fun _ => ⟨F 152 0 (by decide +kernel), F 152 1 (by decide +kernel)⟩), (fun _ => F 0 12 (by decide +kernel)), (fun _ => F 131 15 (by decide +kernel))⟩
theorem j_X11_crews {τ u : Tau} {a0 : Int32} {r : Int32} (h : JJ τ) (hp : po_X11_crews τ a0  r u) : JJ u ∧ u 131 2 = τ 131 2 ∧ u 1 1 = τ 1 1 := by
  unfold po_X11_crews at hp
  obtain ⟨I, F⟩ := hp
  obtain ⟨h0, hWI, hHI, hIM, hLR, hYW, hYT, hYA, hYB, hPF, hPK⟩ := h
  exact ⟨⟨I, (WI_fr hWI F (by decide +kernel)), (HI_fr hHI F (by decide +kernel)), (IM_fr hIM F (by decide +kernel)), (LR_fr hLR F (by decide +kernel)), (YW_fr hYW F (by decide +kernel)), (YT_fr hYT F (by decide +kernel)), (YA_fr hYA F (by decide +kernel)), (YB_fr hYB F (by decide +kernel)), (PF_fr hPF F (by decide +kernel)), (PK_fr hPK F (by decide +kernel))⟩, F 131 2 (by decide +kernel), F 1 1 (by decide +kernel)⟩
theorem k_X11_crews {τ u : Tau} {a0 : Int32} {r : Int32} (hp : po_X11_crews τ a0  r u) : (u 0 11).toInt = (τ 0 11).toInt ∧ (u 152 0).toInt = (τ 152 0).toInt ∧ (u 152 1).toInt = (τ 152 1).toInt := by
  unfold po_X11_crews at hp
  have F := hp.2
  exact ⟨congrArg Int32.toInt (F 0 11 (by decide +kernel)), congrArg Int32.toInt (F 152 0 (by decide +kernel)), congrArg Int32.toInt (F 152 1 (by decide +kernel))⟩
theorem zk_X11_crews {τ u : Tau} {a0 : Int32} {r : Int32} (hp : po_X11_crews τ a0  r u) : ZK mAll τ u := by
  unfold po_X11_crews at hp
  have F := hp.2
  exact ⟨(fun _ => (fr_c F (by decide +kernel))), (fun _ => (fr_c F (by decide +kernel))), (fun _ => (fr_c F (by decide +kernel))), (fun _ => ⟨F 23 2 (by decide +kernel), F 23 3 (by decide +kernel), (fr_c F (by decide +kernel)), (fr_c F (by decide +kernel))⟩), (fun _ => ⟨F 133 0 (by decide +kernel), F 133 1 (by decide +kernel), (fr_c F (by decide +kernel))⟩), (fun _ => ⟨F 94 2 (by decide +kernel), F 94 3 (by decide +kernel), (fr_c F (by decide +kernel)), (fr_c F (by decide +kernel))⟩), (fun _ => ⟨F 112 2 (by decide +kernel), F 112 3 (by decide +kernel), (fr_c F (by decide +kernel)), (fr_c F (by decide +kernel))⟩), (fun _ => ⟨(fr_c F (by decide +kernel)), (fr_c F (by decide +kernel))⟩), (fun _ => ⟨F 152 0 (by decide +kernel), F 152 1 (by decide +kernel)⟩), (fun _ => F 0 12 (by decide +kernel)), (fun _ => F 131 15 (by decide +kernel))⟩
theorem j_X12_crews {τ u : Tau} {a0 : Int32} {r : Int32} (h : JJ τ) (hp : po_X12_crews τ a0  r u) : JJ u ∧ u 1 1 = τ 1 1 ∧ u 131 2 = τ 131 2 := by
  unfold po_X12_crews at hp
  obtain ⟨I, F⟩ := hp
  obtain ⟨h0, hWI, hHI, hIM, hLR, hYW, hYT, hYA, hYB, hPF, hPK⟩ := h
  exact ⟨⟨I, (WI_fr hWI F (by decide +kernel)), (HI_fr hHI F (by decide +kernel)), (IM_fr hIM F (by decide +kernel)), (LR_fr hLR F (by decide +kernel)), (YW_fr hYW F (by decide +kernel)), (YT_fr hYT F (by decide +kernel)), (YA_fr hYA F (by decide +kernel)), (YB_fr hYB F (by decide +kernel)), (PF_fr hPF F (by decide +kernel)), (PK_fr hPK F (by decide +kernel))⟩, F 1 1 (by decide +kernel), F 131 2 (by decide +kernel)⟩
theorem k_X12_crews {τ u : Tau} {a0 : Int32} {r : Int32} (hp : po_X12_crews τ a0  r u) : (u 0 11).toInt = (τ 0 11).toInt ∧ (u 152 0).toInt = (τ 152 0).toInt ∧ (u 152 1).toInt = (τ 152 1).toInt := by
  unfold po_X12_crews at hp
  have F := hp.2
  exact ⟨congrArg Int32.toInt (F 0 11 (by decide +kernel)), congrArg Int32.toInt (F 152 0 (by decide +kernel)), congrArg Int32.toInt (F 152 1 (by decide +kernel))⟩
theorem zk_X12_crews {τ u : Tau} {a0 : Int32} {r : Int32} (hp : po_X12_crews τ a0  r u) : ZK mAll τ u := by
  unfold po_X12_crews at hp
  have F := hp.2
  exact ⟨(fun _ => (fr_c F (by decide +kernel))), (fun _ => (fr_c F (by decide +kernel))), (fun _ => (fr_c F (by decide +kernel))), (fun _ => ⟨F 23 2 (by decide +kernel), F 23 3 (by decide +kernel), (fr_c F (by decide +kernel)), (fr_c F (by decide +kernel))⟩), (fun _ => ⟨F 133 0 (by decide +kernel), F 133 1 (by decide +kernel), (fr_c F (by decide +kernel))⟩), (fun _ => ⟨F 94 2 (by decide +kernel), F 94 3 (by decide +kernel), (fr_c F (by decide +kernel)), (fr_c F (by decide +kernel))⟩), (fun _ => ⟨F 112 2 (by decide +kernel), F 112 3 (by decide +kernel), (fr_c F (by decide +kernel)), (fr_c F (by decide +kernel))⟩), (fun _ => ⟨(fr_c F (by decide +kernel)), (fr_c F (by decide +kernel))⟩), (fun _ => ⟨F 152 0 (by decide +kernel), F 152 1 (by decide +kernel)⟩), (fun _ => F 0 12 (by decide +kernel)), (fun _ => F 131 15 (by decide +kernel))⟩
theorem j_X11_largest {τ u : Tau} {r : Int32} (h : JJ τ) (hp : po_X11_largest τ   r u) : JJ u ∧ u 131 2 = τ 131 2 ∧ u 1 1 = τ 1 1 := by
  unfold po_X11_largest at hp
  obtain ⟨I, F⟩ := hp
  obtain ⟨h0, hWI, hHI, hIM, hLR, hYW, hYT, hYA, hYB, hPF, hPK⟩ := h
  exact ⟨⟨I, (WI_fr hWI F (by decide +kernel)), (HI_fr hHI F (by decide +kernel)), (IM_fr hIM F (by decide +kernel)), (LR_fr hLR F (by decide +kernel)), (YW_fr hYW F (by decide +kernel)), (YT_fr hYT F (by decide +kernel)), (YA_fr hYA F (by decide +kernel)), (YB_fr hYB F (by decide +kernel)), (PF_fr hPF F (by decide +kernel)), (PK_fr hPK F (by decide +kernel))⟩, F 131 2 (by decide +kernel), F 1 1 (by decide +kernel)⟩
theorem k_X11_largest {τ u : Tau} {r : Int32} (hp : po_X11_largest τ   r u) : (u 0 11).toInt = (τ 0 11).toInt ∧ (u 152 0).toInt = (τ 152 0).toInt ∧ (u 152 1).toInt = (τ 152 1).toInt := by
  unfold po_X11_largest at hp
  have F := hp.2
  exact ⟨congrArg Int32.toInt (F 0 11 (by decide +kernel)), congrArg Int32.toInt (F 152 0 (by decide +kernel)), congrArg Int32.toInt (F 152 1 (by decide +kernel))⟩
theorem zk_X11_largest {τ u : Tau} {r : Int32} (hp : po_X11_largest τ   r u) : ZK mAll τ u := by
  unfold po_X11_largest at hp
  have F := hp.2
  exact ⟨(fun _ => (fr_c F (by decide +kernel))), (fun _ => (fr_c F (by decide +kernel))), (fun _ => (fr_c F (by decide +kernel))), (fun _ => ⟨F 23 2 (by decide +kernel), F 23 3 (by decide +kernel), (fr_c F (by decide +kernel)), (fr_c F (by decide +kernel))⟩), (fun _ => ⟨F 133 0 (by decide +kernel), F 133 1 (by decide +kernel), (fr_c F (by decide +kernel))⟩), (fun _ => ⟨F 94 2 (by decide +kernel), F 94 3 (by decide +kernel), (fr_c F (by decide +kernel)), (fr_c F (by decide +kernel))⟩), (fun _ => ⟨F 112 2 (by decide +kernel), F 112 3 (by decide +kernel), (fr_c F (by decide +kernel)), (fr_c F (by decide +kernel))⟩), (fun _ => ⟨(fr_c F (by decide +kernel)), (fr_c F (by decide +kernel))⟩), (fun _ => ⟨F 152 0 (by decide +kernel), F 152 1 (by decide +kernel)⟩), (fun _ => F 0 12 (by decide +kernel)), (fun _ => F 131 15 (by decide +kernel))⟩
theorem j_X12_largest {τ u : Tau} {r : Int32} (h : JJ τ) (hp : po_X12_largest τ   r u) : JJ u ∧ u 1 1 = τ 1 1 ∧ u 131 2 = τ 131 2 := by
  unfold po_X12_largest at hp
  obtain ⟨I, F⟩ := hp
  obtain ⟨h0, hWI, hHI, hIM, hLR, hYW, hYT, hYA, hYB, hPF, hPK⟩ := h
  exact ⟨⟨I, (WI_fr hWI F (by decide +kernel)), (HI_fr hHI F (by decide +kernel)), (IM_fr hIM F (by decide +kernel)), (LR_fr hLR F (by decide +kernel)), (YW_fr hYW F (by decide +kernel)), (YT_fr hYT F (by decide +kernel)), (YA_fr hYA F (by decide +kernel)), (YB_fr hYB F (by decide +kernel)), (PF_fr hPF F (by decide +kernel)), (PK_fr hPK F (by decide +kernel))⟩, F 1 1 (by decide +kernel), F 131 2 (by decide +kernel)⟩
theorem k_X12_largest {τ u : Tau} {r : Int32} (hp : po_X12_largest τ   r u) : (u 0 11).toInt = (τ 0 11).toInt ∧ (u 152 0).toInt = (τ 152 0).toInt ∧ (u 152 1).toInt = (τ 152 1).toInt := by
  unfold po_X12_largest at hp
  have F := hp.2
  exact ⟨congrArg Int32.toInt (F 0 11 (by decide +kernel)), congrArg Int32.toInt (F 152 0 (by decide +kernel)), congrArg Int32.toInt (F 152 1 (by decide +kernel))⟩
theorem zk_X12_largest {τ u : Tau} {r : Int32} (hp : po_X12_largest τ   r u) : ZK mAll τ u := by
  unfold po_X12_largest at hp
  have F := hp.2
  exact ⟨(fun _ => (fr_c F (by decide +kernel))), (fun _ => (fr_c F (by decide +kernel))), (fun _ => (fr_c F (by decide +kernel))), (fun _ => ⟨F 23 2 (by decide +kernel), F 23 3 (by decide +kernel), (fr_c F (by decide +kernel)), (fr_c F (by decide +kernel))⟩), (fun _ => ⟨F 133 0 (by decide +kernel), F 133 1 (by decide +kernel), (fr_c F (by decide +kernel))⟩), (fun _ => ⟨F 94 2 (by decide +kernel), F 94 3 (by decide +kernel), (fr_c F (by decide +kernel)), (fr_c F (by decide +kernel))⟩), (fun _ => ⟨F 112 2 (by decide +kernel), F 112 3 (by decide +kernel), (fr_c F (by decide +kernel)), (fr_c F (by decide +kernel))⟩), (fun _ => ⟨(fr_c F (by decide +kernel)), (fr_c F (by decide +kernel))⟩), (fun _ => ⟨F 152 0 (by decide +kernel), F 152 1 (by decide +kernel)⟩), (fun _ => F 0 12 (by decide +kernel)), (fun _ => F 131 15 (by decide +kernel))⟩
theorem j_X11_stuck {τ u : Tau} {r : Int32} (h : JJ τ) (hp : po_X11_stuck τ   r u) : JJ u ∧ u 131 2 = τ 131 2 ∧ u 1 1 = τ 1 1 := by
  unfold po_X11_stuck at hp
  obtain ⟨I, F⟩ := hp
  obtain ⟨h0, hWI, hHI, hIM, hLR, hYW, hYT, hYA, hYB, hPF, hPK⟩ := h
  exact ⟨⟨I, (WI_fr hWI F (by decide +kernel)), (HI_fr hHI F (by decide +kernel)), (IM_fr hIM F (by decide +kernel)), (LR_fr hLR F (by decide +kernel)), (YW_fr hYW F (by decide +kernel)), (YT_fr hYT F (by decide +kernel)), (YA_fr hYA F (by decide +kernel)), (YB_fr hYB F (by decide +kernel)), (PF_fr hPF F (by decide +kernel)), (PK_fr hPK F (by decide +kernel))⟩, F 131 2 (by decide +kernel), F 1 1 (by decide +kernel)⟩
theorem k_X11_stuck {τ u : Tau} {r : Int32} (hp : po_X11_stuck τ   r u) : (u 0 11).toInt = (τ 0 11).toInt ∧ (u 152 0).toInt = (τ 152 0).toInt ∧ (u 152 1).toInt = (τ 152 1).toInt := by
  unfold po_X11_stuck at hp
  have F := hp.2
  exact ⟨congrArg Int32.toInt (F 0 11 (by decide +kernel)), congrArg Int32.toInt (F 152 0 (by decide +kernel)), congrArg Int32.toInt (F 152 1 (by decide +kernel))⟩
theorem zk_X11_stuck {τ u : Tau} {r : Int32} (hp : po_X11_stuck τ   r u) : ZK mAll τ u := by
  unfold po_X11_stuck at hp
  have F := hp.2
  exact ⟨(fun _ => (fr_c F (by decide +kernel))), (fun _ => (fr_c F (by decide +kernel))), (fun _ => (fr_c F (by decide +kernel))), (fun _ => ⟨F 23 2 (by decide +kernel), F 23 3 (by decide +kernel), (fr_c F (by decide +kernel)), (fr_c F (by decide +kernel))⟩), (fun _ => ⟨F 133 0 (by decide +kernel), F 133 1 (by decide +kernel), (fr_c F (by decide +kernel))⟩), (fun _ => ⟨F 94 2 (by decide +kernel), F 94 3 (by decide +kernel), (fr_c F (by decide +kernel)), (fr_c F (by decide +kernel))⟩), (fun _ => ⟨F 112 2 (by decide +kernel), F 112 3 (by decide +kernel), (fr_c F (by decide +kernel)), (fr_c F (by decide +kernel))⟩), (fun _ => ⟨(fr_c F (by decide +kernel)), (fr_c F (by decide +kernel))⟩), (fun _ => ⟨F 152 0 (by decide +kernel), F 152 1 (by decide +kernel)⟩), (fun _ => F 0 12 (by decide +kernel)), (fun _ => F 131 15 (by decide +kernel))⟩
theorem j_X12_stuck {τ u : Tau} {r : Int32} (h : JJ τ) (hp : po_X12_stuck τ   r u) : JJ u ∧ u 1 1 = τ 1 1 ∧ u 131 2 = τ 131 2 := by
  unfold po_X12_stuck at hp
  obtain ⟨I, F⟩ := hp
  obtain ⟨h0, hWI, hHI, hIM, hLR, hYW, hYT, hYA, hYB, hPF, hPK⟩ := h
  exact ⟨⟨I, (WI_fr hWI F (by decide +kernel)), (HI_fr hHI F (by decide +kernel)), (IM_fr hIM F (by decide +kernel)), (LR_fr hLR F (by decide +kernel)), (YW_fr hYW F (by decide +kernel)), (YT_fr hYT F (by decide +kernel)), (YA_fr hYA F (by decide +kernel)), (YB_fr hYB F (by decide +kernel)), (PF_fr hPF F (by decide +kernel)), (PK_fr hPK F (by decide +kernel))⟩, F 1 1 (by decide +kernel), F 131 2 (by decide +kernel)⟩
theorem k_X12_stuck {τ u : Tau} {r : Int32} (hp : po_X12_stuck τ   r u) : (u 0 11).toInt = (τ 0 11).toInt ∧ (u 152 0).toInt = (τ 152 0).toInt ∧ (u 152 1).toInt = (τ 152 1).toInt := by
  unfold po_X12_stuck at hp
  have F := hp.2
  exact ⟨congrArg Int32.toInt (F 0 11 (by decide +kernel)), congrArg Int32.toInt (F 152 0 (by decide +kernel)), congrArg Int32.toInt (F 152 1 (by decide +kernel))⟩
theorem zk_X12_stuck {τ u : Tau} {r : Int32} (hp : po_X12_stuck τ   r u) : ZK mAll τ u := by
  unfold po_X12_stuck at hp
  have F := hp.2
  exact ⟨(fun _ => (fr_c F (by decide +kernel))), (fun _ => (fr_c F (by decide +kernel))), (fun _ => (fr_c F (by decide +kernel))), (fun _ => ⟨F 23 2 (by decide +kernel), F 23 3 (by decide +kernel), (fr_c F (by decide +kernel)), (fr_c F (by decide +kernel))⟩), (fun _ => ⟨F 133 0 (by decide +kernel), F 133 1 (by decide +kernel), (fr_c F (by decide +kernel))⟩), (fun _ => ⟨F 94 2 (by decide +kernel), F 94 3 (by decide +kernel), (fr_c F (by decide +kernel)), (fr_c F (by decide +kernel))⟩), (fun _ => ⟨F 112 2 (by decide +kernel), F 112 3 (by decide +kernel), (fr_c F (by decide +kernel)), (fr_c F (by decide +kernel))⟩), (fun _ => ⟨(fr_c F (by decide +kernel)), (fr_c F (by decide +kernel))⟩), (fun _ => ⟨F 152 0 (by decide +kernel), F 152 1 (by decide +kernel)⟩), (fun _ => F 0 12 (by decide +kernel)), (fun _ => F 131 15 (by decide +kernel))⟩
theorem j_X11_trips {τ u : Tau} {a0 : Int32} {r : Int32} (h : JJ τ) (hp : po_X11_trips τ a0  r u) : JJ u ∧ u 131 2 = τ 131 2 ∧ u 1 1 = τ 1 1 := by
  unfold po_X11_trips at hp
  obtain ⟨I, F⟩ := hp
  obtain ⟨h0, hWI, hHI, hIM, hLR, hYW, hYT, hYA, hYB, hPF, hPK⟩ := h
  exact ⟨⟨I, (WI_fr hWI F (by decide +kernel)), (HI_fr hHI F (by decide +kernel)), (IM_fr hIM F (by decide +kernel)), (LR_fr hLR F (by decide +kernel)), (YW_fr hYW F (by decide +kernel)), (YT_fr hYT F (by decide +kernel)), (YA_fr hYA F (by decide +kernel)), (YB_fr hYB F (by decide +kernel)), (PF_fr hPF F (by decide +kernel)), (PK_fr hPK F (by decide +kernel))⟩, F 131 2 (by decide +kernel), F 1 1 (by decide +kernel)⟩
theorem k_X11_trips {τ u : Tau} {a0 : Int32} {r : Int32} (hp : po_X11_trips τ a0  r u) : (u 0 11).toInt = (τ 0 11).toInt ∧ (u 152 0).toInt = (τ 152 0).toInt ∧ (u 152 1).toInt = (τ 152 1).toInt := by
  unfold po_X11_trips at hp
  have F := hp.2
  exact ⟨congrArg Int32.toInt (F 0 11 (by decide +kernel)), congrArg Int32.toInt (F 152 0 (by decide +kernel)), congrArg Int32.toInt (F 152 1 (by decide +kernel))⟩
theorem zk_X11_trips {τ u : Tau} {a0 : Int32} {r : Int32} (hp : po_X11_trips τ a0  r u) : ZK mAll τ u := by
  unfold po_X11_trips at hp
  have F := hp.2
  exact ⟨(fun _ => (fr_c F (by decide +kernel))), (fun _ => (fr_c F (by decide +kernel))), (fun _ => (fr_c F (by decide +kernel))), (fun _ => ⟨F 23 2 (by decide +kernel), F 23 3 (by decide +kernel), (fr_c F (by decide +kernel)), (fr_c F (by decide +kernel))⟩), (fun _ => ⟨F 133 0 (by decide +kernel), F 133 1 (by decide +kernel), (fr_c F (by decide +kernel))⟩), (fun _ => ⟨F 94 2 (by decide +kernel), F 94 3 (by decide +kernel), (fr_c F (by decide +kernel)), (fr_c F (by decide +kernel))⟩), (fun _ => ⟨F 112 2 (by decide +kernel), F 112 3 (by decide +kernel), (fr_c F (by decide +kernel)), (fr_c F (by decide +kernel))⟩), (fun _ => ⟨(fr_c F (by decide +kernel)), (fr_c F (by decide +kernel))⟩), (fun _ => ⟨F 152 0 (by decide +kernel), F 152 1 (by decide +kernel)⟩), (fun _ => F 0 12 (by decide +kernel)), (fun _ => F 131 15 (by decide +kernel))⟩
theorem j_X12_trips {τ u : Tau} {a0 : Int32} {r : Int32} (h : JJ τ) (hp : po_X12_trips τ a0  r u) : JJ u ∧ u 1 1 = τ 1 1 ∧ u 131 2 = τ 131 2 := by
  unfold po_X12_trips at hp
  obtain ⟨I, F⟩ := hp
  obtain ⟨h0, hWI, hHI, hIM, hLR, hYW, hYT, hYA, hYB, hPF, hPK⟩ := h
  exact ⟨⟨I, (WI_fr hWI F (by decide +kernel)), (HI_fr hHI F (by decide +kernel)), (IM_fr hIM F (by decide +kernel)), (LR_fr hLR F (by decide +kernel)), (YW_fr hYW F (by decide +kernel)), (YT_fr hYT F (by decide +kernel)), (YA_fr hYA F (by decide +kernel)), (YB_fr hYB F (by decide +kernel)), (PF_fr hPF F (by decide +kernel)), (PK_fr hPK F (by decide +kernel))⟩, F 1 1 (by decide +kernel), F 131 2 (by decide +kernel)⟩
theorem k_X12_trips {τ u : Tau} {a0 : Int32} {r : Int32} (hp : po_X12_trips τ a0  r u) : (u 0 11).toInt = (τ 0 11).toInt ∧ (u 152 0).toInt = (τ 152 0).toInt ∧ (u 152 1).toInt = (τ 152 1).toInt := by
  unfold po_X12_trips at hp
  have F := hp.2
  exact ⟨congrArg Int32.toInt (F 0 11 (by decide +kernel)), congrArg Int32.toInt (F 152 0 (by decide +kernel)), congrArg Int32.toInt (F 152 1 (by decide +kernel))⟩
theorem zk_X12_trips {τ u : Tau} {a0 : Int32} {r : Int32} (hp : po_X12_trips τ a0  r u) : ZK mAll τ u := by
  unfold po_X12_trips at hp
  have F := hp.2
  exact ⟨(fun _ => (fr_c F (by decide +kernel))), (fun _ => (fr_c F (by decide +kernel))), (fun _ => (fr_c F (by decide +kernel))), (fun _ => ⟨F 23 2 (by decide +kernel), F 23 3 (by decide +kernel), (fr_c F (by decide +kernel)), (fr_c F (by decide +kernel))⟩), (fun _ => ⟨F 133 0 (by decide +kernel), F 133 1 (by decide +kernel), (fr_c F (by decide +kernel))⟩), (fun _ => ⟨F 94 2 (by decide +kernel), F 94 3 (by decide +kernel), (fr_c F (by decide +kernel)), (fr_c F (by decide +kernel))⟩), (fun _ => ⟨F 112 2 (by decide +kernel), F 112 3 (by decide +kernel), (fr_c F (by decide +kernel)), (fr_c F (by decide +kernel))⟩), (fun _ => ⟨(fr_c F (by decide +kernel)), (fr_c F (by decide +kernel))⟩), (fun _ => ⟨F 152 0 (by decide +kernel), F 152 1 (by decide +kernel)⟩), (fun _ => F 0 12 (by decide +kernel)), (fun _ => F 131 15 (by decide +kernel))⟩
theorem j_X11_next {τ u : Tau} {r : Int32} (h : JJ τ) (hp : po_X11_next τ   r u) : JJ u ∧ u 131 2 = τ 131 2 ∧ u 1 1 = τ 1 1 := by
  unfold po_X11_next at hp
  obtain ⟨I, F⟩ := hp
  obtain ⟨h0, hWI, hHI, hIM, hLR, hYW, hYT, hYA, hYB, hPF, hPK⟩ := h
  exact ⟨⟨I, (WI_fr hWI F (by decide +kernel)), (HI_fr hHI F (by decide +kernel)), (IM_fr hIM F (by decide +kernel)), (LR_fr hLR F (by decide +kernel)), (YW_fr hYW F (by decide +kernel)), (YT_fr hYT F (by decide +kernel)), (YA_fr hYA F (by decide +kernel)), (YB_fr hYB F (by decide +kernel)), (PF_fr hPF F (by decide +kernel)), (PK_fr hPK F (by decide +kernel))⟩, F 131 2 (by decide +kernel), F 1 1 (by decide +kernel)⟩
theorem k_X11_next {τ u : Tau} {r : Int32} (hp : po_X11_next τ   r u) : (u 0 11).toInt = (τ 0 11).toInt ∧ (u 152 0).toInt = (τ 152 0).toInt ∧ (u 152 1).toInt = (τ 152 1).toInt := by
  unfold po_X11_next at hp
  have F := hp.2
  exact ⟨congrArg Int32.toInt (F 0 11 (by decide +kernel)), congrArg Int32.toInt (F 152 0 (by decide +kernel)), congrArg Int32.toInt (F 152 1 (by decide +kernel))⟩
theorem zk_X11_next {τ u : Tau} {r : Int32} (hp : po_X11_next τ   r u) : ZK mAll τ u := by
  unfold po_X11_next at hp
  have F := hp.2
  exact ⟨(fun _ => (fr_c F (by decide +kernel))), (fun _ => (fr_c F (by decide +kernel))), (fun _ => (fr_c F (by decide +kernel))), (fun _ => ⟨F 23 2 (by decide +kernel), F 23 3 (by decide +kernel), (fr_c F (by decide +kernel)), (fr_c F (by decide +kernel))⟩), (fun _ => ⟨F 133 0 (by decide +kernel), F 133 1 (by decide +kernel), (fr_c F (by decide +kernel))⟩), (fun _ => ⟨F 94 2 (by decide +kernel), F 94 3 (by decide +kernel), (fr_c F (by decide +kernel)), (fr_c F (by decide +kernel))⟩), (fun _ => ⟨F 112 2 (by decide +kernel), F 112 3 (by decide +kernel), (fr_c F (by decide +kernel)), (fr_c F (by decide +kernel))⟩), (fun _ => ⟨(fr_c F (by decide +kernel)), (fr_c F (by decide +kernel))⟩), (fun _ => ⟨F 152 0 (by decide +kernel), F 152 1 (by decide +kernel)⟩), (fun _ => F 0 12 (by decide +kernel)), (fun _ => F 131 15 (by decide +kernel))⟩
theorem j_X12_next {τ u : Tau} {r : Int32} (h : JJ τ) (hp : po_X12_next τ   r u) : JJ u ∧ u 1 1 = τ 1 1 ∧ u 131 2 = τ 131 2 := by
  unfold po_X12_next at hp
  obtain ⟨I, F⟩ := hp
  obtain ⟨h0, hWI, hHI, hIM, hLR, hYW, hYT, hYA, hYB, hPF, hPK⟩ := h
  exact ⟨⟨I, (WI_fr hWI F (by decide +kernel)), (HI_fr hHI F (by decide +kernel)), (IM_fr hIM F (by decide +kernel)), (LR_fr hLR F (by decide +kernel)), (YW_fr hYW F (by decide +kernel)), (YT_fr hYT F (by decide +kernel)), (YA_fr hYA F (by decide +kernel)), (YB_fr hYB F (by decide +kernel)), (PF_fr hPF F (by decide +kernel)), (PK_fr hPK F (by decide +kernel))⟩, F 1 1 (by decide +kernel), F 131 2 (by decide +kernel)⟩
theorem k_X12_next {τ u : Tau} {r : Int32} (hp : po_X12_next τ   r u) : (u 0 11).toInt = (τ 0 11).toInt ∧ (u 152 0).toInt = (τ 152 0).toInt ∧ (u 152 1).toInt = (τ 152 1).toInt := by
  unfold po_X12_next at hp
  have F := hp.2
  exact ⟨congrArg Int32.toInt (F 0 11 (by decide +kernel)), congrArg Int32.toInt (F 152 0 (by decide +kernel)), congrArg Int32.toInt (F 152 1 (by decide +kernel))⟩
theorem zk_X12_next {τ u : Tau} {r : Int32} (hp : po_X12_next τ   r u) : ZK mAll τ u := by
  unfold po_X12_next at hp
  have F := hp.2
  exact ⟨(fun _ => (fr_c F (by decide +kernel))), (fun _ => (fr_c F (by decide +kernel))), (fun _ => (fr_c F (by decide +kernel))), (fun _ => ⟨F 23 2 (by decide +kernel), F 23 3 (by decide +kernel), (fr_c F (by decide +kernel)), (fr_c F (by decide +kernel))⟩), (fun _ => ⟨F 133 0 (by decide +kernel), F 133 1 (by decide +kernel), (fr_c F (by decide +kernel))⟩), (fun _ => ⟨F 94 2 (by decide +kernel), F 94 3 (by decide +kernel), (fr_c F (by decide +kernel)), (fr_c F (by decide +kernel))⟩), (fun _ => ⟨F 112 2 (by decide +kernel), F 112 3 (by decide +kernel), (fr_c F (by decide +kernel)), (fr_c F (by decide +kernel))⟩), (fun _ => ⟨(fr_c F (by decide +kernel)), (fr_c F (by decide +kernel))⟩), (fun _ => ⟨F 152 0 (by decide +kernel), F 152 1 (by decide +kernel)⟩), (fun _ => F 0 12 (by decide +kernel)), (fun _ => F 131 15 (by decide +kernel))⟩
theorem j_X11_best {τ u : Tau} {r : Int32} (h : JJ τ) (hp : po_X11_best τ   r u) : JJ u ∧ u 131 2 = τ 131 2 ∧ u 1 1 = τ 1 1 := by
  unfold po_X11_best at hp
  obtain ⟨I, F⟩ := hp
  obtain ⟨h0, hWI, hHI, hIM, hLR, hYW, hYT, hYA, hYB, hPF, hPK⟩ := h
  exact ⟨⟨I, (WI_fr hWI F (by decide +kernel)), (HI_fr hHI F (by decide +kernel)), (IM_fr hIM F (by decide +kernel)), (LR_fr hLR F (by decide +kernel)), (YW_fr hYW F (by decide +kernel)), (YT_fr hYT F (by decide +kernel)), (YA_fr hYA F (by decide +kernel)), (YB_fr hYB F (by decide +kernel)), (PF_fr hPF F (by decide +kernel)), (PK_fr hPK F (by decide +kernel))⟩, F 131 2 (by decide +kernel), F 1 1 (by decide +kernel)⟩
theorem k_X11_best {τ u : Tau} {r : Int32} (hp : po_X11_best τ   r u) : (u 0 11).toInt = (τ 0 11).toInt ∧ (u 152 0).toInt = (τ 152 0).toInt ∧ (u 152 1).toInt = (τ 152 1).toInt := by
  unfold po_X11_best at hp
  have F := hp.2
  exact ⟨congrArg Int32.toInt (F 0 11 (by decide +kernel)), congrArg Int32.toInt (F 152 0 (by decide +kernel)), congrArg Int32.toInt (F 152 1 (by decide +kernel))⟩
theorem zk_X11_best {τ u : Tau} {r : Int32} (hp : po_X11_best τ   r u) : ZK mAll τ u := by
  unfold po_X11_best at hp
  have F := hp.2
  exact ⟨(fun _ => (fr_c F (by decide +kernel))), (fun _ => (fr_c F (by decide +kernel))), (fun _ => (fr_c F (by decide +kernel))), (fun _ => ⟨F 23 2 (by decide +kernel), F 23 3 (by decide +kernel), (fr_c F (by decide +kernel)), (fr_c F (by decide +kernel))⟩), (fun _ => ⟨F 133 0 (by decide +kernel), F 133 1 (by decide +kernel), (fr_c F (by decide +kernel))⟩), (fun _ => ⟨F 94 2 (by decide +kernel), F 94 3 (by decide +kernel), (fr_c F (by decide +kernel)), (fr_c F (by decide +kernel))⟩), (fun _ => ⟨F 112 2 (by decide +kernel), F 112 3 (by decide +kernel), (fr_c F (by decide +kernel)), (fr_c F (by decide +kernel))⟩), (fun _ => ⟨(fr_c F (by decide +kernel)), (fr_c F (by decide +kernel))⟩), (fun _ => ⟨F 152 0 (by decide +kernel), F 152 1 (by decide +kernel)⟩), (fun _ => F 0 12 (by decide +kernel)), (fun _ => F 131 15 (by decide +kernel))⟩
theorem j_X12_best {τ u : Tau} {r : Int32} (h : JJ τ) (hp : po_X12_best τ   r u) : JJ u ∧ u 1 1 = τ 1 1 ∧ u 131 2 = τ 131 2 := by
  unfold po_X12_best at hp
  obtain ⟨I, F⟩ := hp
  obtain ⟨h0, hWI, hHI, hIM, hLR, hYW, hYT, hYA, hYB, hPF, hPK⟩ := h
  exact ⟨⟨I, (WI_fr hWI F (by decide +kernel)), (HI_fr hHI F (by decide +kernel)), (IM_fr hIM F (by decide +kernel)), (LR_fr hLR F (by decide +kernel)), (YW_fr hYW F (by decide +kernel)), (YT_fr hYT F (by decide +kernel)), (YA_fr hYA F (by decide +kernel)), (YB_fr hYB F (by decide +kernel)), (PF_fr hPF F (by decide +kernel)), (PK_fr hPK F (by decide +kernel))⟩, F 1 1 (by decide +kernel), F 131 2 (by decide +kernel)⟩
theorem k_X12_best {τ u : Tau} {r : Int32} (hp : po_X12_best τ   r u) : (u 0 11).toInt = (τ 0 11).toInt ∧ (u 152 0).toInt = (τ 152 0).toInt ∧ (u 152 1).toInt = (τ 152 1).toInt := by
  unfold po_X12_best at hp
  have F := hp.2
  exact ⟨congrArg Int32.toInt (F 0 11 (by decide +kernel)), congrArg Int32.toInt (F 152 0 (by decide +kernel)), congrArg Int32.toInt (F 152 1 (by decide +kernel))⟩
theorem zk_X12_best {τ u : Tau} {r : Int32} (hp : po_X12_best τ   r u) : ZK mAll τ u := by
  unfold po_X12_best at hp
  have F := hp.2
  exact ⟨(fun _ => (fr_c F (by decide +kernel))), (fun _ => (fr_c F (by decide +kernel))), (fun _ => (fr_c F (by decide +kernel))), (fun _ => ⟨F 23 2 (by decide +kernel), F 23 3 (by decide +kernel), (fr_c F (by decide +kernel)), (fr_c F (by decide +kernel))⟩), (fun _ => ⟨F 133 0 (by decide +kernel), F 133 1 (by decide +kernel), (fr_c F (by decide +kernel))⟩), (fun _ => ⟨F 94 2 (by decide +kernel), F 94 3 (by decide +kernel), (fr_c F (by decide +kernel)), (fr_c F (by decide +kernel))⟩), (fun _ => ⟨F 112 2 (by decide +kernel), F 112 3 (by decide +kernel), (fr_c F (by decide +kernel)), (fr_c F (by decide +kernel))⟩), (fun _ => ⟨(fr_c F (by decide +kernel)), (fr_c F (by decide +kernel))⟩), (fun _ => ⟨F 152 0 (by decide +kernel), F 152 1 (by decide +kernel)⟩), (fun _ => F 0 12 (by decide +kernel)), (fun _ => F 131 15 (by decide +kernel))⟩
theorem j_X11_easy {τ u : Tau} {r : Int32} (h : JJ τ) (hp : po_X11_easy τ   r u) : JJ u ∧ u 131 2 = τ 131 2 ∧ u 1 1 = τ 1 1 := by
  unfold po_X11_easy at hp
  have e := hp
  subst e
  exact ⟨h, rfl, rfl⟩
theorem k_X11_easy {τ u : Tau} {r : Int32} (hp : po_X11_easy τ   r u) : (u 0 11).toInt = (τ 0 11).toInt ∧ (u 152 0).toInt = (τ 152 0).toInt ∧ (u 152 1).toInt = (τ 152 1).toInt := by
  unfold po_X11_easy at hp
  have e := hp
  subst e
  exact ⟨rfl, rfl, rfl⟩
theorem zk_X11_easy {τ u : Tau} {r : Int32} (hp : po_X11_easy τ   r u) : ZK mAll τ u := by
  unfold po_X11_easy at hp
  have e := hp
  subst e
  exact ZK_rfl
theorem j_X12_easy {τ u : Tau} {r : Int32} (h : JJ τ) (hp : po_X12_easy τ   r u) : JJ u ∧ u 1 1 = τ 1 1 ∧ u 131 2 = τ 131 2 := by
  unfold po_X12_easy at hp
  obtain ⟨I, F⟩ := hp
  obtain ⟨h0, hWI, hHI, hIM, hLR, hYW, hYT, hYA, hYB, hPF, hPK⟩ := h
  exact ⟨⟨I, (WI_fr hWI F (by decide +kernel)), (HI_fr hHI F (by decide +kernel)), (IM_fr hIM F (by decide +kernel)), (LR_fr hLR F (by decide +kernel)), (YW_fr hYW F (by decide +kernel)), (YT_fr hYT F (by decide +kernel)), (YA_fr hYA F (by decide +kernel)), (YB_fr hYB F (by decide +kernel)), (PF_fr hPF F (by decide +kernel)), (PK_fr hPK F (by decide +kernel))⟩, F 1 1 (by decide +kernel), F 131 2 (by decide +kernel)⟩
theorem k_X12_easy {τ u : Tau} {r : Int32} (hp : po_X12_easy τ   r u) : (u 0 11).toInt = (τ 0 11).toInt ∧ (u 152 0).toInt = (τ 152 0).toInt ∧ (u 152 1).toInt = (τ 152 1).toInt := by
  unfold po_X12_easy at hp
  have F := hp.2
  exact ⟨congrArg Int32.toInt (F 0 11 (by decide +kernel)), congrArg Int32.toInt (F 152 0 (by decide +kernel)), congrArg Int32.toInt (F 152 1 (by decide +kernel))⟩
theorem zk_X12_easy {τ u : Tau} {r : Int32} (hp : po_X12_easy τ   r u) : ZK mAll τ u := by
  unfold po_X12_easy at hp
  have F := hp.2
  exact ⟨(fun _ => (fr_c F (by decide +kernel))), (fun _ => (fr_c F (by decide +kernel))), (fun _ => (fr_c F (by decide +kernel))), (fun _ => ⟨F 23 2 (by decide +kernel), F 23 3 (by decide +kernel), (fr_c F (by decide +kernel)), (fr_c F (by decide +kernel))⟩), (fun _ => ⟨F 133 0 (by decide +kernel), F 133 1 (by decide +kernel), (fr_c F (by decide +kernel))⟩), (fun _ => ⟨F 94 2 (by decide +kernel), F 94 3 (by decide +kernel), (fr_c F (by decide +kernel)), (fr_c F (by decide +kernel))⟩), (fun _ => ⟨F 112 2 (by decide +kernel), F 112 3 (by decide +kernel), (fr_c F (by decide +kernel)), (fr_c F (by decide +kernel))⟩), (fun _ => ⟨(fr_c F (by decide +kernel)), (fr_c F (by decide +kernel))⟩), (fun _ => ⟨F 152 0 (by decide +kernel), F 152 1 (by decide +kernel)⟩), (fun _ => F 0 12 (by decide +kernel)), (fun _ => F 131 15 (by decide +kernel))⟩
theorem j_X11_changed {τ u : Tau} {a0 : Int32} {r : Int32} (h : JJ τ) (hp : po_X11_changed τ a0  r u) : JJ u ∧ u 131 2 = τ 131 2 ∧ u 1 1 = τ 1 1 := by
  unfold po_X11_changed at hp
  have e := hp
  subst e
  exact ⟨h, rfl, rfl⟩
theorem k_X11_changed {τ u : Tau} {a0 : Int32} {r : Int32} (hp : po_X11_changed τ a0  r u) : (u 0 11).toInt = (τ 0 11).toInt ∧ (u 152 0).toInt = (τ 152 0).toInt ∧ (u 152 1).toInt = (τ 152 1).toInt := by
  unfold po_X11_changed at hp
  have e := hp
  subst e
  exact ⟨rfl, rfl, rfl⟩
theorem zk_X11_changed {τ u : Tau} {a0 : Int32} {r : Int32} (hp : po_X11_changed τ a0  r u) : ZK mAll τ u := by
  unfold po_X11_changed at hp
  have e := hp
  subst e
  exact ZK_rfl
theorem j_X12_changed {τ u : Tau} {a0 : Int32} {r : Int32} (h : JJ τ) (hp : po_X12_changed τ a0  r u) : JJ u ∧ u 1 1 = τ 1 1 ∧ u 131 2 = τ 131 2 := by
  unfold po_X12_changed at hp
  obtain ⟨I, F⟩ := hp
  obtain ⟨h0, hWI, hHI, hIM, hLR, hYW, hYT, hYA, hYB, hPF, hPK⟩ := h
  exact ⟨⟨I, (WI_fr hWI F (by decide +kernel)), (HI_fr hHI F (by decide +kernel)), (IM_fr hIM F (by decide +kernel)), (LR_fr hLR F (by decide +kernel)), (YW_fr hYW F (by decide +kernel)), (YT_fr hYT F (by decide +kernel)), (YA_fr hYA F (by decide +kernel)), (YB_fr hYB F (by decide +kernel)), (PF_fr hPF F (by decide +kernel)), (PK_fr hPK F (by decide +kernel))⟩, F 1 1 (by decide +kernel), F 131 2 (by decide +kernel)⟩
theorem k_X12_changed {τ u : Tau} {a0 : Int32} {r : Int32} (hp : po_X12_changed τ a0  r u) : (u 0 11).toInt = (τ 0 11).toInt ∧ (u 152 0).toInt = (τ 152 0).toInt ∧ (u 152 1).toInt = (τ 152 1).toInt := by
  unfold po_X12_changed at hp
  have F := hp.2
  exact ⟨congrArg Int32.toInt (F 0 11 (by decide +kernel)), congrArg Int32.toInt (F 152 0 (by decide +kernel)), congrArg Int32.toInt (F 152 1 (by decide +kernel))⟩
theorem zk_X12_changed {τ u : Tau} {a0 : Int32} {r : Int32} (hp : po_X12_changed τ a0  r u) : ZK mAll τ u := by
  unfold po_X12_changed at hp
  have F := hp.2
  exact ⟨(fun _ => (fr_c F (by decide +kernel))), (fun _ => (fr_c F (by decide +kernel))), (fun _ => (fr_c F (by decide +kernel))), (fun _ => ⟨F 23 2 (by decide +kernel), F 23 3 (by decide +kernel), (fr_c F (by decide +kernel)), (fr_c F (by decide +kernel))⟩), (fun _ => ⟨F 133 0 (by decide +kernel), F 133 1 (by decide +kernel), (fr_c F (by decide +kernel))⟩), (fun _ => ⟨F 94 2 (by decide +kernel), F 94 3 (by decide +kernel), (fr_c F (by decide +kernel)), (fr_c F (by decide +kernel))⟩), (fun _ => ⟨F 112 2 (by decide +kernel), F 112 3 (by decide +kernel), (fr_c F (by decide +kernel)), (fr_c F (by decide +kernel))⟩), (fun _ => ⟨(fr_c F (by decide +kernel)), (fr_c F (by decide +kernel))⟩), (fun _ => ⟨F 152 0 (by decide +kernel), F 152 1 (by decide +kernel)⟩), (fun _ => F 0 12 (by decide +kernel)), (fun _ => F 131 15 (by decide +kernel))⟩
theorem j_X11_fits {τ u : Tau} {a0 : Int32} {r : Int32} (h : JJ τ) (hp : po_X11_fits τ a0  r u) : JJ u ∧ u 131 2 = τ 131 2 ∧ ((u 1 1).toInt = 0) := by
  unfold po_X11_fits at hp
  obtain ⟨I, F, p2⟩ := hp
  obtain ⟨h0, hWI, hHI, hIM, hLR, hYW, hYT, hYA, hYB, hPF, hPK⟩ := h
  exact ⟨⟨I, (WI_fr hWI F (by decide +kernel)), (HI_fr hHI F (by decide +kernel)), (IM_fr hIM F (by decide +kernel)), (LR_fr hLR F (by decide +kernel)), (YW_fr hYW F (by decide +kernel)), (YT_fr hYT F (by decide +kernel)), (YA_fr hYA F (by decide +kernel)), (YB_fr hYB F (by decide +kernel)), (PF_fr hPF F (by decide +kernel)), (PK_fr hPK F (by decide +kernel))⟩, F 131 2 (by decide +kernel), p2⟩
theorem k_X11_fits {τ u : Tau} {a0 : Int32} {r : Int32} (hp : po_X11_fits τ a0  r u) : (u 0 11).toInt = (τ 0 11).toInt ∧ (u 152 0).toInt = (τ 152 0).toInt ∧ (u 152 1).toInt = (τ 152 1).toInt := by
  unfold po_X11_fits at hp
  have F := hp.2.1
  exact ⟨congrArg Int32.toInt (F 0 11 (by decide +kernel)), congrArg Int32.toInt (F 152 0 (by decide +kernel)), congrArg Int32.toInt (F 152 1 (by decide +kernel))⟩
theorem zk_X11_fits {τ u : Tau} {a0 : Int32} {r : Int32} (hp : po_X11_fits τ a0  r u) : ZK mAll τ u := by
  unfold po_X11_fits at hp
  have F := hp.2.1
  exact ⟨(fun _ => (fr_c F (by decide +kernel))), (fun _ => (fr_c F (by decide +kernel))), (fun _ => (fr_c F (by decide +kernel))), (fun _ => ⟨F 23 2 (by decide +kernel), F 23 3 (by decide +kernel), (fr_c F (by decide +kernel)), (fr_c F (by decide +kernel))⟩), (fun _ => ⟨F 133 0 (by decide +kernel), F 133 1 (by decide +kernel), (fr_c F (by decide +kernel))⟩), (fun _ => ⟨F 94 2 (by decide +kernel), F 94 3 (by decide +kernel), (fr_c F (by decide +kernel)), (fr_c F (by decide +kernel))⟩), (fun _ => ⟨F 112 2 (by decide +kernel), F 112 3 (by decide +kernel), (fr_c F (by decide +kernel)), (fr_c F (by decide +kernel))⟩), (fun _ => ⟨(fr_c F (by decide +kernel)), (fr_c F (by decide +kernel))⟩), (fun _ => ⟨F 152 0 (by decide +kernel), F 152 1 (by decide +kernel)⟩), (fun _ => F 0 12 (by decide +kernel)), (fun _ => F 131 15 (by decide +kernel))⟩
theorem j_X12_fits {τ u : Tau} {a0 : Int32} {r : Int32} (h : JJ τ) (hp : po_X12_fits τ a0  r u) : JJ u ∧ u 1 1 = τ 1 1 ∧ (R (0) (0) (u 131 2)) := by
  unfold po_X12_fits at hp
  obtain ⟨I, F, p2⟩ := hp
  obtain ⟨h0, hWI, hHI, hIM, hLR, hYW, hYT, hYA, hYB, hPF, hPK⟩ := h
  exact ⟨⟨I, (WI_fr hWI F (by decide +kernel)), (HI_fr hHI F (by decide +kernel)), (IM_fr hIM F (by decide +kernel)), (LR_fr hLR F (by decide +kernel)), (YW_fr hYW F (by decide +kernel)), (YT_fr hYT F (by decide +kernel)), (YA_fr hYA F (by decide +kernel)), (YB_fr hYB F (by decide +kernel)), (PF_fr hPF F (by decide +kernel)), (PK_fr hPK F (by decide +kernel))⟩, F 1 1 (by decide +kernel), p2⟩
theorem k_X12_fits {τ u : Tau} {a0 : Int32} {r : Int32} (hp : po_X12_fits τ a0  r u) : (u 0 11).toInt = (τ 0 11).toInt ∧ (u 152 0).toInt = (τ 152 0).toInt ∧ (u 152 1).toInt = (τ 152 1).toInt := by
  unfold po_X12_fits at hp
  have F := hp.2.1
  exact ⟨congrArg Int32.toInt (F 0 11 (by decide +kernel)), congrArg Int32.toInt (F 152 0 (by decide +kernel)), congrArg Int32.toInt (F 152 1 (by decide +kernel))⟩
theorem zk_X12_fits {τ u : Tau} {a0 : Int32} {r : Int32} (hp : po_X12_fits τ a0  r u) : ZK mAll τ u := by
  unfold po_X12_fits at hp
  have F := hp.2.1
  exact ⟨(fun _ => (fr_c F (by decide +kernel))), (fun _ => (fr_c F (by decide +kernel))), (fun _ => (fr_c F (by decide +kernel))), (fun _ => ⟨F 23 2 (by decide +kernel), F 23 3 (by decide +kernel), (fr_c F (by decide +kernel)), (fr_c F (by decide +kernel))⟩), (fun _ => ⟨F 133 0 (by decide +kernel), F 133 1 (by decide +kernel), (fr_c F (by decide +kernel))⟩), (fun _ => ⟨F 94 2 (by decide +kernel), F 94 3 (by decide +kernel), (fr_c F (by decide +kernel)), (fr_c F (by decide +kernel))⟩), (fun _ => ⟨F 112 2 (by decide +kernel), F 112 3 (by decide +kernel), (fr_c F (by decide +kernel)), (fr_c F (by decide +kernel))⟩), (fun _ => ⟨(fr_c F (by decide +kernel)), (fr_c F (by decide +kernel))⟩), (fun _ => ⟨F 152 0 (by decide +kernel), F 152 1 (by decide +kernel)⟩), (fun _ => F 0 12 (by decide +kernel)), (fun _ => F 131 15 (by decide +kernel))⟩
theorem j_X11_fit {τ u : Tau} {a0 : Int32} {r : Int32} (h : JJ τ) (hp : po_X11_fit τ a0  r u) : JJ u ∧ u 131 2 = τ 131 2 ∧ u 1 1 = τ 1 1 := by
  unfold po_X11_fit at hp
  have e := hp
  subst e
  exact ⟨h, rfl, rfl⟩
theorem k_X11_fit {τ u : Tau} {a0 : Int32} {r : Int32} (hp : po_X11_fit τ a0  r u) : (u 0 11).toInt = (τ 0 11).toInt ∧ (u 152 0).toInt = (τ 152 0).toInt ∧ (u 152 1).toInt = (τ 152 1).toInt := by
  unfold po_X11_fit at hp
  have e := hp
  subst e
  exact ⟨rfl, rfl, rfl⟩
theorem zk_X11_fit {τ u : Tau} {a0 : Int32} {r : Int32} (hp : po_X11_fit τ a0  r u) : ZK mAll τ u := by
  unfold po_X11_fit at hp
  have e := hp
  subst e
  exact ZK_rfl
theorem j_X12_fit {τ u : Tau} {a0 : Int32} {r : Int32} (h : JJ τ) (hp : po_X12_fit τ a0  r u) : JJ u ∧ u 1 1 = τ 1 1 ∧ u 131 2 = τ 131 2 := by
  unfold po_X12_fit at hp
  obtain ⟨I, F⟩ := hp
  obtain ⟨h0, hWI, hHI, hIM, hLR, hYW, hYT, hYA, hYB, hPF, hPK⟩ := h
  exact ⟨⟨I, (WI_fr hWI F (by decide +kernel)), (HI_fr hHI F (by decide +kernel)), (IM_fr hIM F (by decide +kernel)), (LR_fr hLR F (by decide +kernel)), (YW_fr hYW F (by decide +kernel)), (YT_fr hYT F (by decide +kernel)), (YA_fr hYA F (by decide +kernel)), (YB_fr hYB F (by decide +kernel)), (PF_fr hPF F (by decide +kernel)), (PK_fr hPK F (by decide +kernel))⟩, F 1 1 (by decide +kernel), F 131 2 (by decide +kernel)⟩
theorem k_X12_fit {τ u : Tau} {a0 : Int32} {r : Int32} (hp : po_X12_fit τ a0  r u) : (u 0 11).toInt = (τ 0 11).toInt ∧ (u 152 0).toInt = (τ 152 0).toInt ∧ (u 152 1).toInt = (τ 152 1).toInt := by
  unfold po_X12_fit at hp
  have F := hp.2
  exact ⟨congrArg Int32.toInt (F 0 11 (by decide +kernel)), congrArg Int32.toInt (F 152 0 (by decide +kernel)), congrArg Int32.toInt (F 152 1 (by decide +kernel))⟩
theorem zk_X12_fit {τ u : Tau} {a0 : Int32} {r : Int32} (hp : po_X12_fit τ a0  r u) : ZK mAll τ u := by
  unfold po_X12_fit at hp
  have F := hp.2
  exact ⟨(fun _ => (fr_c F (by decide +kernel))), (fun _ => (fr_c F (by decide +kernel))), (fun _ => (fr_c F (by decide +kernel))), (fun _ => ⟨F 23 2 (by decide +kernel), F 23 3 (by decide +kernel), (fr_c F (by decide +kernel)), (fr_c F (by decide +kernel))⟩), (fun _ => ⟨F 133 0 (by decide +kernel), F 133 1 (by decide +kernel), (fr_c F (by decide +kernel))⟩), (fun _ => ⟨F 94 2 (by decide +kernel), F 94 3 (by decide +kernel), (fr_c F (by decide +kernel)), (fr_c F (by decide +kernel))⟩), (fun _ => ⟨F 112 2 (by decide +kernel), F 112 3 (by decide +kernel), (fr_c F (by decide +kernel)), (fr_c F (by decide +kernel))⟩), (fun _ => ⟨(fr_c F (by decide +kernel)), (fr_c F (by decide +kernel))⟩), (fun _ => ⟨F 152 0 (by decide +kernel), F 152 1 (by decide +kernel)⟩), (fun _ => F 0 12 (by decide +kernel)), (fun _ => F 131 15 (by decide +kernel))⟩
theorem j_X11_couples {τ u : Tau} {r : Int32} (h : JJ τ) (hp : po_X11_couples τ   r u) : JJ u ∧ u 131 2 = τ 131 2 ∧ u 1 1 = τ 1 1 := by
  unfold po_X11_couples at hp
  obtain ⟨I, F⟩ := hp
  obtain ⟨h0, hWI, hHI, hIM, hLR, hYW, hYT, hYA, hYB, hPF, hPK⟩ := h
  exact ⟨⟨I, (WI_fr hWI F (by decide +kernel)), (HI_fr hHI F (by decide +kernel)), (IM_fr hIM F (by decide +kernel)), (LR_fr hLR F (by decide +kernel)), (YW_fr hYW F (by decide +kernel)), (YT_fr hYT F (by decide +kernel)), (YA_fr hYA F (by decide +kernel)), (YB_fr hYB F (by decide +kernel)), (PF_fr hPF F (by decide +kernel)), (PK_fr hPK F (by decide +kernel))⟩, F 131 2 (by decide +kernel), F 1 1 (by decide +kernel)⟩
theorem k_X11_couples {τ u : Tau} {r : Int32} (hp : po_X11_couples τ   r u) : (u 0 11).toInt = (τ 0 11).toInt ∧ (u 152 0).toInt = (τ 152 0).toInt ∧ (u 152 1).toInt = (τ 152 1).toInt := by
  unfold po_X11_couples at hp
  have F := hp.2
  exact ⟨congrArg Int32.toInt (F 0 11 (by decide +kernel)), congrArg Int32.toInt (F 152 0 (by decide +kernel)), congrArg Int32.toInt (F 152 1 (by decide +kernel))⟩
theorem zk_X11_couples {τ u : Tau} {r : Int32} (hp : po_X11_couples τ   r u) : ZK mAll τ u := by
  unfold po_X11_couples at hp
  have F := hp.2
  exact ⟨(fun _ => (fr_c F (by decide +kernel))), (fun _ => (fr_c F (by decide +kernel))), (fun _ => (fr_c F (by decide +kernel))), (fun _ => ⟨F 23 2 (by decide +kernel), F 23 3 (by decide +kernel), (fr_c F (by decide +kernel)), (fr_c F (by decide +kernel))⟩), (fun _ => ⟨F 133 0 (by decide +kernel), F 133 1 (by decide +kernel), (fr_c F (by decide +kernel))⟩), (fun _ => ⟨F 94 2 (by decide +kernel), F 94 3 (by decide +kernel), (fr_c F (by decide +kernel)), (fr_c F (by decide +kernel))⟩), (fun _ => ⟨F 112 2 (by decide +kernel), F 112 3 (by decide +kernel), (fr_c F (by decide +kernel)), (fr_c F (by decide +kernel))⟩), (fun _ => ⟨(fr_c F (by decide +kernel)), (fr_c F (by decide +kernel))⟩), (fun _ => ⟨F 152 0 (by decide +kernel), F 152 1 (by decide +kernel)⟩), (fun _ => F 0 12 (by decide +kernel)), (fun _ => F 131 15 (by decide +kernel))⟩
theorem j_X12_couples {τ u : Tau} {r : Int32} (h : JJ τ) (hp : po_X12_couples τ   r u) : JJ u ∧ u 1 1 = τ 1 1 ∧ u 131 2 = τ 131 2 := by
  unfold po_X12_couples at hp
  obtain ⟨I, F⟩ := hp
  obtain ⟨h0, hWI, hHI, hIM, hLR, hYW, hYT, hYA, hYB, hPF, hPK⟩ := h
  exact ⟨⟨I, (WI_fr hWI F (by decide +kernel)), (HI_fr hHI F (by decide +kernel)), (IM_fr hIM F (by decide +kernel)), (LR_fr hLR F (by decide +kernel)), (YW_fr hYW F (by decide +kernel)), (YT_fr hYT F (by decide +kernel)), (YA_fr hYA F (by decide +kernel)), (YB_fr hYB F (by decide +kernel)), (PF_fr hPF F (by decide +kernel)), (PK_fr hPK F (by decide +kernel))⟩, F 1 1 (by decide +kernel), F 131 2 (by decide +kernel)⟩
theorem k_X12_couples {τ u : Tau} {r : Int32} (hp : po_X12_couples τ   r u) : (u 0 11).toInt = (τ 0 11).toInt ∧ (u 152 0).toInt = (τ 152 0).toInt ∧ (u 152 1).toInt = (τ 152 1).toInt := by
  unfold po_X12_couples at hp
  have F := hp.2
  exact ⟨congrArg Int32.toInt (F 0 11 (by decide +kernel)), congrArg Int32.toInt (F 152 0 (by decide +kernel)), congrArg Int32.toInt (F 152 1 (by decide +kernel))⟩
theorem zk_X12_couples {τ u : Tau} {r : Int32} (hp : po_X12_couples τ   r u) : ZK mAll τ u := by
  unfold po_X12_couples at hp
  have F := hp.2
  exact ⟨(fun _ => (fr_c F (by decide +kernel))), (fun _ => (fr_c F (by decide +kernel))), (fun _ => (fr_c F (by decide +kernel))), (fun _ => ⟨F 23 2 (by decide +kernel), F 23 3 (by decide +kernel), (fr_c F (by decide +kernel)), (fr_c F (by decide +kernel))⟩), (fun _ => ⟨F 133 0 (by decide +kernel), F 133 1 (by decide +kernel), (fr_c F (by decide +kernel))⟩), (fun _ => ⟨F 94 2 (by decide +kernel), F 94 3 (by decide +kernel), (fr_c F (by decide +kernel)), (fr_c F (by decide +kernel))⟩), (fun _ => ⟨F 112 2 (by decide +kernel), F 112 3 (by decide +kernel), (fr_c F (by decide +kernel)), (fr_c F (by decide +kernel))⟩), (fun _ => ⟨(fr_c F (by decide +kernel)), (fr_c F (by decide +kernel))⟩), (fun _ => ⟨F 152 0 (by decide +kernel), F 152 1 (by decide +kernel)⟩), (fun _ => F 0 12 (by decide +kernel)), (fun _ => F 131 15 (by decide +kernel))⟩
theorem j_X11_couple {τ u : Tau} {a0 : Int32} {r : Int32} (h : JJ τ) (hp : po_X11_couple τ a0  r u) : JJ u ∧ u 131 2 = τ 131 2 ∧ u 1 1 = τ 1 1 := by
  unfold po_X11_couple at hp
  have e := hp
  subst e
  exact ⟨h, rfl, rfl⟩
theorem k_X11_couple {τ u : Tau} {a0 : Int32} {r : Int32} (hp : po_X11_couple τ a0  r u) : (u 0 11).toInt = (τ 0 11).toInt ∧ (u 152 0).toInt = (τ 152 0).toInt ∧ (u 152 1).toInt = (τ 152 1).toInt := by
  unfold po_X11_couple at hp
  have e := hp
  subst e
  exact ⟨rfl, rfl, rfl⟩
theorem zk_X11_couple {τ u : Tau} {a0 : Int32} {r : Int32} (hp : po_X11_couple τ a0  r u) : ZK mAll τ u := by
  unfold po_X11_couple at hp
  have e := hp
  subst e
  exact ZK_rfl
theorem j_X12_couple {τ u : Tau} {a0 : Int32} {r : Int32} (h : JJ τ) (hp : po_X12_couple τ a0  r u) : JJ u ∧ u 1 1 = τ 1 1 ∧ u 131 2 = τ 131 2 := by
  unfold po_X12_couple at hp
  obtain ⟨I, F⟩ := hp
  obtain ⟨h0, hWI, hHI, hIM, hLR, hYW, hYT, hYA, hYB, hPF, hPK⟩ := h
  exact ⟨⟨I, (WI_fr hWI F (by decide +kernel)), (HI_fr hHI F (by decide +kernel)), (IM_fr hIM F (by decide +kernel)), (LR_fr hLR F (by decide +kernel)), (YW_fr hYW F (by decide +kernel)), (YT_fr hYT F (by decide +kernel)), (YA_fr hYA F (by decide +kernel)), (YB_fr hYB F (by decide +kernel)), (PF_fr hPF F (by decide +kernel)), (PK_fr hPK F (by decide +kernel))⟩, F 1 1 (by decide +kernel), F 131 2 (by decide +kernel)⟩
theorem k_X12_couple {τ u : Tau} {a0 : Int32} {r : Int32} (hp : po_X12_couple τ a0  r u) : (u 0 11).toInt = (τ 0 11).toInt ∧ (u 152 0).toInt = (τ 152 0).toInt ∧ (u 152 1).toInt = (τ 152 1).toInt := by
  unfold po_X12_couple at hp
  have F := hp.2
  exact ⟨congrArg Int32.toInt (F 0 11 (by decide +kernel)), congrArg Int32.toInt (F 152 0 (by decide +kernel)), congrArg Int32.toInt (F 152 1 (by decide +kernel))⟩
theorem zk_X12_couple {τ u : Tau} {a0 : Int32} {r : Int32} (hp : po_X12_couple τ a0  r u) : ZK mAll τ u := by
  unfold po_X12_couple at hp
  have F := hp.2
  exact ⟨(fun _ => (fr_c F (by decide +kernel))), (fun _ => (fr_c F (by decide +kernel))), (fun _ => (fr_c F (by decide +kernel))), (fun _ => ⟨F 23 2 (by decide +kernel), F 23 3 (by decide +kernel), (fr_c F (by decide +kernel)), (fr_c F (by decide +kernel))⟩), (fun _ => ⟨F 133 0 (by decide +kernel), F 133 1 (by decide +kernel), (fr_c F (by decide +kernel))⟩), (fun _ => ⟨F 94 2 (by decide +kernel), F 94 3 (by decide +kernel), (fr_c F (by decide +kernel)), (fr_c F (by decide +kernel))⟩), (fun _ => ⟨F 112 2 (by decide +kernel), F 112 3 (by decide +kernel), (fr_c F (by decide +kernel)), (fr_c F (by decide +kernel))⟩), (fun _ => ⟨(fr_c F (by decide +kernel)), (fr_c F (by decide +kernel))⟩), (fun _ => ⟨F 152 0 (by decide +kernel), F 152 1 (by decide +kernel)⟩), (fun _ => F 0 12 (by decide +kernel)), (fun _ => F 131 15 (by decide +kernel))⟩
theorem j_X11_doubters {τ u : Tau} {a0 : Int32} {r : Int32} (h : JJ τ) (hp : po_X11_doubters τ a0  r u) : JJ u ∧ u 131 2 = τ 131 2 ∧ u 1 1 = τ 1 1 := by
  unfold po_X11_doubters at hp
  obtain ⟨I, F⟩ := hp
  obtain ⟨h0, hWI, hHI, hIM, hLR, hYW, hYT, hYA, hYB, hPF, hPK⟩ := h
  exact ⟨⟨I, (WI_fr hWI F (by decide +kernel)), (HI_fr hHI F (by decide +kernel)), (IM_fr hIM F (by decide +kernel)), (LR_fr hLR F (by decide +kernel)), (YW_fr hYW F (by decide +kernel)), (YT_fr hYT F (by decide +kernel)), (YA_fr hYA F (by decide +kernel)), (YB_fr hYB F (by decide +kernel)), (PF_fr hPF F (by decide +kernel)), (PK_fr hPK F (by decide +kernel))⟩, F 131 2 (by decide +kernel), F 1 1 (by decide +kernel)⟩
theorem k_X11_doubters {τ u : Tau} {a0 : Int32} {r : Int32} (hp : po_X11_doubters τ a0  r u) : (u 0 11).toInt = (τ 0 11).toInt ∧ (u 152 0).toInt = (τ 152 0).toInt ∧ (u 152 1).toInt = (τ 152 1).toInt := by
  unfold po_X11_doubters at hp
  have F := hp.2
  exact ⟨congrArg Int32.toInt (F 0 11 (by decide +kernel)), congrArg Int32.toInt (F 152 0 (by decide +kernel)), congrArg Int32.toInt (F 152 1 (by decide +kernel))⟩
theorem zk_X11_doubters {τ u : Tau} {a0 : Int32} {r : Int32} (hp : po_X11_doubters τ a0  r u) : ZK mAll τ u := by
  unfold po_X11_doubters at hp
  have F := hp.2
  exact ⟨(fun _ => (fr_c F (by decide +kernel))), (fun _ => (fr_c F (by decide +kernel))), (fun _ => (fr_c F (by decide +kernel))), (fun _ => ⟨F 23 2 (by decide +kernel), F 23 3 (by decide +kernel), (fr_c F (by decide +kernel)), (fr_c F (by decide +kernel))⟩), (fun _ => ⟨F 133 0 (by decide +kernel), F 133 1 (by decide +kernel), (fr_c F (by decide +kernel))⟩), (fun _ => ⟨F 94 2 (by decide +kernel), F 94 3 (by decide +kernel), (fr_c F (by decide +kernel)), (fr_c F (by decide +kernel))⟩), (fun _ => ⟨F 112 2 (by decide +kernel), F 112 3 (by decide +kernel), (fr_c F (by decide +kernel)), (fr_c F (by decide +kernel))⟩), (fun _ => ⟨(fr_c F (by decide +kernel)), (fr_c F (by decide +kernel))⟩), (fun _ => ⟨F 152 0 (by decide +kernel), F 152 1 (by decide +kernel)⟩), (fun _ => F 0 12 (by decide +kernel)), (fun _ => F 131 15 (by decide +kernel))⟩
theorem j_X12_doubters {τ u : Tau} {a0 : Int32} {r : Int32} (h : JJ τ) (hp : po_X12_doubters τ a0  r u) : JJ u ∧ u 1 1 = τ 1 1 ∧ u 131 2 = τ 131 2 := by
  unfold po_X12_doubters at hp
  obtain ⟨I, F⟩ := hp
  obtain ⟨h0, hWI, hHI, hIM, hLR, hYW, hYT, hYA, hYB, hPF, hPK⟩ := h
  exact ⟨⟨I, (WI_fr hWI F (by decide +kernel)), (HI_fr hHI F (by decide +kernel)), (IM_fr hIM F (by decide +kernel)), (LR_fr hLR F (by decide +kernel)), (YW_fr hYW F (by decide +kernel)), (YT_fr hYT F (by decide +kernel)), (YA_fr hYA F (by decide +kernel)), (YB_fr hYB F (by decide +kernel)), (PF_fr hPF F (by decide +kernel)), (PK_fr hPK F (by decide +kernel))⟩, F 1 1 (by decide +kernel), F 131 2 (by decide +kernel)⟩
theorem k_X12_doubters {τ u : Tau} {a0 : Int32} {r : Int32} (hp : po_X12_doubters τ a0  r u) : (u 0 11).toInt = (τ 0 11).toInt ∧ (u 152 0).toInt = (τ 152 0).toInt ∧ (u 152 1).toInt = (τ 152 1).toInt := by
  unfold po_X12_doubters at hp
  have F := hp.2
  exact ⟨congrArg Int32.toInt (F 0 11 (by decide +kernel)), congrArg Int32.toInt (F 152 0 (by decide +kernel)), congrArg Int32.toInt (F 152 1 (by decide +kernel))⟩
theorem zk_X12_doubters {τ u : Tau} {a0 : Int32} {r : Int32} (hp : po_X12_doubters τ a0  r u) : ZK mAll τ u := by
  unfold po_X12_doubters at hp
  have F := hp.2
  exact ⟨(fun _ => (fr_c F (by decide +kernel))), (fun _ => (fr_c F (by decide +kernel))), (fun _ => (fr_c F (by decide +kernel))), (fun _ => ⟨F 23 2 (by decide +kernel), F 23 3 (by decide +kernel), (fr_c F (by decide +kernel)), (fr_c F (by decide +kernel))⟩), (fun _ => ⟨F 133 0 (by decide +kernel), F 133 1 (by decide +kernel), (fr_c F (by decide +kernel))⟩), (fun _ => ⟨F 94 2 (by decide +kernel), F 94 3 (by decide +kernel), (fr_c F (by decide +kernel)), (fr_c F (by decide +kernel))⟩), (fun _ => ⟨F 112 2 (by decide +kernel), F 112 3 (by decide +kernel), (fr_c F (by decide +kernel)), (fr_c F (by decide +kernel))⟩), (fun _ => ⟨(fr_c F (by decide +kernel)), (fr_c F (by decide +kernel))⟩), (fun _ => ⟨F 152 0 (by decide +kernel), F 152 1 (by decide +kernel)⟩), (fun _ => F 0 12 (by decide +kernel)), (fun _ => F 131 15 (by decide +kernel))⟩
theorem j_X12_jokes {τ u : Tau} {a0 a1 : Int32} {r : Int32} (h : JJ τ) (hp : po_X12_jokes τ a0 a1  r u) : JJ u ∧ u 1 1 = τ 1 1 ∧ u 131 2 = τ 131 2 := by
  unfold po_X12_jokes at hp
  obtain ⟨I, F⟩ := hp
  obtain ⟨h0, hWI, hHI, hIM, hLR, hYW, hYT, hYA, hYB, hPF, hPK⟩ := h
  exact ⟨⟨I, (WI_fr hWI F (by decide +kernel)), (HI_fr hHI F (by decide +kernel)), (IM_fr hIM F (by decide +kernel)), (LR_fr hLR F (by decide +kernel)), (YW_fr hYW F (by decide +kernel)), (YT_fr hYT F (by decide +kernel)), (YA_fr hYA F (by decide +kernel)), (YB_fr hYB F (by decide +kernel)), (PF_fr hPF F (by decide +kernel)), (PK_fr hPK F (by decide +kernel))⟩, F 1 1 (by decide +kernel), F 131 2 (by decide +kernel)⟩
theorem k_X12_jokes {τ u : Tau} {a0 a1 : Int32} {r : Int32} (hp : po_X12_jokes τ a0 a1  r u) : (u 0 11).toInt = (τ 0 11).toInt ∧ (u 152 0).toInt = (τ 152 0).toInt ∧ (u 152 1).toInt = (τ 152 1).toInt := by
  unfold po_X12_jokes at hp
  have F := hp.2
  exact ⟨congrArg Int32.toInt (F 0 11 (by decide +kernel)), congrArg Int32.toInt (F 152 0 (by decide +kernel)), congrArg Int32.toInt (F 152 1 (by decide +kernel))⟩
theorem zk_X12_jokes {τ u : Tau} {a0 a1 : Int32} {r : Int32} (hp : po_X12_jokes τ a0 a1  r u) : ZK mAll τ u := by
  unfold po_X12_jokes at hp
  have F := hp.2
  exact ⟨(fun _ => (fr_c F (by decide +kernel))), (fun _ => (fr_c F (by decide +kernel))), (fun _ => (fr_c F (by decide +kernel))), (fun _ => ⟨F 23 2 (by decide +kernel), F 23 3 (by decide +kernel), (fr_c F (by decide +kernel)), (fr_c F (by decide +kernel))⟩), (fun _ => ⟨F 133 0 (by decide +kernel), F 133 1 (by decide +kernel), (fr_c F (by decide +kernel))⟩), (fun _ => ⟨F 94 2 (by decide +kernel), F 94 3 (by decide +kernel), (fr_c F (by decide +kernel)), (fr_c F (by decide +kernel))⟩), (fun _ => ⟨F 112 2 (by decide +kernel), F 112 3 (by decide +kernel), (fr_c F (by decide +kernel)), (fr_c F (by decide +kernel))⟩), (fun _ => ⟨(fr_c F (by decide +kernel)), (fr_c F (by decide +kernel))⟩), (fun _ => ⟨F 152 0 (by decide +kernel), F 152 1 (by decide +kernel)⟩), (fun _ => F 0 12 (by decide +kernel)), (fun _ => F 131 15 (by decide +kernel))⟩
theorem j_X11_foes {τ u : Tau} {a0 : Int32} {r : Int32} (h : JJ τ) (hp : po_X11_foes τ a0  r u) : JJ u ∧ u 131 2 = τ 131 2 ∧ u 1 1 = τ 1 1 := by
  unfold po_X11_foes at hp
  have e := hp
  subst e
  exact ⟨h, rfl, rfl⟩
theorem k_X11_foes {τ u : Tau} {a0 : Int32} {r : Int32} (hp : po_X11_foes τ a0  r u) : (u 0 11).toInt = (τ 0 11).toInt ∧ (u 152 0).toInt = (τ 152 0).toInt ∧ (u 152 1).toInt = (τ 152 1).toInt := by
  unfold po_X11_foes at hp
  have e := hp
  subst e
  exact ⟨rfl, rfl, rfl⟩
theorem zk_X11_foes {τ u : Tau} {a0 : Int32} {r : Int32} (hp : po_X11_foes τ a0  r u) : ZK mAll τ u := by
  unfold po_X11_foes at hp
  have e := hp
  subst e
  exact ZK_rfl
theorem j_X12_foes {τ u : Tau} {a0 : Int32} {r : Int32} (h : JJ τ) (hp : po_X12_foes τ a0  r u) : JJ u ∧ u 1 1 = τ 1 1 ∧ u 131 2 = τ 131 2 := by
  unfold po_X12_foes at hp
  obtain ⟨I, F⟩ := hp
  obtain ⟨h0, hWI, hHI, hIM, hLR, hYW, hYT, hYA, hYB, hPF, hPK⟩ := h
  exact ⟨⟨I, (WI_fr hWI F (by decide +kernel)), (HI_fr hHI F (by decide +kernel)), (IM_fr hIM F (by decide +kernel)), (LR_fr hLR F (by decide +kernel)), (YW_fr hYW F (by decide +kernel)), (YT_fr hYT F (by decide +kernel)), (YA_fr hYA F (by decide +kernel)), (YB_fr hYB F (by decide +kernel)), (PF_fr hPF F (by decide +kernel)), (PK_fr hPK F (by decide +kernel))⟩, F 1 1 (by decide +kernel), F 131 2 (by decide +kernel)⟩
theorem k_X12_foes {τ u : Tau} {a0 : Int32} {r : Int32} (hp : po_X12_foes τ a0  r u) : (u 0 11).toInt = (τ 0 11).toInt ∧ (u 152 0).toInt = (τ 152 0).toInt ∧ (u 152 1).toInt = (τ 152 1).toInt := by
  unfold po_X12_foes at hp
  have F := hp.2
  exact ⟨congrArg Int32.toInt (F 0 11 (by decide +kernel)), congrArg Int32.toInt (F 152 0 (by decide +kernel)), congrArg Int32.toInt (F 152 1 (by decide +kernel))⟩
theorem zk_X12_foes {τ u : Tau} {a0 : Int32} {r : Int32} (hp : po_X12_foes τ a0  r u) : ZK mAll τ u := by
  unfold po_X12_foes at hp
  have F := hp.2
  exact ⟨(fun _ => (fr_c F (by decide +kernel))), (fun _ => (fr_c F (by decide +kernel))), (fun _ => (fr_c F (by decide +kernel))), (fun _ => ⟨F 23 2 (by decide +kernel), F 23 3 (by decide +kernel), (fr_c F (by decide +kernel)), (fr_c F (by decide +kernel))⟩), (fun _ => ⟨F 133 0 (by decide +kernel), F 133 1 (by decide +kernel), (fr_c F (by decide +kernel))⟩), (fun _ => ⟨F 94 2 (by decide +kernel), F 94 3 (by decide +kernel), (fr_c F (by decide +kernel)), (fr_c F (by decide +kernel))⟩), (fun _ => ⟨F 112 2 (by decide +kernel), F 112 3 (by decide +kernel), (fr_c F (by decide +kernel)), (fr_c F (by decide +kernel))⟩), (fun _ => ⟨(fr_c F (by decide +kernel)), (fr_c F (by decide +kernel))⟩), (fun _ => ⟨F 152 0 (by decide +kernel), F 152 1 (by decide +kernel)⟩), (fun _ => F 0 12 (by decide +kernel)), (fun _ => F 131 15 (by decide +kernel))⟩
theorem j_X11_drawn {τ u : Tau} {a0 a1 : Int32} {r : Int32} (h : JJ τ) (hp : po_X11_drawn τ a0 a1  r u) : JJ u ∧ u 131 2 = τ 131 2 ∧ u 1 1 = τ 1 1 := by
  unfold po_X11_drawn at hp
  obtain ⟨I, F, p2, p3⟩ := hp
  obtain ⟨h0, hWI, hHI, hIM, hLR, hYW, hYT, hYA, hYB, hPF, hPK⟩ := h
  exact ⟨⟨I, p2, p3, (IM_fr hIM F (by decide +kernel)), (LR_fr hLR F (by decide +kernel)), (YW_fr hYW F (by decide +kernel)), (YT_fr hYT F (by decide +kernel)), (YA_fr hYA F (by decide +kernel)), (YB_fr hYB F (by decide +kernel)), (PF_fr hPF F (by decide +kernel)), (PK_fr hPK F (by decide +kernel))⟩, F 131 2 (by decide +kernel), F 1 1 (by decide +kernel)⟩
theorem k_X11_drawn {τ u : Tau} {a0 a1 : Int32} {r : Int32} (hp : po_X11_drawn τ a0 a1  r u) : (u 0 11).toInt = (τ 0 11).toInt ∧ (u 152 0).toInt = (τ 152 0).toInt ∧ (u 152 1).toInt = (τ 152 1).toInt := by
  unfold po_X11_drawn at hp
  have F := hp.2.1
  exact ⟨congrArg Int32.toInt (F 0 11 (by decide +kernel)), congrArg Int32.toInt (F 152 0 (by decide +kernel)), congrArg Int32.toInt (F 152 1 (by decide +kernel))⟩
theorem zk_X11_drawn {τ u : Tau} {a0 a1 : Int32} {r : Int32} (hp : po_X11_drawn τ a0 a1  r u) : ZK mAll τ u := by
  unfold po_X11_drawn at hp
  have F := hp.2.1
  exact ⟨(fun _ => (fr_c F (by decide +kernel))), (fun _ => (fr_c F (by decide +kernel))), (fun _ => (fr_c F (by decide +kernel))), (fun _ => ⟨F 23 2 (by decide +kernel), F 23 3 (by decide +kernel), (fr_c F (by decide +kernel)), (fr_c F (by decide +kernel))⟩), (fun _ => ⟨F 133 0 (by decide +kernel), F 133 1 (by decide +kernel), (fr_c F (by decide +kernel))⟩), (fun _ => ⟨F 94 2 (by decide +kernel), F 94 3 (by decide +kernel), (fr_c F (by decide +kernel)), (fr_c F (by decide +kernel))⟩), (fun _ => ⟨F 112 2 (by decide +kernel), F 112 3 (by decide +kernel), (fr_c F (by decide +kernel)), (fr_c F (by decide +kernel))⟩), (fun _ => ⟨(fr_c F (by decide +kernel)), (fr_c F (by decide +kernel))⟩), (fun _ => ⟨F 152 0 (by decide +kernel), F 152 1 (by decide +kernel)⟩), (fun _ => F 0 12 (by decide +kernel)), (fun _ => F 131 15 (by decide +kernel))⟩
theorem j_X12_drawn_x {τ u : Tau} {a0 a1 : Int32} {r : Int32} (h : JJ τ) (hp : po_X12_drawn_x τ a0 a1  r u) : JJ u ∧ u 1 1 = τ 1 1 ∧ u 131 2 = τ 131 2 := by
  unfold po_X12_drawn_x at hp
  obtain ⟨I, F⟩ := hp
  obtain ⟨h0, hWI, hHI, hIM, hLR, hYW, hYT, hYA, hYB, hPF, hPK⟩ := h
  exact ⟨⟨I, (WI_fr hWI F (by decide +kernel)), (HI_fr hHI F (by decide +kernel)), (IM_fr hIM F (by decide +kernel)), (LR_fr hLR F (by decide +kernel)), (YW_fr hYW F (by decide +kernel)), (YT_fr hYT F (by decide +kernel)), (YA_fr hYA F (by decide +kernel)), (YB_fr hYB F (by decide +kernel)), (PF_fr hPF F (by decide +kernel)), (PK_fr hPK F (by decide +kernel))⟩, F 1 1 (by decide +kernel), F 131 2 (by decide +kernel)⟩
theorem k_X12_drawn_x {τ u : Tau} {a0 a1 : Int32} {r : Int32} (hp : po_X12_drawn_x τ a0 a1  r u) : (u 0 11).toInt = (τ 0 11).toInt ∧ (u 152 0).toInt = (τ 152 0).toInt ∧ (u 152 1).toInt = (τ 152 1).toInt := by
  unfold po_X12_drawn_x at hp
  have F := hp.2
  exact ⟨congrArg Int32.toInt (F 0 11 (by decide +kernel)), congrArg Int32.toInt (F 152 0 (by decide +kernel)), congrArg Int32.toInt (F 152 1 (by decide +kernel))⟩
theorem zk_X12_drawn_x {τ u : Tau} {a0 a1 : Int32} {r : Int32} (hp : po_X12_drawn_x τ a0 a1  r u) : ZK mAll τ u := by
  unfold po_X12_drawn_x at hp
  have F := hp.2
  exact ⟨(fun _ => (fr_c F (by decide +kernel))), (fun _ => (fr_c F (by decide +kernel))), (fun _ => (fr_c F (by decide +kernel))), (fun _ => ⟨F 23 2 (by decide +kernel), F 23 3 (by decide +kernel), (fr_c F (by decide +kernel)), (fr_c F (by decide +kernel))⟩), (fun _ => ⟨F 133 0 (by decide +kernel), F 133 1 (by decide +kernel), (fr_c F (by decide +kernel))⟩), (fun _ => ⟨F 94 2 (by decide +kernel), F 94 3 (by decide +kernel), (fr_c F (by decide +kernel)), (fr_c F (by decide +kernel))⟩), (fun _ => ⟨F 112 2 (by decide +kernel), F 112 3 (by decide +kernel), (fr_c F (by decide +kernel)), (fr_c F (by decide +kernel))⟩), (fun _ => ⟨(fr_c F (by decide +kernel)), (fr_c F (by decide +kernel))⟩), (fun _ => ⟨F 152 0 (by decide +kernel), F 152 1 (by decide +kernel)⟩), (fun _ => F 0 12 (by decide +kernel)), (fun _ => F 131 15 (by decide +kernel))⟩
theorem j_X11_odds {τ u : Tau} {a0 a1 a2 : Int32} {r : Int32} (h : JJ τ) (hp : po_X11_odds τ a0 a1 a2  r u) : JJ u ∧ u 131 2 = τ 131 2 ∧ u 1 1 = τ 1 1 := by
  unfold po_X11_odds at hp
  obtain ⟨I, F, p2⟩ := hp
  obtain ⟨h0, hWI, hHI, hIM, hLR, hYW, hYT, hYA, hYB, hPF, hPK⟩ := h
  exact ⟨⟨I, p2, (HI_fr hHI F (by decide +kernel)), (IM_fr hIM F (by decide +kernel)), (LR_fr hLR F (by decide +kernel)), (YW_fr hYW F (by decide +kernel)), (YT_fr hYT F (by decide +kernel)), (YA_fr hYA F (by decide +kernel)), (YB_fr hYB F (by decide +kernel)), (PF_fr hPF F (by decide +kernel)), (PK_fr hPK F (by decide +kernel))⟩, F 131 2 (by decide +kernel), F 1 1 (by decide +kernel)⟩
theorem k_X11_odds {τ u : Tau} {a0 a1 a2 : Int32} {r : Int32} (hp : po_X11_odds τ a0 a1 a2  r u) : (u 0 11).toInt = (τ 0 11).toInt ∧ (u 152 0).toInt = (τ 152 0).toInt ∧ (u 152 1).toInt = (τ 152 1).toInt := by
  unfold po_X11_odds at hp
  have F := hp.2.1
  exact ⟨congrArg Int32.toInt (F 0 11 (by decide +kernel)), congrArg Int32.toInt (F 152 0 (by decide +kernel)), congrArg Int32.toInt (F 152 1 (by decide +kernel))⟩
theorem zk_X11_odds {τ u : Tau} {a0 a1 a2 : Int32} {r : Int32} (hp : po_X11_odds τ a0 a1 a2  r u) : ZK mAll τ u := by
  unfold po_X11_odds at hp
  have F := hp.2.1
  exact ⟨(fun _ => (fr_c F (by decide +kernel))), (fun _ => (fr_c F (by decide +kernel))), (fun _ => (fr_c F (by decide +kernel))), (fun _ => ⟨F 23 2 (by decide +kernel), F 23 3 (by decide +kernel), (fr_c F (by decide +kernel)), (fr_c F (by decide +kernel))⟩), (fun _ => ⟨F 133 0 (by decide +kernel), F 133 1 (by decide +kernel), (fr_c F (by decide +kernel))⟩), (fun _ => ⟨F 94 2 (by decide +kernel), F 94 3 (by decide +kernel), (fr_c F (by decide +kernel)), (fr_c F (by decide +kernel))⟩), (fun _ => ⟨F 112 2 (by decide +kernel), F 112 3 (by decide +kernel), (fr_c F (by decide +kernel)), (fr_c F (by decide +kernel))⟩), (fun _ => ⟨(fr_c F (by decide +kernel)), (fr_c F (by decide +kernel))⟩), (fun _ => ⟨F 152 0 (by decide +kernel), F 152 1 (by decide +kernel)⟩), (fun _ => F 0 12 (by decide +kernel)), (fun _ => F 131 15 (by decide +kernel))⟩
theorem j_X12_odds {τ u : Tau} {a0 a1 a2 : Int32} {r : Int32} (h : JJ τ) (hp : po_X12_odds τ a0 a1 a2  r u) : JJ u ∧ u 1 1 = τ 1 1 ∧ u 131 2 = τ 131 2 := by
  unfold po_X12_odds at hp
  obtain ⟨I, F⟩ := hp
  obtain ⟨h0, hWI, hHI, hIM, hLR, hYW, hYT, hYA, hYB, hPF, hPK⟩ := h
  exact ⟨⟨I, (WI_fr hWI F (by decide +kernel)), (HI_fr hHI F (by decide +kernel)), (IM_fr hIM F (by decide +kernel)), (LR_fr hLR F (by decide +kernel)), (YW_fr hYW F (by decide +kernel)), (YT_fr hYT F (by decide +kernel)), (YA_fr hYA F (by decide +kernel)), (YB_fr hYB F (by decide +kernel)), (PF_fr hPF F (by decide +kernel)), (PK_fr hPK F (by decide +kernel))⟩, F 1 1 (by decide +kernel), F 131 2 (by decide +kernel)⟩
theorem k_X12_odds {τ u : Tau} {a0 a1 a2 : Int32} {r : Int32} (hp : po_X12_odds τ a0 a1 a2  r u) : (u 0 11).toInt = (τ 0 11).toInt ∧ (u 152 0).toInt = (τ 152 0).toInt ∧ (u 152 1).toInt = (τ 152 1).toInt := by
  unfold po_X12_odds at hp
  have F := hp.2
  exact ⟨congrArg Int32.toInt (F 0 11 (by decide +kernel)), congrArg Int32.toInt (F 152 0 (by decide +kernel)), congrArg Int32.toInt (F 152 1 (by decide +kernel))⟩
theorem zk_X12_odds {τ u : Tau} {a0 a1 a2 : Int32} {r : Int32} (hp : po_X12_odds τ a0 a1 a2  r u) : ZK mAll τ u := by
  unfold po_X12_odds at hp
  have F := hp.2
  exact ⟨(fun _ => (fr_c F (by decide +kernel))), (fun _ => (fr_c F (by decide +kernel))), (fun _ => (fr_c F (by decide +kernel))), (fun _ => ⟨F 23 2 (by decide +kernel), F 23 3 (by decide +kernel), (fr_c F (by decide +kernel)), (fr_c F (by decide +kernel))⟩), (fun _ => ⟨F 133 0 (by decide +kernel), F 133 1 (by decide +kernel), (fr_c F (by decide +kernel))⟩), (fun _ => ⟨F 94 2 (by decide +kernel), F 94 3 (by decide +kernel), (fr_c F (by decide +kernel)), (fr_c F (by decide +kernel))⟩), (fun _ => ⟨F 112 2 (by decide +kernel), F 112 3 (by decide +kernel), (fr_c F (by decide +kernel)), (fr_c F (by decide +kernel))⟩), (fun _ => ⟨(fr_c F (by decide +kernel)), (fr_c F (by decide +kernel))⟩), (fun _ => ⟨F 152 0 (by decide +kernel), F 152 1 (by decide +kernel)⟩), (fun _ => F 0 12 (by decide +kernel)), (fun _ => F 131 15 (by decide +kernel))⟩
theorem j_X11_log_q {τ u : Tau} {a0 : Int32} {bb : Nat → Int} {nb : Nat} {an mn : List (List Int)} {r : Int32} (h : JJ τ) (hp : po_X11_log_q τ a0 bb nb an mn r u) : JJ u ∧ u 131 2 = τ 131 2 ∧ ((0 ≤ a0.toInt ∧ a0.toInt ≤ 1 → (u 1 1).toInt = 0)) ∧ ((a0.toInt < 0 ∨ 1 < a0.toInt → (u 1 1).toInt = (τ 1 1).toInt)) := by
  unfold po_X11_log_q at hp
  obtain ⟨I, F, p2, p3, p4, p5, p6, p7⟩ := hp
  obtain ⟨h0, hWI, hHI, hIM, hLR, hYW, hYT, hYA, hYB, hPF, hPK⟩ := h
  exact ⟨⟨I, p2, p3, (IM_fr hIM F (by decide +kernel)), p4, (YW_fr hYW F (by decide +kernel)), (YT_fr hYT F (by decide +kernel)), (YA_fr hYA F (by decide +kernel)), (YB_fr hYB F (by decide +kernel)), (PF_fr hPF F (by decide +kernel)), (PK_fr hPK F (by decide +kernel))⟩, F 131 2 (by decide +kernel), p5, p6⟩
theorem k_X11_log_q {τ u : Tau} {a0 : Int32} {bb : Nat → Int} {nb : Nat} {an mn : List (List Int)} {r : Int32} (hp : po_X11_log_q τ a0 bb nb an mn r u) : (u 0 11).toInt = (τ 0 11).toInt ∧ (u 152 0).toInt = (τ 152 0).toInt ∧ (u 152 1).toInt = (τ 152 1).toInt := by
  unfold po_X11_log_q at hp
  have F := hp.2.1
  exact ⟨congrArg Int32.toInt (F 0 11 (by decide +kernel)), congrArg Int32.toInt (F 152 0 (by decide +kernel)), congrArg Int32.toInt (F 152 1 (by decide +kernel))⟩
theorem zk_X11_log_q {τ u : Tau} {a0 : Int32} {bb : Nat → Int} {nb : Nat} {an mn : List (List Int)} {r : Int32} (hp : po_X11_log_q τ a0 bb nb an mn r u) : ZK (mBut [9]) τ u := by
  unfold po_X11_log_q at hp
  have F := hp.2.1
  exact ⟨(fun _ => (fr_c F (by decide +kernel))), (fun _ => (fr_c F (by decide +kernel))), (fun _ => (fr_c F (by decide +kernel))), (fun _ => ⟨F 23 2 (by decide +kernel), F 23 3 (by decide +kernel), (fr_c F (by decide +kernel)), (fr_c F (by decide +kernel))⟩), (fun _ => ⟨F 133 0 (by decide +kernel), F 133 1 (by decide +kernel), (fr_c F (by decide +kernel))⟩), (fun _ => ⟨F 94 2 (by decide +kernel), F 94 3 (by decide +kernel), (fr_c F (by decide +kernel)), (fr_c F (by decide +kernel))⟩), (fun _ => ⟨F 112 2 (by decide +kernel), F 112 3 (by decide +kernel), (fr_c F (by decide +kernel)), (fr_c F (by decide +kernel))⟩), (fun _ => ⟨(fr_c F (by decide +kernel)), (fr_c F (by decide +kernel))⟩), (fun _ => ⟨F 152 0 (by decide +kernel), F 152 1 (by decide +kernel)⟩), (fun h => absurd h (by decide)), (fun _ => F 131 15 (by decide +kernel))⟩
theorem j_X12_log_q {τ u : Tau} {a0 : Int32} {bb : Nat → Int} {nb : Nat} {an mn : List (List Int)} {r : Int32} (h : JJ τ) (hp : po_X12_log_q τ a0 bb nb an mn r u) : JJ u ∧ u 1 1 = τ 1 1 ∧ ((0 ≤ a0.toInt ∧ a0.toInt ≤ 1 → (u 131 2).toInt = 0)) ∧ ((a0.toInt < 0 ∨ 1 < a0.toInt → (u 131 2).toInt = (τ 131 2).toInt)) := by
  unfold po_X12_log_q at hp
  obtain ⟨I, F, p2, p3, p4⟩ := hp
  obtain ⟨h0, hWI, hHI, hIM, hLR, hYW, hYT, hYA, hYB, hPF, hPK⟩ := h
  exact ⟨⟨I, (WI_fr hWI F (by decide +kernel)), (HI_fr hHI F (by decide +kernel)), (IM_fr hIM F (by decide +kernel)), (LR_fr hLR F (by decide +kernel)), (YW_fr hYW F (by decide +kernel)), (YT_fr hYT F (by decide +kernel)), (YA_fr hYA F (by decide +kernel)), (YB_fr hYB F (by decide +kernel)), (PF_fr hPF F (by decide +kernel)), (PK_fr hPK F (by decide +kernel))⟩, F 1 1 (by decide +kernel), p2, p3⟩
theorem k_X12_log_q {τ u : Tau} {a0 : Int32} {bb : Nat → Int} {nb : Nat} {an mn : List (List Int)} {r : Int32} (hp : po_X12_log_q τ a0 bb nb an mn r u) : (u 0 11).toInt = (τ 0 11).toInt ∧ (u 152 0).toInt = (τ 152 0).toInt ∧ (u 152 1).toInt = (τ 152 1).toInt := by
  unfold po_X12_log_q at hp
  have F := hp.2.1
  exact ⟨congrArg Int32.toInt (F 0 11 (by decide +kernel)), congrArg Int32.toInt (F 152 0 (by decide +kernel)), congrArg Int32.toInt (F 152 1 (by decide +kernel))⟩
theorem zk_X12_log_q {τ u : Tau} {a0 : Int32} {bb : Nat → Int} {nb : Nat} {an mn : List (List Int)} {r : Int32} (hp : po_X12_log_q τ a0 bb nb an mn r u) : ZK (mBut [10]) τ u := by
  unfold po_X12_log_q at hp
  have F := hp.2.1
  exact ⟨(fun _ => (fr_c F (by decide +kernel))), (fun _ => (fr_c F (by decide +kernel))), (fun _ => (fr_c F (by decide +kernel))), (fun _ => ⟨F 23 2 (by decide +kernel), F 23 3 (by decide +kernel), (fr_c F (by decide +kernel)), (fr_c F (by decide +kernel))⟩), (fun _ => ⟨F 133 0 (by decide +kernel), F 133 1 (by decide +kernel), (fr_c F (by decide +kernel))⟩), (fun _ => ⟨F 94 2 (by decide +kernel), F 94 3 (by decide +kernel), (fr_c F (by decide +kernel)), (fr_c F (by decide +kernel))⟩), (fun _ => ⟨F 112 2 (by decide +kernel), F 112 3 (by decide +kernel), (fr_c F (by decide +kernel)), (fr_c F (by decide +kernel))⟩), (fun _ => ⟨(fr_c F (by decide +kernel)), (fr_c F (by decide +kernel))⟩), (fun _ => ⟨F 152 0 (by decide +kernel), F 152 1 (by decide +kernel)⟩), (fun _ => F 0 12 (by decide +kernel)), (fun h => absurd h (by decide))⟩
theorem j_X11_logged {τ u : Tau} {a0 : Int32} {r : Int32} (h : JJ τ) (hp : po_X11_logged τ a0  r u) : JJ u ∧ u 131 2 = τ 131 2 ∧ u 1 1 = τ 1 1 := by
  unfold po_X11_logged at hp
  have e := hp
  subst e
  exact ⟨h, rfl, rfl⟩
theorem k_X11_logged {τ u : Tau} {a0 : Int32} {r : Int32} (hp : po_X11_logged τ a0  r u) : (u 0 11).toInt = (τ 0 11).toInt ∧ (u 152 0).toInt = (τ 152 0).toInt ∧ (u 152 1).toInt = (τ 152 1).toInt := by
  unfold po_X11_logged at hp
  have e := hp
  subst e
  exact ⟨rfl, rfl, rfl⟩
theorem zk_X11_logged {τ u : Tau} {a0 : Int32} {r : Int32} (hp : po_X11_logged τ a0  r u) : ZK mAll τ u := by
  unfold po_X11_logged at hp
  have e := hp
  subst e
  exact ZK_rfl
theorem j_X12_logged {τ u : Tau} {a0 : Int32} {r : Int32} (h : JJ τ) (hp : po_X12_logged τ a0  r u) : JJ u ∧ u 1 1 = τ 1 1 ∧ u 131 2 = τ 131 2 := by
  unfold po_X12_logged at hp
  obtain ⟨I, F⟩ := hp
  obtain ⟨h0, hWI, hHI, hIM, hLR, hYW, hYT, hYA, hYB, hPF, hPK⟩ := h
  exact ⟨⟨I, (WI_fr hWI F (by decide +kernel)), (HI_fr hHI F (by decide +kernel)), (IM_fr hIM F (by decide +kernel)), (LR_fr hLR F (by decide +kernel)), (YW_fr hYW F (by decide +kernel)), (YT_fr hYT F (by decide +kernel)), (YA_fr hYA F (by decide +kernel)), (YB_fr hYB F (by decide +kernel)), (PF_fr hPF F (by decide +kernel)), (PK_fr hPK F (by decide +kernel))⟩, F 1 1 (by decide +kernel), F 131 2 (by decide +kernel)⟩
theorem k_X12_logged {τ u : Tau} {a0 : Int32} {r : Int32} (hp : po_X12_logged τ a0  r u) : (u 0 11).toInt = (τ 0 11).toInt ∧ (u 152 0).toInt = (τ 152 0).toInt ∧ (u 152 1).toInt = (τ 152 1).toInt := by
  unfold po_X12_logged at hp
  have F := hp.2
  exact ⟨congrArg Int32.toInt (F 0 11 (by decide +kernel)), congrArg Int32.toInt (F 152 0 (by decide +kernel)), congrArg Int32.toInt (F 152 1 (by decide +kernel))⟩
theorem zk_X12_logged {τ u : Tau} {a0 : Int32} {r : Int32} (hp : po_X12_logged τ a0  r u) : ZK mAll τ u := by
  unfold po_X12_logged at hp
  have F := hp.2
  exact ⟨(fun _ => (fr_c F (by decide +kernel))), (fun _ => (fr_c F (by decide +kernel))), (fun _ => (fr_c F (by decide +kernel))), (fun _ => ⟨F 23 2 (by decide +kernel), F 23 3 (by decide +kernel), (fr_c F (by decide +kernel)), (fr_c F (by decide +kernel))⟩), (fun _ => ⟨F 133 0 (by decide +kernel), F 133 1 (by decide +kernel), (fr_c F (by decide +kernel))⟩), (fun _ => ⟨F 94 2 (by decide +kernel), F 94 3 (by decide +kernel), (fr_c F (by decide +kernel)), (fr_c F (by decide +kernel))⟩), (fun _ => ⟨F 112 2 (by decide +kernel), F 112 3 (by decide +kernel), (fr_c F (by decide +kernel)), (fr_c F (by decide +kernel))⟩), (fun _ => ⟨(fr_c F (by decide +kernel)), (fr_c F (by decide +kernel))⟩), (fun _ => ⟨F 152 0 (by decide +kernel), F 152 1 (by decide +kernel)⟩), (fun _ => F 0 12 (by decide +kernel)), (fun _ => F 131 15 (by decide +kernel))⟩
theorem j_X11_sentence_q {τ u : Tau} {bb : Nat → Int} {nb : Nat} {an mn : List (List Int)} {r : Int32} (h : JJ τ) (hp : po_X11_sentence_q τ  bb nb an mn r u) : JJ u ∧ u 131 2 = τ 131 2 ∧ ((u 1 1).toInt = 0) := by
  unfold po_X11_sentence_q at hp
  obtain ⟨I, F, p2, p3, p4, p5⟩ := hp
  obtain ⟨h0, hWI, hHI, hIM, hLR, hYW, hYT, hYA, hYB, hPF, hPK⟩ := h
  exact ⟨⟨I, (WI_fr hWI F (by decide +kernel)), (HI_fr hHI F (by decide +kernel)), (IM_fr hIM F (by decide +kernel)), (LR_fr hLR F (by decide +kernel)), p3, p2, (YA_fr hYA F (by decide +kernel)), (YB_fr hYB F (by decide +kernel)), (PF_fr hPF F (by decide +kernel)), (PK_fr hPK F (by decide +kernel))⟩, F 131 2 (by decide +kernel), p4⟩
theorem k_X11_sentence_q {τ u : Tau} {bb : Nat → Int} {nb : Nat} {an mn : List (List Int)} {r : Int32} (hp : po_X11_sentence_q τ  bb nb an mn r u) : (u 0 11).toInt = (τ 0 11).toInt ∧ (u 152 0).toInt = (τ 152 0).toInt ∧ (u 152 1).toInt = (τ 152 1).toInt := by
  unfold po_X11_sentence_q at hp
  have F := hp.2.1
  exact ⟨congrArg Int32.toInt (F 0 11 (by decide +kernel)), congrArg Int32.toInt (F 152 0 (by decide +kernel)), congrArg Int32.toInt (F 152 1 (by decide +kernel))⟩
theorem zk_X11_sentence_q {τ u : Tau} {bb : Nat → Int} {nb : Nat} {an mn : List (List Int)} {r : Int32} (hp : po_X11_sentence_q τ  bb nb an mn r u) : ZK (mBut [9]) τ u := by
  unfold po_X11_sentence_q at hp
  have F := hp.2.1
  exact ⟨(fun _ => (fr_c F (by decide +kernel))), (fun _ => (fr_c F (by decide +kernel))), (fun _ => (fr_c F (by decide +kernel))), (fun _ => ⟨F 23 2 (by decide +kernel), F 23 3 (by decide +kernel), (fr_c F (by decide +kernel)), (fr_c F (by decide +kernel))⟩), (fun _ => ⟨F 133 0 (by decide +kernel), F 133 1 (by decide +kernel), (fr_c F (by decide +kernel))⟩), (fun _ => ⟨F 94 2 (by decide +kernel), F 94 3 (by decide +kernel), (fr_c F (by decide +kernel)), (fr_c F (by decide +kernel))⟩), (fun _ => ⟨F 112 2 (by decide +kernel), F 112 3 (by decide +kernel), (fr_c F (by decide +kernel)), (fr_c F (by decide +kernel))⟩), (fun _ => ⟨(fr_c F (by decide +kernel)), (fr_c F (by decide +kernel))⟩), (fun _ => ⟨F 152 0 (by decide +kernel), F 152 1 (by decide +kernel)⟩), (fun h => absurd h (by decide)), (fun _ => F 131 15 (by decide +kernel))⟩
theorem j_X12_sentence_s {τ u : Tau} {bb : Nat → Int} {nb : Nat} {an mn : List (List Int)} {r : Int32} (h : JJ τ) (hp : po_X12_sentence_s τ  bb nb an mn r u) : JJ u ∧ u 1 1 = τ 1 1 ∧ (R (0) (0) (u 131 2)) := by
  unfold po_X12_sentence_s at hp
  obtain ⟨I, F, p2, p3, p4, p5⟩ := hp
  obtain ⟨h0, hWI, hHI, hIM, hLR, hYW, hYT, hYA, hYB, hPF, hPK⟩ := h
  exact ⟨⟨I, (WI_fr hWI F (by decide +kernel)), (HI_fr hHI F (by decide +kernel)), (IM_fr hIM F (by decide +kernel)), (LR_fr hLR F (by decide +kernel)), (YW_fr hYW F (by decide +kernel)), (YT_fr hYT F (by decide +kernel)), (YA_fr hYA F (by decide +kernel)), (YB_fr hYB F (by decide +kernel)), p3, (PK_fr hPK F (by decide +kernel))⟩, F 1 1 (by decide +kernel), p2⟩
theorem k_X12_sentence_s {τ u : Tau} {bb : Nat → Int} {nb : Nat} {an mn : List (List Int)} {r : Int32} (hp : po_X12_sentence_s τ  bb nb an mn r u) : (u 0 11).toInt = (τ 0 11).toInt ∧ (u 152 0).toInt = (τ 152 0).toInt ∧ (u 152 1).toInt = (τ 152 1).toInt := by
  unfold po_X12_sentence_s at hp
  have F := hp.2.1
  exact ⟨congrArg Int32.toInt (F 0 11 (by decide +kernel)), congrArg Int32.toInt (F 152 0 (by decide +kernel)), congrArg Int32.toInt (F 152 1 (by decide +kernel))⟩
theorem zk_X12_sentence_s {τ u : Tau} {bb : Nat → Int} {nb : Nat} {an mn : List (List Int)} {r : Int32} (hp : po_X12_sentence_s τ  bb nb an mn r u) : ZK (mBut [10]) τ u := by
  unfold po_X12_sentence_s at hp
  have F := hp.2.1
  exact ⟨(fun _ => (fr_c F (by decide +kernel))), (fun _ => (fr_c F (by decide +kernel))), (fun _ => (fr_c F (by decide +kernel))), (fun _ => ⟨F 23 2 (by decide +kernel), F 23 3 (by decide +kernel), (fr_c F (by decide +kernel)), (fr_c F (by decide +kernel))⟩), (fun _ => ⟨hp.2.2.2.2.1 0 (by decide), hp.2.2.2.2.1 1 (by decide), (fr_c F (by decide +kernel))⟩), (fun _ => ⟨F 94 2 (by decide +kernel), F 94 3 (by decide +kernel), (fr_c F (by decide +kernel)), (fr_c F (by decide +kernel))⟩), (fun _ => ⟨F 112 2 (by decide +kernel), F 112 3 (by decide +kernel), (fr_c F (by decide +kernel)), (fr_c F (by decide +kernel))⟩), (fun _ => ⟨(fr_c F (by decide +kernel)), (fr_c F (by decide +kernel))⟩), (fun _ => ⟨F 152 0 (by decide +kernel), F 152 1 (by decide +kernel)⟩), (fun _ => F 0 12 (by decide +kernel)), (fun h => absurd h (by decide))⟩
theorem j_X11_said {τ u : Tau} {a0 : Int32} {r : Int32} (h : JJ τ) (hp : po_X11_said τ a0  r u) : JJ u ∧ u 131 2 = τ 131 2 ∧ u 1 1 = τ 1 1 := by
  unfold po_X11_said at hp
  obtain ⟨I, F⟩ := hp
  obtain ⟨h0, hWI, hHI, hIM, hLR, hYW, hYT, hYA, hYB, hPF, hPK⟩ := h
  exact ⟨⟨I, (WI_fr hWI F (by decide +kernel)), (HI_fr hHI F (by decide +kernel)), (IM_fr hIM F (by decide +kernel)), (LR_fr hLR F (by decide +kernel)), (YW_fr hYW F (by decide +kernel)), (YT_fr hYT F (by decide +kernel)), (YA_fr hYA F (by decide +kernel)), (YB_fr hYB F (by decide +kernel)), (PF_fr hPF F (by decide +kernel)), (PK_fr hPK F (by decide +kernel))⟩, F 131 2 (by decide +kernel), F 1 1 (by decide +kernel)⟩
theorem k_X11_said {τ u : Tau} {a0 : Int32} {r : Int32} (hp : po_X11_said τ a0  r u) : (u 0 11).toInt = (τ 0 11).toInt ∧ (u 152 0).toInt = (τ 152 0).toInt ∧ (u 152 1).toInt = (τ 152 1).toInt := by
  unfold po_X11_said at hp
  have F := hp.2
  exact ⟨congrArg Int32.toInt (F 0 11 (by decide +kernel)), congrArg Int32.toInt (F 152 0 (by decide +kernel)), congrArg Int32.toInt (F 152 1 (by decide +kernel))⟩
theorem zk_X11_said {τ u : Tau} {a0 : Int32} {r : Int32} (hp : po_X11_said τ a0  r u) : ZK mAll τ u := by
  unfold po_X11_said at hp
  have F := hp.2
  exact ⟨(fun _ => (fr_c F (by decide +kernel))), (fun _ => (fr_c F (by decide +kernel))), (fun _ => (fr_c F (by decide +kernel))), (fun _ => ⟨F 23 2 (by decide +kernel), F 23 3 (by decide +kernel), (fr_c F (by decide +kernel)), (fr_c F (by decide +kernel))⟩), (fun _ => ⟨F 133 0 (by decide +kernel), F 133 1 (by decide +kernel), (fr_c F (by decide +kernel))⟩), (fun _ => ⟨F 94 2 (by decide +kernel), F 94 3 (by decide +kernel), (fr_c F (by decide +kernel)), (fr_c F (by decide +kernel))⟩), (fun _ => ⟨F 112 2 (by decide +kernel), F 112 3 (by decide +kernel), (fr_c F (by decide +kernel)), (fr_c F (by decide +kernel))⟩), (fun _ => ⟨(fr_c F (by decide +kernel)), (fr_c F (by decide +kernel))⟩), (fun _ => ⟨F 152 0 (by decide +kernel), F 152 1 (by decide +kernel)⟩), (fun _ => F 0 12 (by decide +kernel)), (fun _ => F 131 15 (by decide +kernel))⟩
theorem j_X12_said {τ u : Tau} {a0 : Int32} {r : Int32} (h : JJ τ) (hp : po_X12_said τ a0  r u) : JJ u ∧ u 1 1 = τ 1 1 ∧ u 131 2 = τ 131 2 := by
  unfold po_X12_said at hp
  obtain ⟨I, F⟩ := hp
  obtain ⟨h0, hWI, hHI, hIM, hLR, hYW, hYT, hYA, hYB, hPF, hPK⟩ := h
  exact ⟨⟨I, (WI_fr hWI F (by decide +kernel)), (HI_fr hHI F (by decide +kernel)), (IM_fr hIM F (by decide +kernel)), (LR_fr hLR F (by decide +kernel)), (YW_fr hYW F (by decide +kernel)), (YT_fr hYT F (by decide +kernel)), (YA_fr hYA F (by decide +kernel)), (YB_fr hYB F (by decide +kernel)), (PF_fr hPF F (by decide +kernel)), (PK_fr hPK F (by decide +kernel))⟩, F 1 1 (by decide +kernel), F 131 2 (by decide +kernel)⟩
theorem k_X12_said {τ u : Tau} {a0 : Int32} {r : Int32} (hp : po_X12_said τ a0  r u) : (u 0 11).toInt = (τ 0 11).toInt ∧ (u 152 0).toInt = (τ 152 0).toInt ∧ (u 152 1).toInt = (τ 152 1).toInt := by
  unfold po_X12_said at hp
  have F := hp.2
  exact ⟨congrArg Int32.toInt (F 0 11 (by decide +kernel)), congrArg Int32.toInt (F 152 0 (by decide +kernel)), congrArg Int32.toInt (F 152 1 (by decide +kernel))⟩
theorem zk_X12_said {τ u : Tau} {a0 : Int32} {r : Int32} (hp : po_X12_said τ a0  r u) : ZK mAll τ u := by
  unfold po_X12_said at hp
  have F := hp.2
  exact ⟨(fun _ => (fr_c F (by decide +kernel))), (fun _ => (fr_c F (by decide +kernel))), (fun _ => (fr_c F (by decide +kernel))), (fun _ => ⟨F 23 2 (by decide +kernel), F 23 3 (by decide +kernel), (fr_c F (by decide +kernel)), (fr_c F (by decide +kernel))⟩), (fun _ => ⟨F 133 0 (by decide +kernel), F 133 1 (by decide +kernel), (fr_c F (by decide +kernel))⟩), (fun _ => ⟨F 94 2 (by decide +kernel), F 94 3 (by decide +kernel), (fr_c F (by decide +kernel)), (fr_c F (by decide +kernel))⟩), (fun _ => ⟨F 112 2 (by decide +kernel), F 112 3 (by decide +kernel), (fr_c F (by decide +kernel)), (fr_c F (by decide +kernel))⟩), (fun _ => ⟨(fr_c F (by decide +kernel)), (fr_c F (by decide +kernel))⟩), (fun _ => ⟨F 152 0 (by decide +kernel), F 152 1 (by decide +kernel)⟩), (fun _ => F 0 12 (by decide +kernel)), (fun _ => F 131 15 (by decide +kernel))⟩
theorem j_X11_image_n {τ u : Tau} {a0 : Int32} {r : Int32} (h : JJ τ) (hp : po_X11_image_n τ a0  r u) : JJ u ∧ u 131 2 = τ 131 2 ∧ u 1 1 = τ 1 1 := by
  unfold po_X11_image_n at hp
  obtain ⟨I, F, p2, p3, p4, p5, p6, p7, p8, p9, p10, p11, p12, p13, p14⟩ := hp
  obtain ⟨h0, hWI, hHI, hIM, hLR, hYW, hYT, hYA, hYB, hPF, hPK⟩ := h
  exact ⟨⟨I, (WI_fr hWI F (by decide +kernel)), (HI_fr hHI F (by decide +kernel)), p2, (LR_fr hLR F (by decide +kernel)), (YW_fr hYW F (by decide +kernel)), (YT_fr hYT F (by decide +kernel)), p3, p4, (PF_fr hPF F (by decide +kernel)), (PK_fr hPK F (by decide +kernel))⟩, F 131 2 (by decide +kernel), F 1 1 (by decide +kernel)⟩
theorem k_X11_image_n {τ u : Tau} {a0 : Int32} {r : Int32} (hp : po_X11_image_n τ a0  r u) : (u 152 0).toInt = (τ 152 0).toInt ∧ (u 152 1).toInt = (τ 152 1).toInt := by
  unfold po_X11_image_n at hp
  have F := hp.2.1
  exact ⟨congrArg Int32.toInt (F 152 0 (by decide +kernel)), congrArg Int32.toInt (F 152 1 (by decide +kernel))⟩
theorem zk_X11_image_n {τ u : Tau} {a0 : Int32} {r : Int32} (hp : po_X11_image_n τ a0  r u) : ZK (mBut [5, 6]) τ u := by
  unfold po_X11_image_n at hp
  have F := hp.2.1
  exact ⟨(fun _ => (fr_c F (by decide +kernel))), (fun _ => (fr_c F (by decide +kernel))), (fun _ => (fr_c F (by decide +kernel))), (fun _ => ⟨F 23 2 (by decide +kernel), F 23 3 (by decide +kernel), (fr_c F (by decide +kernel)), (fr_c F (by decide +kernel))⟩), (fun _ => ⟨F 133 0 (by decide +kernel), F 133 1 (by decide +kernel), (fr_c F (by decide +kernel))⟩), (fun h => absurd h (by decide)), (fun h => absurd h (by decide)), (fun _ => ⟨(fr_c F (by decide +kernel)), (fr_c F (by decide +kernel))⟩), (fun _ => ⟨F 152 0 (by decide +kernel), F 152 1 (by decide +kernel)⟩), (fun _ => F 0 12 (by decide +kernel)), (fun _ => F 131 15 (by decide +kernel))⟩
theorem j_X12_image_n {τ u : Tau} {a0 : Int32} {r : Int32} (h : JJ τ) (hp : po_X12_image_n τ a0  r u) : JJ u ∧ u 1 1 = τ 1 1 ∧ u 131 2 = τ 131 2 := by
  unfold po_X12_image_n at hp
  obtain ⟨I, F, p2, p3, p4, p5, p6, p7, p8, p9⟩ := hp
  obtain ⟨h0, hWI, hHI, hIM, hLR, hYW, hYT, hYA, hYB, hPF, hPK⟩ := h
  exact ⟨⟨I, (WI_fr hWI F (by decide +kernel)), (HI_fr hHI F (by decide +kernel)), (IM_fr hIM F (by decide +kernel)), (LR_fr hLR F (by decide +kernel)), (YW_fr hYW F (by decide +kernel)), (YT_fr hYT F (by decide +kernel)), (YA_fr hYA F (by decide +kernel)), (YB_fr hYB F (by decide +kernel)), (PF_fr hPF F (by decide +kernel)), p3⟩, F 1 1 (by decide +kernel), F 131 2 (by decide +kernel)⟩
theorem k_X12_image_n {τ u : Tau} {a0 : Int32} {r : Int32} (hp : po_X12_image_n τ a0  r u) : (u 0 11).toInt = (τ 0 11).toInt := by
  unfold po_X12_image_n at hp
  have F := hp.2.1
  exact congrArg Int32.toInt (F 0 11 (by decide +kernel))
theorem zk_X12_image_n {τ u : Tau} {a0 : Int32} {r : Int32} (hp : po_X12_image_n τ a0  r u) : ZK (mBut [7, 8]) τ u := by
  unfold po_X12_image_n at hp
  have F := hp.2.1
  exact ⟨(fun _ => (fr_c F (by decide +kernel))), (fun _ => (fr_c F (by decide +kernel))), (fun _ => (fr_c F (by decide +kernel))), (fun _ => ⟨F 23 2 (by decide +kernel), F 23 3 (by decide +kernel), (fr_c F (by decide +kernel)), (fr_c F (by decide +kernel))⟩), (fun _ => ⟨F 133 0 (by decide +kernel), F 133 1 (by decide +kernel), (fr_c F (by decide +kernel))⟩), (fun _ => ⟨F 94 2 (by decide +kernel), F 94 3 (by decide +kernel), (fr_c F (by decide +kernel)), (fr_c F (by decide +kernel))⟩), (fun _ => ⟨F 112 2 (by decide +kernel), F 112 3 (by decide +kernel), (fr_c F (by decide +kernel)), (fr_c F (by decide +kernel))⟩), (fun h => absurd h (by decide)), (fun h => absurd h (by decide)), (fun _ => F 0 12 (by decide +kernel)), (fun _ => F 131 15 (by decide +kernel))⟩
theorem j_X11_restore_n {τ u : Tau} {a0 : Int32} {r : Int32} (h : JJ τ) (hp : po_X11_restore_n τ a0  r u) : JJ u ∧ u 131 2 = τ 131 2 ∧ u 1 1 = τ 1 1 := by
  unfold po_X11_restore_n at hp
  obtain ⟨I, F, p2, p3, p4, p5, p6, p7, p8, p9, p10⟩ := hp
  obtain ⟨h0, hWI, hHI, hIM, hLR, hYW, hYT, hYA, hYB, hPF, hPK⟩ := h
  exact ⟨⟨I, p2, p3, (IM_fr hIM F (by decide +kernel)), (LR_fr hLR F (by decide +kernel)), p4, (YT_fr hYT F (by decide +kernel)), (YA_fr hYA F (by decide +kernel)), (YB_fr hYB F (by decide +kernel)), (PF_fr hPF F (by decide +kernel)), (PK_fr hPK F (by decide +kernel))⟩, F 131 2 (by decide +kernel), F 1 1 (by decide +kernel)⟩
theorem k_X11_restore_n {τ u : Tau} {a0 : Int32} {r : Int32} (hp : po_X11_restore_n τ a0  r u) : (u 0 11).toInt = (τ 0 11).toInt ∧ (u 152 0).toInt = (τ 152 0).toInt ∧ (u 152 1).toInt = (τ 152 1).toInt := by
  unfold po_X11_restore_n at hp
  have F := hp.2.1
  exact ⟨congrArg Int32.toInt (F 0 11 (by decide +kernel)), congrArg Int32.toInt (F 152 0 (by decide +kernel)), congrArg Int32.toInt (F 152 1 (by decide +kernel))⟩
theorem zk_X11_restore_n {τ u : Tau} {a0 : Int32} {r : Int32} (hp : po_X11_restore_n τ a0  r u) : ZK (mBut [3]) τ u := by
  unfold po_X11_restore_n at hp
  have F := hp.2.1
  exact ⟨(fun _ => (fr_c F (by decide +kernel))), (fun _ => (fr_c F (by decide +kernel))), (fun _ => (fr_c F (by decide +kernel))), (fun h => absurd h (by decide)), (fun _ => ⟨F 133 0 (by decide +kernel), F 133 1 (by decide +kernel), (fr_c F (by decide +kernel))⟩), (fun _ => ⟨F 94 2 (by decide +kernel), F 94 3 (by decide +kernel), (fr_c F (by decide +kernel)), (fr_c F (by decide +kernel))⟩), (fun _ => ⟨F 112 2 (by decide +kernel), F 112 3 (by decide +kernel), (fr_c F (by decide +kernel)), (fr_c F (by decide +kernel))⟩), (fun _ => ⟨(fr_c F (by decide +kernel)), (fr_c F (by decide +kernel))⟩), (fun _ => ⟨F 152 0 (by decide +kernel), F 152 1 (by decide +kernel)⟩), (fun _ => F 0 12 (by decide +kernel)), (fun _ => F 131 15 (by decide +kernel))⟩
theorem j_X12_restore_n {τ u : Tau} {a0 : Int32} {r : Int32} (h : JJ τ) (hp : po_X12_restore_n τ a0  r u) : JJ u ∧ u 1 1 = τ 1 1 ∧ u 131 2 = τ 131 2 := by
  unfold po_X12_restore_n at hp
  obtain ⟨I, F, p2, p3, p4, p5, p6, p7, p8⟩ := hp
  obtain ⟨h0, hWI, hHI, hIM, hLR, hYW, hYT, hYA, hYB, hPF, hPK⟩ := h
  exact ⟨⟨I, (WI_fr hWI F (by decide +kernel)), (HI_fr hHI F (by decide +kernel)), (IM_fr hIM F (by decide +kernel)), (LR_fr hLR F (by decide +kernel)), (YW_fr hYW F (by decide +kernel)), (YT_fr hYT F (by decide +kernel)), (YA_fr hYA F (by decide +kernel)), (YB_fr hYB F (by decide +kernel)), p3, (PK_fr hPK F (by decide +kernel))⟩, F 1 1 (by decide +kernel), F 131 2 (by decide +kernel)⟩
theorem k_X12_restore_n {τ u : Tau} {a0 : Int32} {r : Int32} (hp : po_X12_restore_n τ a0  r u) : (u 0 11).toInt = (τ 0 11).toInt ∧ (u 152 0).toInt = (τ 152 0).toInt ∧ (u 152 1).toInt = (τ 152 1).toInt := by
  unfold po_X12_restore_n at hp
  have F := hp.2.1
  exact ⟨congrArg Int32.toInt (F 0 11 (by decide +kernel)), congrArg Int32.toInt (F 152 0 (by decide +kernel)), congrArg Int32.toInt (F 152 1 (by decide +kernel))⟩
theorem zk_X12_restore_n {τ u : Tau} {a0 : Int32} {r : Int32} (hp : po_X12_restore_n τ a0  r u) : ZK (mBut [4]) τ u := by
  unfold po_X12_restore_n at hp
  have F := hp.2.1
  exact ⟨(fun _ => (fr_c F (by decide +kernel))), (fun _ => (fr_c F (by decide +kernel))), (fun _ => (fr_c F (by decide +kernel))), (fun _ => ⟨F 23 2 (by decide +kernel), F 23 3 (by decide +kernel), (fr_c F (by decide +kernel)), (fr_c F (by decide +kernel))⟩), (fun h => absurd h (by decide)), (fun _ => ⟨F 94 2 (by decide +kernel), F 94 3 (by decide +kernel), (fr_c F (by decide +kernel)), (fr_c F (by decide +kernel))⟩), (fun _ => ⟨F 112 2 (by decide +kernel), F 112 3 (by decide +kernel), (fr_c F (by decide +kernel)), (fr_c F (by decide +kernel))⟩), (fun _ => ⟨(fr_c F (by decide +kernel)), (fr_c F (by decide +kernel))⟩), (fun _ => ⟨F 152 0 (by decide +kernel), F 152 1 (by decide +kernel)⟩), (fun _ => F 0 12 (by decide +kernel)), (fun _ => F 131 15 (by decide +kernel))⟩
theorem j_X11_count_q {τ u : Tau} {a0 : Int32} {r : Int32} (h : JJ τ) (hp : po_X11_count_q τ a0  r u) : JJ u ∧ u 131 2 = τ 131 2 ∧ u 1 1 = τ 1 1 := by
  unfold po_X11_count_q at hp
  obtain ⟨e, _, _, _, _, _, _, _⟩ := hp
  subst e
  exact ⟨h, rfl, rfl⟩
theorem k_X11_count_q {τ u : Tau} {a0 : Int32} {r : Int32} (hp : po_X11_count_q τ a0  r u) : (u 0 11).toInt = (τ 0 11).toInt ∧ (u 152 0).toInt = (τ 152 0).toInt ∧ (u 152 1).toInt = (τ 152 1).toInt := by
  unfold po_X11_count_q at hp
  have e := hp.1
  subst e
  exact ⟨rfl, rfl, rfl⟩
theorem zk_X11_count_q {τ u : Tau} {a0 : Int32} {r : Int32} (hp : po_X11_count_q τ a0  r u) : ZK mAll τ u := by
  unfold po_X11_count_q at hp
  have e := hp.1
  subst e
  exact ZK_rfl
theorem j_X12_count_q {τ u : Tau} {a0 : Int32} {r : Int32} (h : JJ τ) (hp : po_X12_count_q τ a0  r u) : JJ u ∧ u 1 1 = τ 1 1 ∧ u 131 2 = τ 131 2 := by
  unfold po_X12_count_q at hp
  obtain ⟨I, F, p2, p3, p4⟩ := hp
  obtain ⟨h0, hWI, hHI, hIM, hLR, hYW, hYT, hYA, hYB, hPF, hPK⟩ := h
  exact ⟨⟨I, (WI_fr hWI F (by decide +kernel)), (HI_fr hHI F (by decide +kernel)), (IM_fr hIM F (by decide +kernel)), (LR_fr hLR F (by decide +kernel)), (YW_fr hYW F (by decide +kernel)), (YT_fr hYT F (by decide +kernel)), (YA_fr hYA F (by decide +kernel)), (YB_fr hYB F (by decide +kernel)), (PF_fr hPF F (by decide +kernel)), (PK_fr hPK F (by decide +kernel))⟩, F 1 1 (by decide +kernel), F 131 2 (by decide +kernel)⟩
theorem k_X12_count_q {τ u : Tau} {a0 : Int32} {r : Int32} (hp : po_X12_count_q τ a0  r u) : (u 0 11).toInt = (τ 0 11).toInt ∧ (u 152 0).toInt = (τ 152 0).toInt ∧ (u 152 1).toInt = (τ 152 1).toInt := by
  unfold po_X12_count_q at hp
  have F := hp.2.1
  exact ⟨congrArg Int32.toInt (F 0 11 (by decide +kernel)), congrArg Int32.toInt (F 152 0 (by decide +kernel)), congrArg Int32.toInt (F 152 1 (by decide +kernel))⟩
theorem zk_X12_count_q {τ u : Tau} {a0 : Int32} {r : Int32} (hp : po_X12_count_q τ a0  r u) : ZK mAll τ u := by
  unfold po_X12_count_q at hp
  have F := hp.2.1
  exact ⟨(fun _ => (fr_c F (by decide +kernel))), (fun _ => (fr_c F (by decide +kernel))), (fun _ => (fr_c F (by decide +kernel))), (fun _ => ⟨F 23 2 (by decide +kernel), F 23 3 (by decide +kernel), (fr_c F (by decide +kernel)), (fr_c F (by decide +kernel))⟩), (fun _ => ⟨F 133 0 (by decide +kernel), F 133 1 (by decide +kernel), (fr_c F (by decide +kernel))⟩), (fun _ => ⟨F 94 2 (by decide +kernel), F 94 3 (by decide +kernel), (fr_c F (by decide +kernel)), (fr_c F (by decide +kernel))⟩), (fun _ => ⟨F 112 2 (by decide +kernel), F 112 3 (by decide +kernel), (fr_c F (by decide +kernel)), (fr_c F (by decide +kernel))⟩), (fun _ => ⟨(fr_c F (by decide +kernel)), (fr_c F (by decide +kernel))⟩), (fun _ => ⟨F 152 0 (by decide +kernel), F 152 1 (by decide +kernel)⟩), (fun _ => F 0 12 (by decide +kernel)), (fun _ => F 131 15 (by decide +kernel))⟩
