/-! what both do with a LOG, as far as its faults go -/
def cnt10 (op : Nat → Bool) : Nat := bN (op 0) + bN (op 1) + bN (op 2) + bN (op 3) + bN (op 4) + bN (op 5) + bN (op 6) + bN (op 7) + bN (op 8) + bN (op 9)
theorem cnt10_le (op : Nat → Bool) : cnt10 op ≤ 10 := by
  have h0 := bN_le (op 0)
  have h1 := bN_le (op 1)
  have h2 := bN_le (op 2)
  have h3 := bN_le (op 3)
  have h4 := bN_le (op 4)
  have h5 := bN_le (op 5)
  have h6 := bN_le (op 6)
  have h7 := bN_le (op 7)
  have h8 := bN_le (op 8)
  have h9 := bN_le (op 9)
  unfold cnt10; omega
theorem cnt10_up {op : Nat → Bool} {i : Nat} (hi : i < 10) (h : ¬ op i = true) : cnt10 (fun j => op j || j == i) = cnt10 op + 1 := by
  unfold cnt10
  have e := bN_eq h
  rcases (show i = 0 ∨ i = 1 ∨ i = 2 ∨ i = 3 ∨ i = 4 ∨ i = 5 ∨ i = 6 ∨ i = 7 ∨ i = 8 ∨ i = 9 by omega) with rfl | rfl | rfl | rfl | rfl | rfl | rfl | rfl | rfl | rfl
  · rw [e, bN_ne 0 1 (by decide), bN_ne 0 2 (by decide), bN_ne 0 3 (by decide), bN_ne 0 4 (by decide), bN_ne 0 5 (by decide), bN_ne 0 6 (by decide), bN_ne 0 7 (by decide), bN_ne 0 8 (by decide), bN_ne 0 9 (by decide)]; omega
  · rw [e, bN_ne 1 0 (by decide), bN_ne 1 2 (by decide), bN_ne 1 3 (by decide), bN_ne 1 4 (by decide), bN_ne 1 5 (by decide), bN_ne 1 6 (by decide), bN_ne 1 7 (by decide), bN_ne 1 8 (by decide), bN_ne 1 9 (by decide)]; omega
  · rw [e, bN_ne 2 0 (by decide), bN_ne 2 1 (by decide), bN_ne 2 3 (by decide), bN_ne 2 4 (by decide), bN_ne 2 5 (by decide), bN_ne 2 6 (by decide), bN_ne 2 7 (by decide), bN_ne 2 8 (by decide), bN_ne 2 9 (by decide)]; omega
  · rw [e, bN_ne 3 0 (by decide), bN_ne 3 1 (by decide), bN_ne 3 2 (by decide), bN_ne 3 4 (by decide), bN_ne 3 5 (by decide), bN_ne 3 6 (by decide), bN_ne 3 7 (by decide), bN_ne 3 8 (by decide), bN_ne 3 9 (by decide)]; omega
  · rw [e, bN_ne 4 0 (by decide), bN_ne 4 1 (by decide), bN_ne 4 2 (by decide), bN_ne 4 3 (by decide), bN_ne 4 5 (by decide), bN_ne 4 6 (by decide), bN_ne 4 7 (by decide), bN_ne 4 8 (by decide), bN_ne 4 9 (by decide)]; omega
  · rw [e, bN_ne 5 0 (by decide), bN_ne 5 1 (by decide), bN_ne 5 2 (by decide), bN_ne 5 3 (by decide), bN_ne 5 4 (by decide), bN_ne 5 6 (by decide), bN_ne 5 7 (by decide), bN_ne 5 8 (by decide), bN_ne 5 9 (by decide)]; omega
  · rw [e, bN_ne 6 0 (by decide), bN_ne 6 1 (by decide), bN_ne 6 2 (by decide), bN_ne 6 3 (by decide), bN_ne 6 4 (by decide), bN_ne 6 5 (by decide), bN_ne 6 7 (by decide), bN_ne 6 8 (by decide), bN_ne 6 9 (by decide)]; omega
  · rw [e, bN_ne 7 0 (by decide), bN_ne 7 1 (by decide), bN_ne 7 2 (by decide), bN_ne 7 3 (by decide), bN_ne 7 4 (by decide), bN_ne 7 5 (by decide), bN_ne 7 6 (by decide), bN_ne 7 8 (by decide), bN_ne 7 9 (by decide)]; omega
  · rw [e, bN_ne 8 0 (by decide), bN_ne 8 1 (by decide), bN_ne 8 2 (by decide), bN_ne 8 3 (by decide), bN_ne 8 4 (by decide), bN_ne 8 5 (by decide), bN_ne 8 6 (by decide), bN_ne 8 7 (by decide), bN_ne 8 9 (by decide)]; omega
  · rw [e, bN_ne 9 0 (by decide), bN_ne 9 1 (by decide), bN_ne 9 2 (by decide), bN_ne 9 3 (by decide), bN_ne 9 4 (by decide), bN_ne 9 5 (by decide), bN_ne 9 6 (by decide), bN_ne 9 7 (by decide), bN_ne 9 8 (by decide)]; omega
theorem cnt10_0 : cnt10 (fun _ => false) = 0 := rfl
/-- the bits of a set of men -/
def BS (x : Int32) (op : Nat → Bool) : Prop := ∀ j, j < 10 → (kb x j ↔ op j = true)
theorem BS_0 {x : Int32} (h : x.toInt = 0) : BS x (fun _ => false) := fun j _ => by
  rw [show x = 0 from Int32.toInt_inj.mp h]
  exact ⟨fun h => absurd h (kb_0 j), fun h => by cases h⟩
theorem BS_or {x y z : Int32} {op : Nat → Bool} {i : Nat} (h : BS x op) (hz : z = x ||| ((1 : Int32) <<< (y &&& 31))) (hy : R 0 9 y) (hi : y.toInt = i) : BS z (fun j => op j || j == i) := fun j hj => by
  rw [hz, kb_or hy hj, h j hj, show y.toInt.toNat = i by omega, Bool.or_eq_true, beq_iff_eq]
theorem kb_ne {x : Int32} {j : Nat} (h : kb x j) : x.toInt ≠ 0 := fun e => by
  rw [show x = 0 from Int32.toInt_inj.mp e] at h
  exact kb_0 j h
theorem bN_0 {x : Bool} (h : ¬ x = true) : bN x = 0 := by
  cases x with
  | true => exact absurd rfl h
  | false => rfl
theorem BS_z {x : Int32} {op : Nat → Bool} (h : BS x op) (h0 : x.toInt = 0) : cnt10 op = 0 := by
  have g : ∀ j, j < 10 → bN (op j) = 0 := fun j hj => bN_0 (fun e => kb_ne ((h j hj).mpr e) h0)
  unfold cnt10
  rw [g 0 (by decide), g 1 (by decide), g 2 (by decide), g 3 (by decide), g 4 (by decide), g 5 (by decide), g 6 (by decide), g 7 (by decide), g 8 (by decide), g 9 (by decide)]
section LO
variable (b : Nat → Int) (n L : Nat) (an mn : List (List Int))
noncomputable def lCr : Nat → (Nat → Bool) → Tk → Rs Tk
  | 0, _, t => .inr t
  | m + 1, op, t => cif (0 < cnt10 op ∧ t.1 = 3 ∧ b t.2.1 = 59) (.inr t) (thn (sLook b mn t) (fun i => cif (op i = true) (bad 3 t) (lCr m (fun j => op j || j == i) (nx b n L t))))
noncomputable def lNm (l : List (List Int)) (t : Tk) : Rs Tk := thn (sLook b l t) (fun _ => .inr (nx b n L t))
noncomputable def lMd (t : Tk) : Rs Tk := thn (tYN b n L t) (fun g => thn (tNum b n L 0 9 g) (fun q => .inr q.2))
noncomputable def lSp (t : Tk) : Rs Tk := cif (¬ (isW b 11 t ∨ isW b 12 t)) (bad 1 t) (thn (lNm b n L an (nx b n L t)) (fun g => lMd b n L g))
noncomputable def sLg (t : Tk) (l : Nat) : Rs Tk :=
  cif (isW b 8 t) (cif (40 ≤ l) (bad 4 t) (lCr b n L mn 11 (fun _ => false) (nx b n L t)))
  (cif (isW b 9 t) (cif (40 ≤ l) (bad 4 t) (lNm b n L an (nx b n L t)))
  (cif (isW b 10 t) (cif (40 ≤ l) (bad 4 t) (lNm b n L mn (nx b n L t)))
  (thn (sLook b mn t) (fun _ => cif (40 ≤ l) (bad 4 t) (lSp b n L an (nx b n L t))))))
noncomputable def lRd : Nat → Tk → Nat → Rs Nat
  | 0, _, l => .inr l
  | m + 1, t, l => cif (t.1 = 0) (.inr l) (thn (sLg b n L an mn t l) (fun g => thn (tSgn b n L 59 g) (fun h => lRd m h (l + 1))))
noncomputable def sLo : Rs Nat := lRd b n 400 an mn 41 (lex b n 400 0) 0
end LO
section LP
variable {b : Nat → Int} {n L : Nat} {an mn : List (List Int)}
theorem lCr_e {m : Nat} {op : Nat → Bool} {t : Tk} (h : 0 < cnt10 op) (h3 : t.1 = 3 ∧ b t.2.1 = 59) : lCr b n L mn m op t = .inr t := by
  cases m with
  | zero => rfl
  | succ m => unfold lCr; rw [cif_pos ⟨h, h3.1, h3.2⟩]
theorem lCr_n {m : Nat} {op : Nat → Bool} {t : Tk} (h : ¬ (0 < cnt10 op ∧ t.1 = 3 ∧ b t.2.1 = 59)) : lCr b n L mn (m + 1) op t = thn (sLook b mn t) (fun i => cif (op i = true) (bad 3 t) (lCr b n L mn m (fun j => op j || j == i) (nx b n L t))) := by
  show cif _ _ _ = _; rw [cif_neg h]
theorem lCr_l {m : Nat} {op : Nat → Bool} {t : Tk} {q : Nat × Nat} (h : ¬ (0 < cnt10 op ∧ t.1 = 3 ∧ b t.2.1 = 59)) (e : sLook b mn t = .inl q) : lCr b n L mn (m + 1) op t = .inl q := by rw [lCr_n h]; exact thn_l e
theorem lCr_b {m : Nat} {op : Nat → Bool} {t : Tk} {i : Nat} (h : ¬ (0 < cnt10 op ∧ t.1 = 3 ∧ b t.2.1 = 59)) (e : sLook b mn t = .inr i) (ho : op i = true) : lCr b n L mn (m + 1) op t = bad 3 t := by rw [lCr_n h, thn_r e, cif_pos ho]
theorem lCr_r {m : Nat} {op : Nat → Bool} {t : Tk} {i : Nat} (h : ¬ (0 < cnt10 op ∧ t.1 = 3 ∧ b t.2.1 = 59)) (e : sLook b mn t = .inr i) (ho : ¬ op i = true) : lCr b n L mn (m + 1) op t = lCr b n L mn m (fun j => op j || j == i) (nx b n L t) := by rw [lCr_n h, thn_r e, cif_neg ho]
theorem lSp_b {t : Tk} (h : ¬ isW b 11 t) (h' : ¬ isW b 12 t) : lSp b n L an t = bad 1 t := by unfold lSp; rw [cif_pos (fun q => q.elim h h')]
theorem lSp_r {t : Tk} (h : isW b 11 t ∨ isW b 12 t) : lSp b n L an t = thn (lNm b n L an (nx b n L t)) (fun g => lMd b n L g) := by unfold lSp; rw [cif_neg (fun q => q h)]
theorem sLg_8 {t : Tk} {l : Nat} (h : isW b 8 t) : sLg b n L an mn t l = cif (40 ≤ l) (bad 4 t) (lCr b n L mn 11 (fun _ => false) (nx b n L t)) := by unfold sLg; rw [cif_pos h]
theorem sLg_9 {t : Tk} {l : Nat} (h8 : ¬ isW b 8 t) (h : isW b 9 t) : sLg b n L an mn t l = cif (40 ≤ l) (bad 4 t) (lNm b n L an (nx b n L t)) := by unfold sLg; rw [cif_neg h8, cif_pos h]
theorem sLg_10 {t : Tk} {l : Nat} (h8 : ¬ isW b 8 t) (h9 : ¬ isW b 9 t) (h : isW b 10 t) : sLg b n L an mn t l = cif (40 ≤ l) (bad 4 t) (lNm b n L mn (nx b n L t)) := by unfold sLg; rw [cif_neg h8, cif_neg h9, cif_pos h]
theorem sLg_m {t : Tk} {l : Nat} (h8 : ¬ isW b 8 t) (h9 : ¬ isW b 9 t) (h10 : ¬ isW b 10 t) : sLg b n L an mn t l = thn (sLook b mn t) (fun _ => cif (40 ≤ l) (bad 4 t) (lSp b n L an (nx b n L t))) := by unfold sLg; rw [cif_neg h8, cif_neg h9, cif_neg h10]
theorem lRd_e {m : Nat} {t : Tk} {l : Nat} (h : t.1 = 0) : lRd b n L an mn m t l = .inr l := by
  cases m with
  | zero => rfl
  | succ m => unfold lRd; rw [cif_pos h]
theorem lRd_n {m : Nat} {t : Tk} {l : Nat} (h : ¬ t.1 = 0) : lRd b n L an mn (m + 1) t l = thn (sLg b n L an mn t l) (fun g => thn (tSgn b n L 59 g) (fun h => lRd b n L an mn m h (l + 1))) := by
  show cif _ _ _ = _; rw [cif_neg h]
theorem lRd_l1 {m : Nat} {t : Tk} {l : Nat} {q : Nat × Nat} (h : ¬ t.1 = 0) (e : sLg b n L an mn t l = .inl q) : lRd b n L an mn (m + 1) t l = .inl q := by rw [lRd_n h]; exact thn_l e
theorem lRd_l2 {m : Nat} {t g : Tk} {l : Nat} {q : Nat × Nat} (h : ¬ t.1 = 0) (e : sLg b n L an mn t l = .inr g) (e2 : tSgn b n L 59 g = .inl q) : lRd b n L an mn (m + 1) t l = .inl q := by rw [lRd_n h, thn_r e]; exact thn_l e2
theorem lRd_r {m : Nat} {t g g' : Tk} {l : Nat} (h : ¬ t.1 = 0) (e : sLg b n L an mn t l = .inr g) (e2 : tSgn b n L 59 g = .inr g') : lRd b n L an mn (m + 1) t l = lRd b n L an mn m g' (l + 1) := by rw [lRd_n h, thn_r e, thn_r e2]
/-- a LINE begins with a WORD -/
theorem sLg_w {t g : Tk} {l : Nat} (e : sLg b n L an mn t l = .inr g) : t.1 = 1 := by
  by_cases h8 : isW b 8 t
  · exact h8.1
  by_cases h9 : isW b 9 t
  · exact h9.1
  by_cases h10 : isW b 10 t
  · exact h10.1
  rw [sLg_m h8 h9 h10] at e
  cases e2 : sLook b mn t with
  | inl q => rw [thn_l e2] at e; cases e
  | inr i => exact (sLook_n e2).1
/-- a LINE that is well is no 41st -/
theorem sLg_40 {t g : Tk} {l : Nat} (e : sLg b n L an mn t l = .inr g) : ¬ 40 ≤ l := by
  intro h
  by_cases h8 : isW b 8 t
  · rw [sLg_8 h8, cif_pos h] at e; cases e
  by_cases h9 : isW b 9 t
  · rw [sLg_9 h8 h9, cif_pos h] at e; cases e
  by_cases h10 : isW b 10 t
  · rw [sLg_10 h8 h9 h10, cif_pos h] at e; cases e
  rw [sLg_m h8 h9 h10] at e
  cases e2 : sLook b mn t with
  | inl q => rw [thn_l e2] at e; cases e
  | inr i => rw [thn_r e2, cif_pos h] at e; cases e
end LP
/-- the kind of a LOG's fault -/
def QL (x : Rs Nat) (f : Int) : Prop := (∀ q, x = .inl q → f = q.1) ∧ ∀ l, x = .inr l → f = 0
theorem QL_two {x : Rs Nat} {f f' : Int} (h : QL x f) (h' : QL x f') : f = f' := by
  cases x with
  | inl q => rw [h.1 q rfl, h'.1 q rfl]
  | inr l => rw [h.2 l rfl, h'.2 l rfl]
theorem QL_l {x : Rs Nat} {f : Int} {q : Nat × Nat} (e : x = .inl q) (h : f = q.1) : QL x f := by
  subst e; exact ⟨fun q' e => (by cases e; exact h), fun l e => (by cases e)⟩
theorem QL_r {x : Rs Nat} {f : Int} {l : Nat} (e : x = .inr l) (h : f = 0) : QL x f := by
  subst e; exact ⟨fun q e => (by cases e), fun l' e => (by cases e; exact h)⟩
theorem sLo_d {b : Nat → Int} {n : Nat} {an mn : List (List Int)} : sLo b n an mn = lRd b n 400 an mn 41 (lex b n 400 0) 0 := rfl
