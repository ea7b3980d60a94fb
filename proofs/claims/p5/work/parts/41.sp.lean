/-! the ways through what is said of a FERRY's text -/
section SP
variable {b : Nat → Int} {n : Nat} {f : FS} {t : Tk} {l : List (List Int)} {q : Nat × Nat}
theorem sSgn_b {c : Int} (h : ¬ (f.1.1 = 3 ∧ b f.1.2.1 = c)) : sSgn b n c f = .inl (1, f.1.2.1) := by unfold sSgn; rw [cif_neg h]; rfl
theorem sSgn_g {c : Int} (h : f.1.1 = 3 ∧ b f.1.2.1 = c) : sSgn b n c f = .inr (stp b n f) := by unfold sSgn; rw [cif_pos h]
theorem sNum_b1 {lo hi : Int} (h : f.1.1 ≠ 2) : sNum b n lo hi f = .inl (1, f.1.2.1) := by unfold sNum; rw [cif_pos h]; rfl
theorem sNum_b2 {lo hi : Int} (h : f.1.1 = 2) (h2 : nbr b f.1 < lo ∨ hi < nbr b f.1) : sNum b n lo hi f = .inl (2, f.1.2.1) := by unfold sNum; rw [cif_neg (fun h3 => h3 h), cif_pos h2]; rfl
theorem sNum_g {lo hi : Int} (h : f.1.1 = 2) (h2 : ¬ (nbr b f.1 < lo ∨ hi < nbr b f.1)) : sNum b n lo hi f = .inr (nbr b f.1, stp b n f) := by unfold sNum; rw [cif_neg (fun h3 => h3 h), cif_neg h2]
theorem sLook_b1 (h : ¬ isN b t) : sLook b l t = .inl (1, t.2.1) := by unfold sLook; rw [cif_pos h]; rfl
theorem sLook_b3 (h : isN b t) (h2 : fnd l (wrd b t) < 0) : sLook b l t = .inl (3, t.2.1) := by unfold sLook; rw [cif_neg (fun h3 => h3 h), cif_pos h2]; rfl
theorem sLook_g (h : isN b t) (h2 : ¬ fnd l (wrd b t) < 0) : sLook b l t = .inr (fnd l (wrd b t)).toNat := by unfold sLook; rw [cif_neg (fun h3 => h3 h), cif_neg h2]
theorem sNew_b1 (h : ¬ isN b f.1) : sNew b f = .inl (1, f.1.2.1) := by unfold sNew; rw [cif_pos h]; rfl
theorem sNew_b3 (h : isN b f.1) (h2 : 0 ≤ fnd (gan f.2) (wrd b f.1) ∨ 0 ≤ fnd (gmn f.2) (wrd b f.1)) : sNew b f = .inl (3, f.1.2.1) := by unfold sNew; rw [cif_neg (fun h3 => h3 h), cif_pos h2]; rfl
theorem sNew_g (h : isN b f.1) (h2 : ¬ (0 ≤ fnd (gan f.2) (wrd b f.1) ∨ 0 ≤ fnd (gmn f.2) (wrd b f.1))) : sNew b f = .inr () := by unfold sNew; rw [cif_neg (fun h3 => h3 h), cif_neg h2]
theorem sYN_b (h : ¬ (isW b 4 f.1 ∨ isW b 5 f.1)) : sYN b n f = .inl (1, f.1.2.1) := by unfold sYN; rw [cif_pos h]; rfl
theorem sYN_g (h : isW b 4 f.1 ∨ isW b 5 f.1) : sYN b n f = .inr (stp b n f) := by unfold sYN; rw [cif_neg (fun h3 => h3 h)]
theorem sSeats_b (h : gsT f.2 = true) : sSeats b n f = .inl (3, f.1.2.1) := by unfold sSeats; rw [cif_pos h]; rfl
theorem sSeats_l (h : ¬ gsT f.2 = true) (e : sNum b n 1 8 (stp b n (f.1, usT f.2 true)) = .inl q) : sSeats b n f = .inl q := by unfold sSeats; rw [cif_neg h, thn_l e]
theorem sSeats_r {v : Int × FS} (h : ¬ gsT f.2 = true) (e : sNum b n 1 8 (stp b n (f.1, usT f.2 true)) = .inr v) : sSeats b n f = .inr (v.2.1, use v.2.2 v.1) := by unfold sSeats; rw [cif_neg h, thn_r e]
theorem sSlack_b (h : gkT f.2 = true) : sSlack b n f = .inl (3, f.1.2.1) := by unfold sSlack; rw [cif_pos h]; rfl
theorem sSlack_l (h : ¬ gkT f.2 = true) (e : sNum b n 0 9 (stp b n (f.1, ukT f.2 true)) = .inl q) : sSlack b n f = .inl q := by unfold sSlack; rw [cif_neg h, thn_l e]
theorem sSlack_r {v : Int × FS} (h : ¬ gkT f.2 = true) (e : sNum b n 0 9 (stp b n (f.1, ukT f.2 true)) = .inr v) : sSlack b n f = .inr (v.2.1, usl v.2.2 v.1) := by unfold sSlack; rw [cif_neg h, thn_r e]
theorem sAsk_b (h : 9 ≤ (gan f.2).length) : sAsk b n f = .inl (4, f.1.2.1) := by unfold sAsk; rw [cif_pos h]; rfl
theorem sAsk_l (h : ¬ 9 ≤ (gan f.2).length) (e : sNew b (stp b n f) = .inl q) : sAsk b n f = .inl q := by unfold sAsk; rw [cif_neg h, thn_l e]
theorem sAsk_r {v : Unit} (h : ¬ 9 ≤ (gan f.2).length) (e : sNew b (stp b n f) = .inr v) : sAsk b n f = .inr (stp b n ((stp b n f).1, uan f.2 (wrd b (stp b n f).1))) := by unfold sAsk; rw [cif_neg h, thn_r e]
theorem sOp_l1 {op : Nat → Bool} (e : sLook b (gan f.2) f.1 = .inl q) : sOp b n op f = .inl q := by unfold sOp; rw [thn_l e]
theorem sOp_b {op : Nat → Bool} {i : Nat} (e : sLook b (gan f.2) f.1 = .inr i) (h : op i = true) : sOp b n op f = .inl (3, f.1.2.1) := by unfold sOp; rw [thn_r e, cif_pos h]; rfl
theorem sOp_l2 {op : Nat → Bool} {i : Nat} (e : sLook b (gan f.2) f.1 = .inr i) (h : ¬ op i = true) (e2 : sYN b n (stp b n f) = .inl q) : sOp b n op f = .inl q := by unfold sOp; rw [thn_r e, cif_neg h, thn_l e2]
theorem sOp_l3 {op : Nat → Bool} {i : Nat} {g : FS} (e : sLook b (gan f.2) f.1 = .inr i) (h : ¬ op i = true) (e2 : sYN b n (stp b n f) = .inr g) (e3 : sNum b n 1 9 g = .inl q) : sOp b n op f = .inl q := by unfold sOp; rw [thn_r e, cif_neg h, thn_r e2, thn_l e3]
theorem sOp_r {op : Nat → Bool} {i : Nat} {g : FS} {v : Int × FS} (e : sLook b (gan f.2) f.1 = .inr i) (h : ¬ op i = true) (e2 : sYN b n (stp b n f) = .inr g) (e3 : sNum b n 1 9 g = .inr v) : sOp b n op f = .inr (i, v.2) := by unfold sOp; rw [thn_r e, cif_neg h, thn_r e2, thn_r e3]
theorem sOps_e {op : Nat → Bool} {m : Nat} (h : f.1.1 = 3 ∧ b f.1.2.1 = 59) : sOps b n m op f = .inr f := by cases m with | zero => rfl | succ m => rw [sOps, cif_pos h]
theorem sOps_l {op : Nat → Bool} {m : Nat} (h : ¬ (f.1.1 = 3 ∧ b f.1.2.1 = 59)) (e : sOp b n op f = .inl q) : sOps b n (m + 1) op f = .inl q := by rw [sOps, cif_neg h, thn_l e]
theorem sOps_r {op : Nat → Bool} {m : Nat} {v : Nat × FS} (h : ¬ (f.1.1 = 3 ∧ b f.1.2.1 = 59)) (e : sOp b n op f = .inr v) : sOps b n (m + 1) op f = sOps b n m (fun j => op j || j == v.1) v.2 := by rw [sOps, cif_neg h, thn_r e]
theorem sMan_b (h : 10 ≤ (gmn f.2).length) : sMan b n f = .inl (4, f.1.2.1) := by unfold sMan; rw [cif_pos h]; rfl
theorem sMan_l1 (h : ¬ 10 ≤ (gmn f.2).length) (e : sNew b (stp b n f) = .inl q) : sMan b n f = .inl q := by unfold sMan; rw [cif_neg h, thn_l e]
theorem sMan_l2 {v : Unit} (h : ¬ 10 ≤ (gmn f.2).length) (e : sNew b (stp b n f) = .inr v) (e2 : sNum b n 0 20 (stp b n ((stp b n f).1, umn f.2 (wrd b (stp b n f).1))) = .inl q) : sMan b n f = .inl q := by unfold sMan; rw [cif_neg h, thn_r e, thn_l e2]
theorem sMan_r {v : Unit} {w : Int × FS} (h : ¬ 10 ≤ (gmn f.2).length) (e : sNew b (stp b n f) = .inr v) (e2 : sNum b n 0 20 (stp b n ((stp b n f).1, umn f.2 (wrd b (stp b n f).1))) = .inr w) : sMan b n f = sOps b n 10 (fun _ => false) w.2 := by unfold sMan; rw [cif_neg h, thn_r e, thn_r e2]
theorem sChild_l1 (e : sLook b (gmn f.2) (stp b n f).1 = .inl q) : sChild b n f = .inl q := by unfold sChild; rw [thn_l e]
theorem sChild_b1 {k : Nat} (e : sLook b (gmn f.2) (stp b n f).1 = .inr k) (h : gpa f.2 k = true) : sChild b n f = .inl (3, (stp b n f).1.2.1) := by unfold sChild; rw [thn_r e, cif_pos h]; rfl
theorem sChild_l2 {k : Nat} (e : sLook b (gmn f.2) (stp b n f).1 = .inr k) (h : ¬ gpa f.2 k = true) (e2 : sLook b (gmn f.2) (stp b n (stp b n f)).1 = .inl q) : sChild b n f = .inl q := by unfold sChild; rw [thn_r e, cif_neg h, thn_l e2]
theorem sChild_b2 {k j : Nat} (e : sLook b (gmn f.2) (stp b n f).1 = .inr k) (h : ¬ gpa f.2 k = true) (e2 : sLook b (gmn f.2) (stp b n (stp b n f)).1 = .inr j) (h2 : j = k) : sChild b n f = .inl (3, (stp b n (stp b n f)).1.2.1) := by unfold sChild; rw [thn_r e, cif_neg h, thn_r e2, cif_pos h2]; rfl
theorem sChild_r {k j : Nat} (e : sLook b (gmn f.2) (stp b n f).1 = .inr k) (h : ¬ gpa f.2 k = true) (e2 : sLook b (gmn f.2) (stp b n (stp b n f)).1 = .inr j) (h2 : ¬ j = k) : sChild b n f = .inr (stp b n ((stp b n (stp b n f)).1, upa f.2 k)) := by unfold sChild; rw [thn_r e, cif_neg h, thn_r e2, cif_neg h2]
theorem sKin_l1 (e : sLook b (gmn f.2) (stp b n f).1 = .inl q) : sKin b n f = .inl q := by unfold sKin; rw [thn_l e]
theorem sKin_l2 {k : Nat} (e : sLook b (gmn f.2) (stp b n f).1 = .inr k) (e2 : sLook b (gmn f.2) (stp b n (stp b n f)).1 = .inl q) : sKin b n f = .inl q := by unfold sKin; rw [thn_r e, thn_l e2]
theorem sKin_b {k j : Nat} (e : sLook b (gmn f.2) (stp b n f).1 = .inr k) (e2 : sLook b (gmn f.2) (stp b n (stp b n f)).1 = .inr j) (h : j = k ∨ gki f.2 k j = true) : sKin b n f = .inl (3, (stp b n (stp b n f)).1.2.1) := by unfold sKin; rw [thn_r e, thn_r e2, cif_pos h]; rfl
theorem sKin_r {k j : Nat} (e : sLook b (gmn f.2) (stp b n f).1 = .inr k) (e2 : sLook b (gmn f.2) (stp b n (stp b n f)).1 = .inr j) (h : ¬ (j = k ∨ gki f.2 k j = true)) : sKin b n f = .inr (stp b n ((stp b n (stp b n f)).1, uki f.2 k j)) := by unfold sKin; rw [thn_r e, thn_r e2, cif_neg h]
theorem sLine_0  (h : isW b 0 f.1) : sLine b n f = sSeats b n f := by unfold sLine; rw [cif_pos h]
theorem sLine_1 (h0 : ¬ isW b 0 f.1) (h : isW b 1 f.1) : sLine b n f = sSlack b n f := by unfold sLine; rw [cif_neg h0, cif_pos h]
theorem sLine_2 (h0 : ¬ isW b 0 f.1) (h1 : ¬ isW b 1 f.1) (h : isW b 2 f.1) : sLine b n f = sAsk b n f := by unfold sLine; rw [cif_neg h0, cif_neg h1, cif_pos h]
theorem sLine_3 (h0 : ¬ isW b 0 f.1) (h1 : ¬ isW b 1 f.1) (h2 : ¬ isW b 2 f.1) (h : isW b 3 f.1) : sLine b n f = sMan b n f := by unfold sLine; rw [cif_neg h0, cif_neg h1, cif_neg h2, cif_pos h]
theorem sLine_6 (h0 : ¬ isW b 0 f.1) (h1 : ¬ isW b 1 f.1) (h2 : ¬ isW b 2 f.1) (h3 : ¬ isW b 3 f.1) (h : isW b 6 f.1) : sLine b n f = sChild b n f := by unfold sLine; rw [cif_neg h0, cif_neg h1, cif_neg h2, cif_neg h3, cif_pos h]
theorem sLine_7 (h0 : ¬ isW b 0 f.1) (h1 : ¬ isW b 1 f.1) (h2 : ¬ isW b 2 f.1) (h3 : ¬ isW b 3 f.1) (h4 : ¬ isW b 6 f.1) (h : isW b 7 f.1) : sLine b n f = sKin b n f := by unfold sLine; rw [cif_neg h0, cif_neg h1, cif_neg h2, cif_neg h3, cif_neg h4, cif_pos h]
theorem sLine_b (h0 : ¬ isW b 0 f.1) (h1 : ¬ isW b 1 f.1) (h2 : ¬ isW b 2 f.1) (h3 : ¬ isW b 3 f.1) (h4 : ¬ isW b 6 f.1) (h5 : ¬ isW b 7 f.1) : sLine b n f = .inl (1, f.1.2.1) := by unfold sLine; rw [cif_neg h0, cif_neg h1, cif_neg h2, cif_neg h3, cif_neg h4, cif_neg h5]; rfl
theorem sRd_e {m l : Nat} (h : f.1.1 = 0) : sRd b n m f l = .inr (l, f) := by cases m with | zero => rfl | succ m => rw [sRd, cif_pos h]
theorem sRd_l1 {m l : Nat} (h : ¬ f.1.1 = 0) (e : sLine b n f = .inl q) : sRd b n (m + 1) f l = .inl q := by rw [sRd, cif_neg h, thn_l e]
theorem sRd_l2 {m l : Nat} {g : FS} (h : ¬ f.1.1 = 0) (e : sLine b n f = .inr g) (e2 : sSgn b n 59 g = .inl q) : sRd b n (m + 1) f l = .inl q := by rw [sRd, cif_neg h, thn_r e, thn_l e2]
theorem sRd_r {m l : Nat} {g k : FS} (h : ¬ f.1.1 = 0) (e : sLine b n f = .inr g) (e2 : sSgn b n 59 g = .inr k) : sRd b n (m + 1) f l = sRd b n m k (l + 1) := by rw [sRd, cif_neg h, thn_r e, thn_r e2]
end SP
