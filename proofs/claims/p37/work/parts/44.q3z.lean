theorem sLook_x {b : Nat → Int} {l : List (List Int)} {t : Tk} {i : Nat} (h : sLook b l t = .inr i) : i < l.length := by
  by_cases e : isN b t
  · by_cases e2 : fnd l (wrd b t) < 0
    · rw [sLook_b3 e e2] at h; cases h
    · rw [sLook_g e e2] at h; cases h
      have := (fnd_lo l (wrd b t)).2
      omega
  · rw [sLook_b1 e] at h; cases h
theorem sOp_s {b : Nat → Int} {n : Nat} {op : Nat → Bool} {f : FS} {v : Nat × FS} (h : sOp b n op f = .inr v) : v.2.2 = f.2 := by
  cases e : sLook b (gan f.2) f.1 with
  | inl q => rw [sOp_l1 e] at h; cases h
  | inr i =>
    by_cases ho : op i = true
    · rw [sOp_b e ho] at h; cases h
    · cases e2 : sYN b n (stp b n f) with
      | inl q => rw [sOp_l2 e ho e2] at h; cases h
      | inr g =>
        cases e3 : sNum b n 1 9 g with
        | inl q => rw [sOp_l3 e ho e2 e3] at h; cases h
        | inr w =>
          rw [sOp_r e ho e2 e3] at h; cases h
          show w.2.2 = f.2
          rw [sNum_s e3, sYN_s e2]; rfl
theorem bit_q {a0 a1 v r c : Int32} (h1 : v = a0 >>> (a1 &&& 31)) (hc : c.toInt = 1) (h2 : r = v &&& c) (ha : R 0 9 a1) : r.toInt = 1 ↔ kb a0 a1.toInt.toNat := by
  have e : c = 1 := Int32.toInt_inj.mp hc
  subst e
  rw [← kb_shr ha, h2, h1]
  exact ⟨fun h => Int32.toInt_inj.mp h, fun h => by rw [h]; rfl⟩
