theorem iff_n {r : Int32} {P : Prop} (h : r.toInt = 1 ↔ P) (h0 : r.toInt = 0) : ¬ P := fun p => absurd (h.mpr p) (by omega)
theorem bI_t {x : Int} {c : Bool} (h : x = bI c) (h0 : x ≠ 0) : c = true := by
  cases c with
  | true => rfl
  | false => exact absurd h h0
theorem bI_f {x : Int} {c : Bool} (h : x = bI c) (h0 : x = 0) : ¬ c = true := by
  cases c with
  | true => exact absurd (h0.symm.trans h) (by decide)
  | false => decide
theorem RP_anm {τ : Tau} {s : PS} (h : RP τ s) : NM τ 4 2 9 (gan s) := h.2.2.2.2.2.1
theorem RP_mnm {τ : Tau} {s : PS} (h : RP τ s) : NM τ 4 3 10 (gmn s) := h.2.2.2.2.2.2.1
theorem sLook_n {b : Nat → Int} {l : List (List Int)} {t : Tk} {i : Nat} (h : sLook b l t = .inr i) : isN b t := by
  by_cases e : isN b t
  · exact e
  · rw [sLook_b1 e] at h; cases h
theorem sNew_n {b : Nat → Int} {f : FS} {v : Unit} (h : sNew b f = .inr v) : isN b f.1 := by
  by_cases e : isN b f.1
  · exact e
  · rw [sNew_b1 e] at h; cases h
