/-! bytes that are fed -/
def byt (v : Int32) : Nat → Int
  | 0 => v.toInt / 16777216 % 256
  | 1 => v.toInt / 65536 % 256
  | 2 => v.toInt / 256 % 256
  | _ => v.toInt % 256
def cat (f g : Nat → Int) (n : Nat) : Nat → Int := fun j => if j < n then f j else g (j - n)
def cat5 (a b c d e : Int32) : Nat → Int := cat (cat (cat (cat (byt a) (byt b) 4) (byt c) 8) (byt d) 12) (byt e) 16
/-- n bytes f behind place l of cell c -/
def AP (τ u : Tau) (c l n : Nat) (f : Nat → Int) : Prop := (∀ j, j < l → u c j = τ c j) ∧ ∀ j, j < n → (u c (l + j)).toInt % 256 = f j
theorem AP_two {τ t u : Tau} {c l l' n n' m : Nat} {f g : Nat → Int} (h : AP τ t c l n f) (h' : AP t u c l' m g) (e : l' = l + n) (e2 : n' = n + m) : AP τ u c l n' (cat f g n) := by
  subst e; subst e2
  refine ⟨fun j hj => (h'.1 j (by omega)).trans (h.1 j hj), fun j hj => ?_⟩
  show _ = if j < n then f j else g (j - n)
  by_cases e : j < n
  · rw [if_pos e, h'.1 (l + j) (by omega)]; exact h.2 j e
  · rw [if_neg e]
    have := h'.2 (j - n) (by omega)
    rw [show l + n + (j - n) = l + j by omega] at this
    exact this
theorem AP_4 {τ t1 t2 t3 t4 : Tau} {c : Nat} {l : Int} {i0 i1 i2 i3 x0 x1 x2 x3 v : Int32} {s1 s2 s3 s4 : Tau} (h1 : Mu τ t1 c i0.toNatClampNeg x0) (g1 : ∀ j, s1 c j = t1 c j) (h2 : Mu s1 t2 c i1.toNatClampNeg x1) (g2 : ∀ j, s2 c j = t2 c j) (h3 : Mu s2 t3 c i2.toNatClampNeg x2) (g3 : ∀ j, s3 c j = t3 c j) (h4 : Mu s3 t4 c i3.toNatClampNeg x3) (g4 : ∀ j, s4 c j = t4 c j) (hl : 0 ≤ l) (e0 : i0.toInt = l) (e1 : i1.toInt = l + 1) (e2 : i2.toInt = l + 2) (e3 : i3.toInt = l + 3) (b0 : x0.toInt % 256 = byt v 0) (b1 : x1.toInt % 256 = byt v 1) (b2 : x2.toInt % 256 = byt v 2) (b3 : x3.toInt % 256 = byt v 3) : AP τ s4 c l.toNat 4 (byt v) := by
  have c0 : i0.toNatClampNeg = i0.toInt.toNat := rfl
  have c1 : i1.toNatClampNeg = i1.toInt.toNat := rfl
  have c2 : i2.toNatClampNeg = i2.toInt.toNat := rfl
  have c3 : i3.toNatClampNeg = i3.toInt.toNat := rfl
  refine ⟨fun j hj => ?_, fun j hj => ?_⟩
  · rw [g4, h4.2 c j (Or.inr (by omega)), g3, h3.2 c j (Or.inr (by omega)), g2, h2.2 c j (Or.inr (by omega)), g1, h1.2 c j (Or.inr (by omega))]
  · rcases (show j = 0 ∨ j = 1 ∨ j = 2 ∨ j = 3 by omega) with rfl | rfl | rfl | rfl
    · rw [g4, h4.2 c _ (Or.inr (by omega)), g3, h3.2 c _ (Or.inr (by omega)), g2, h2.2 c _ (Or.inr (by omega)), g1, show l.toNat + 0 = i0.toNatClampNeg by omega, h1.1]; exact b0
    · rw [g4, h4.2 c _ (Or.inr (by omega)), g3, h3.2 c _ (Or.inr (by omega)), g2, show l.toNat + 1 = i1.toNatClampNeg by omega, h2.1]; exact b1
    · rw [g4, h4.2 c _ (Or.inr (by omega)), g3, show l.toNat + 2 = i2.toNatClampNeg by omega, h3.1]; exact b2
    · rw [g4, show l.toNat + 3 = i3.toNatClampNeg by omega, h4.1]; exact b3
theorem bv_int (x : Int32) : x.toInt = if 2 * x.toBitVec.toNat < 4294967296 then (x.toBitVec.toNat : Int) else (x.toBitVec.toNat : Int) - 4294967296 := BitVec.toInt_eq_toNat_cond x.toBitVec
theorem bc_nat (x : Int32) (k : Nat) : (((x.toBitVec >>> k) &&& 255#32).toNat : Int) = ((x.toBitVec.toNat / 2 ^ k % 256 : Nat) : Int) := by
  rw [BitVec.toNat_and, BitVec.toNat_ushiftRight, Nat.shiftRight_eq_div_pow]
  have h : (255#32).toNat = 2 ^ 8 - 1 := rfl
  rw [h, Nat.and_two_pow_sub_one_eq_mod]
theorem bc_int {r : Int32} {m : Nat} (h : r.toBitVec.toNat = m) (hm : m < 256) : r.toInt = m := by
  rw [bv_int r, h, if_pos (by omega)]
theorem byt_c {x y v c r : Int32} {i : Nat} (h1 : v = (x.toUInt32 >>> (y.toUInt32 &&& Int32.toUInt32 31)).toInt32) (hc : c.toInt = 255) (h2 : r = v &&& c) (hy : y.toInt = 24 - 8 * (i : Int)) (hi : i < 4) : r.toInt % 256 = byt x i := by
  have ec : c = 255 := Int32.toInt_inj.mp hc
  subst ec
  have hn := x.toBitVec.isLt
  have hx := bv_int x
  rcases (show i = 0 ∨ i = 1 ∨ i = 2 ∨ i = 3 by omega) with rfl | rfl | rfl | rfl
  · have ey : y = 24 := Int32.toInt_inj.mp hy
    subst ey
    have e : r.toBitVec = (x.toBitVec >>> 24) &&& 255#32 := by rw [h2, h1]; rfl
    have q := bc_nat x 24
    rw [← e] at q
    have q2 := bc_int (r := r) (m := x.toBitVec.toNat / 2 ^ 24 % 256) (by omega) (by omega)
    rw [q2]
    show _ = x.toInt / 16777216 % 256
    rw [hx]
    split <;> omega
  · have ey : y = 16 := Int32.toInt_inj.mp hy
    subst ey
    have e : r.toBitVec = (x.toBitVec >>> 16) &&& 255#32 := by rw [h2, h1]; rfl
    have q := bc_nat x 16
    rw [← e] at q
    have q2 := bc_int (r := r) (m := x.toBitVec.toNat / 2 ^ 16 % 256) (by omega) (by omega)
    rw [q2]
    show _ = x.toInt / 65536 % 256
    rw [hx]
    split <;> omega
  · have ey : y = 8 := Int32.toInt_inj.mp hy
    subst ey
    have e : r.toBitVec = (x.toBitVec >>> 8) &&& 255#32 := by rw [h2, h1]; rfl
    have q := bc_nat x 8
    rw [← e] at q
    have q2 := bc_int (r := r) (m := x.toBitVec.toNat / 2 ^ 8 % 256) (by omega) (by omega)
    rw [q2]
    show _ = x.toInt / 256 % 256
    rw [hx]
    split <;> omega
  · have ey : y = 0 := Int32.toInt_inj.mp hy
    subst ey
    have e : r.toBitVec = (x.toBitVec >>> 0) &&& 255#32 := by rw [h2, h1]; rfl
    have q := bc_nat x 0
    rw [← e] at q
    have q2 := bc_int (r := r) (m := x.toBitVec.toNat / 2 ^ 0 % 256) (by omega) (by omega)
    rw [q2]
    show _ = x.toInt % 256
    rw [hx]
    split <;> omega
theorem sh_int (x : Int32) (k : Nat) : (x.toBitVec.sshiftRight k).toInt = x.toInt / 2 ^ k := by
  rw [BitVec.toInt_sshiftRight, Int.shiftRight_eq_div_pow]; rfl
theorem byt_m {x y v r : Int32} {i : Nat} (h1 : v = x >>> (y &&& 31)) (h2 : r.toInt % 256 = v.toInt % 256) (hy : y.toInt = 24 - 8 * (i : Int)) (hi : i < 4) : r.toInt % 256 = byt x i := by
  rw [h2]
  rcases (show i = 0 ∨ i = 1 ∨ i = 2 ∨ i = 3 by omega) with rfl | rfl | rfl | rfl
  · have ey : y = 24 := Int32.toInt_inj.mp hy
    subst ey
    have e : v.toInt = x.toInt / 2 ^ 24 := by rw [h1]; exact sh_int x 24
    rw [e]; show _ = x.toInt / 16777216 % 256; omega
  · have ey : y = 16 := Int32.toInt_inj.mp hy
    subst ey
    have e : v.toInt = x.toInt / 2 ^ 16 := by rw [h1]; exact sh_int x 16
    rw [e]; show _ = x.toInt / 65536 % 256; omega
  · have ey : y = 8 := Int32.toInt_inj.mp hy
    subst ey
    have e : v.toInt = x.toInt / 2 ^ 8 := by rw [h1]; exact sh_int x 8
    rw [e]; show _ = x.toInt / 256 % 256; omega
  · have ey : y = 0 := Int32.toInt_inj.mp hy
    subst ey
    have e : v.toInt = x.toInt / 2 ^ 0 := by rw [h1]; exact sh_int x 0
    rw [e]; show _ = x.toInt % 256; omega
theorem i2b_mod (x : Int32) : (x.toInt8.toInt32).toInt % 256 = x.toInt % 256 := by
  rw [Int8.toInt_toInt32, Int32.toInt_toInt8]
  unfold Int.bmod
  dsimp only
  split <;> omega
