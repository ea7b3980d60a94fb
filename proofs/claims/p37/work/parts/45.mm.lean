/-! the model's reading of tokens -/
theorem and255 (x : Int32) (h : R (-128) 127 x) : (x &&& 255).toInt = x.toInt % 256 := by
  have key : ∀ b : BitVec 8, ((b.signExtend 32) &&& 255#32).toInt = (b.signExtend 32).toInt % 256 := by decide +kernel
  have e : x.toBitVec = (x.toBitVec.setWidth 8).signExtend 32 := by
    apply BitVec.eq_of_toInt_eq
    rw [BitVec.toInt_signExtend_of_le (by decide), BitVec.toInt_setWidth]
    have h1 : x.toBitVec.toInt = x.toInt := rfl
    have h2 : x.toInt = (x.toBitVec.toNat : Int).bmod (2 ^ 32) := by rw [← h1, BitVec.toInt_eq_toNat_bmod]
    rw [h1]
    have h3 : ((x.toBitVec.toNat : Int)).bmod (2 ^ 8) = (x.toInt).bmod (2 ^ 8) := by
      rw [h2]
      exact (Int.bmod_bmod_of_dvd (a := (x.toBitVec.toNat : Int)) (n := 2 ^ 8) (m := 2 ^ 32) (by decide)).symm
    rw [h3, Int.bmod_eq_of_le (by omega) (by omega)]
  have k := key (x.toBitVec.setWidth 8)
  rw [← e] at k
  exact k
/-- the bytes on the model's tape, and the limit -/
def MBy (b : Nat → Int) (n L : Nat) (τ : Tau) : Prop := (τ 131 3).toInt = n ∧ n ≤ 940 ∧ (τ 131 5).toInt = L ∧ ∀ j, j < n → (τ 132 j).toInt % 256 = b j
def MTk (b : Nat → Int) (n : Nat) (τ : Tau) (t : Tk) : Prop := (τ 131 11).toInt = t.1 ∧ (τ 131 12).toInt = t.2.1 ∧ (t.1 = 1 ∨ t.1 = 2 ∨ t.1 = 3 → (τ 131 4).toInt = t.2.2) ∧ (t.1 = 1 → (qof τ 131 17).toInt = e256 (ltr b t.2.1 (t.2.2 - t.2.1))) ∧ (t.1 = 2 → (τ 131 14).toInt = nmb (ltr b t.2.1 (t.2.2 - t.2.1))) ∧ (t.1 = 3 → (τ 131 14).toInt = b t.2.1) ∧ TkV b n t
def MT (b : Nat → Int) (n L : Nat) (τ : Tau) (t : Tk) : Prop := MBy b n L τ ∧ MTk b n τ t
theorem MB_eq {b : Nat → Int} {n L : Nat} {τ u : Tau} (h : MBy b n L τ) (h1 : u 131 3 = τ 131 3) (h2 : u 131 5 = τ 131 5) (h3 : ∀ j, u 132 j = τ 132 j) : MBy b n L u := by
  obtain ⟨a1, a2, a3, a4⟩ := h
  exact ⟨by rw [h1]; exact a1, a2, by rw [h2]; exact a3, fun j hj => by rw [h3]; exact a4 j hj⟩
/-- what peek says -/
theorem pk_b {b : Nat → Int} {n L : Nat} {τ t : Tau} {v r : Int32} (hB : MBy b n L τ) (hI : Inv t) (e3 : t 131 3 = τ 131 3) (e132 : ∀ j, t 132 j = τ 132 j) (ev : t 131 4 = v) (h0 : 0 ≤ v.toInt) (hr : r.toInt = pkv t) : (v.toInt < n → r.toInt = b v.toInt.toNat ∧ 0 ≤ b v.toInt.toNat ∧ b v.toInt.toNat ≤ 255) ∧ ((n : Int) ≤ v.toInt → r.toInt = -1) := by
  obtain ⟨a1, a2, a3, a4⟩ := hB
  have c : v.toNatClampNeg = v.toInt.toNat := rfl
  constructor
  · intro h
    have h4 := a4 v.toInt.toNat (by omega)
    have hR : R (-128) 127 (t 132 v.toInt.toNat) := rd (K := 39) hI rfl rfl
    rw [hr]
    unfold pkv
    rw [ev, e3, a1, if_pos h, c, and255 _ hR, e132, h4]
    rw [e132] at hR
    refine ⟨rfl, ?_, ?_⟩ <;> rw [← h4] <;> omega
  · intro h
    rw [hr]
    unfold pkv
    rw [ev, e3, a1, if_neg (by omega)]
theorem nat256 {n c : Nat} (hc : c < 256) : n <<< 8 ||| c = n * 256 + c := by
  rw [← Nat.shiftLeft_add_eq_or_of_lt (i := 8) (by omega), Nat.shiftLeft_eq]
theorem bvNat {x : BitVec 64} (h : 0 ≤ x.toInt) : (x.toNat : Int) = x.toInt := by
  have h1 := BitVec.toInt_eq_toNat_cond x
  have h2 := x.isLt
  rw [h1] at h ⊢
  split at h
  · rename_i h3; rw [if_pos h3]
  · omega
theorem shl8 (w : Int64) : (w <<< ((8 : Int32).toInt64 &&& 63)).toBitVec = w.toBitVec <<< 8 := rfl
theorem L256 {w r : Int64} {x y : Int32} (hy : y.toInt = 8) (h : r = (w <<< (y.toInt64 &&& 63)) ||| x.toInt64) (hw : 0 ≤ w.toInt ∧ w.toInt ≤ 281474976710656) (hx : 0 ≤ x.toInt ∧ x.toInt ≤ 255) : r.toInt = w.toInt * 256 + x.toInt := by
  have e : y = 8 := Int32.toInt_inj.mp hy
  subst e
  have hwN : (w.toBitVec.toNat : Int) = w.toInt := bvNat hw.1
  have hxI : x.toInt64.toInt = x.toInt := Int32.toInt_toInt64 x
  have hxN : (x.toInt64.toBitVec.toNat : Int) = x.toInt := by rw [← hxI]; exact bvNat (by show 0 ≤ x.toInt64.toInt; rw [hxI]; exact hx.1)
  have hr : r.toBitVec.toNat = w.toBitVec.toNat * 256 + x.toInt64.toBitVec.toNat := by
    rw [h, Int64.toBitVec_or, shl8, BitVec.toNat_or, BitVec.toNat_shiftLeft]
    have h1 : w.toBitVec.toNat <<< 8 < 2 ^ 64 := by rw [Nat.shiftLeft_eq]; omega
    rw [Nat.mod_eq_of_lt h1]
    exact nat256 (by omega)
  show r.toBitVec.toInt = _
  rw [BitVec.toInt_eq_toNat_cond, hr]
  rw [if_pos (by omega)]
  omega
def LM (b : Nat → Int) (A i : Nat) (sm al sp wd nu : Int) : Prop :=
  A ≤ i ∧ sp = (i : Int) - A ∧ (∀ j, A ≤ j → j < i → aln (b j)) ∧ (al = 1 → sm = 1 → AllL b A i) ∧ (al = 1 → sm = 0 → AllD b A i) ∧ (al = 0 → ¬ AllL b A i ∧ ¬ AllD b A i) ∧
  (al = 1 → sm = 1 → sp ≤ 7 → wd = e256 (ltr b A (i - A))) ∧ (al = 1 → sm = 0 → sp ≤ 2 → nu = nmb (ltr b A (i - A)))
theorem LM_0 (b : Nat → Int) (A : Nat) {sm al sp wd nu : Int} (h0 : al = 1) (h1 : sp = 0) (h2 : wd = 0) (h3 : nu = 0) : LM b A A sm al sp wd nu := by
  refine ⟨Nat.le_refl _, by omega, fun j h1 h2 => by omega, fun _ _ j h1 h2 => by omega, fun _ _ j h1 h2 => by omega, fun h => by omega, fun _ _ _ => ?_, fun _ _ _ => ?_⟩
  · rw [Nat.sub_self]; exact h2
  · rw [Nat.sub_self]; exact h3
theorem LM_up {b : Nat → Int} {A i : Nat} {sm al al' sp wd wd' nu nu' : Int} (h : LM b A i sm al sp wd nu) (hs : (sm = 1 ∧ low (b A)) ∨ (sm = 0 ∧ dig (b A))) (hc : aln (b i))
    (ha : (al' = 1 ∧ al = 1 ∧ ((sm = 1 ∧ low (b i)) ∨ (sm = 0 ∧ dig (b i)))) ∨ (al' = 0 ∧ (al = 0 ∨ (sm = 1 ∧ dig (b i)) ∨ (sm = 0 ∧ low (b i)))))
    (hw : al = 1 → sm = 1 → sp ≤ 6 → wd' = wd * 256 + b i) (hn : al = 1 → sm = 0 → sp ≤ 1 → nu' = nu * 10 + (b i - 48)) : LM b A (i + 1) sm al' (sp + 1) wd' nu' := by
  obtain ⟨a1, a2, a3, a4, a5, a6, a7, a8⟩ := h
  have b1 : A ≤ i + 1 := Nat.le_succ_of_le a1
  have b2 : sp + 1 = ((i + 1 : Nat) : Int) - A := by rw [a2]; omega
  have b3 : ∀ j, A ≤ j → j < i + 1 → aln (b j) := fun j h1 h2 => by
    by_cases e : j = i
    · rw [e]; exact hc
    · exact a3 j h1 (Nat.lt_of_le_of_ne (Nat.le_of_lt_succ h2) e)
  have lt : ∀ j, j < i + 1 → j ≠ i → j < i := fun j h2 e => Nat.lt_of_le_of_ne (Nat.le_of_lt_succ h2) e
  rcases ha with ⟨e1, e2, e3⟩ | ⟨e1, e3⟩
  · subst e1
    refine ⟨b1, b2, b3, fun _ h0 j h1 h2 => ?_, fun _ h0 j h1 h2 => ?_, fun h => absurd h (by decide), fun _ h0 h7 => ?_, fun _ h0 h7 => ?_⟩
    · by_cases e : j = i
      · rw [e]
        rcases e3 with ⟨_, l⟩ | ⟨z, _⟩
        · exact l
        · exact absurd (h0.symm.trans z) (by decide)
      · exact a4 e2 h0 j h1 (lt j h2 e)
    · by_cases e : j = i
      · rw [e]
        rcases e3 with ⟨z, _⟩ | ⟨_, l⟩
        · exact absurd (h0.symm.trans z) (by decide)
        · exact l
      · exact a5 e2 h0 j h1 (lt j h2 e)
    · have h8 : sp ≤ 6 := by clear hw hn a4 a5 a6 a7 a8 e3 hs hc; omega
      rw [ltr_up a1, hw e2 h0 h8, a7 e2 h0 (Int.le_trans h8 (by decide))]; rfl
    · have h8 : sp ≤ 1 := by clear hw hn a4 a5 a6 a7 a8 e3 hs hc; omega
      rw [ltr_up a1, hn e2 h0 h8, a8 e2 h0 (Int.le_trans h8 (by decide))]; rfl
  · subst e1
    refine ⟨b1, b2, b3, fun h => absurd h (by decide), fun h => absurd h (by decide), fun _ => ?_, fun h => absurd h (by decide), fun h => absurd h (by decide)⟩
    clear hw hn a7 a8 a4 a5
    rcases e3 with h1 | h1 | h1
    · have h2 := a6 h1
      exact ⟨fun h3 => h2.1 (fun j h4 h5 => h3 j h4 (Nat.lt_succ_of_lt h5)), fun h3 => h2.2 (fun j h4 h5 => h3 j h4 (Nat.lt_succ_of_lt h5))⟩
    · refine ⟨fun h3 => ?_, fun h3 => ?_⟩
      · have h4 : low (b i) := h3 i a1 (Nat.lt_succ_self i)
        have h5 := h1.2
        clear h1 hs hc a6 a3 b3 lt h3
        omega
      · have h4 : dig (b A) := h3 A (Nat.le_refl _) (Nat.lt_succ_of_le a1)
        rcases hs with ⟨_, h6⟩ | ⟨h6, _⟩
        · clear h1 hc a6 a3 b3 lt h3
          omega
        · exact absurd (h1.1.symm.trans h6) (by decide)
    · refine ⟨fun h3 => ?_, fun h3 => ?_⟩
      · have h4 : low (b A) := h3 A (Nat.le_refl _) (Nat.lt_succ_of_le a1)
        rcases hs with ⟨h6, _⟩ | ⟨_, h6⟩
        · exact absurd (h1.1.symm.trans h6) (by decide)
        · clear h1 hc a6 a3 b3 lt h3
          omega
      · have h4 : dig (b i) := h3 i a1 (Nat.lt_succ_self i)
        have h5 := h1.2
        clear h1 hs hc a6 a3 b3 lt h3
        omega
theorem LM_wd {b : Nat → Int} {A i : Nat} {sm al sp wd nu : Int} (h : LM b A i sm al sp wd nu) (h0 : al = 1) (h1 : sm = 1) (h6 : sp ≤ 6) : 0 ≤ wd ∧ wd ≤ 281474976710656 := by
  obtain ⟨a1, a2, a3, a4, a5, a6, a7, a8⟩ := h
  have e : A + (i - A) = i := by omega
  have hl : lowL (ltr b A (i - A)) := ltr_low (by rw [e]; exact a4 h0 h1)
  have g1 := e256_lo hl
  have g2 := e256_hi hl
  rw [ltr_len] at g2
  have g3 := pw256_6 (i - A) (by omega)
  rw [a7 h0 h1 (by omega)]
  omega
theorem LM_nu {b : Nat → Int} {A i : Nat} {sm al sp wd nu : Int} (h : LM b A i sm al sp wd nu) (h0 : al = 1) (h1 : sm = 0) (h6 : sp ≤ 1) : 0 ≤ nu ∧ nu ≤ 9 := by
  obtain ⟨a1, a2, a3, a4, a5, a6, a7, a8⟩ := h
  rw [a8 h0 h1 (by omega)]
  rcases (show i - A = 0 ∨ i - A = 1 by omega) with e | e
  · rw [e]; show (0 : Int) ≤ 0 ∧ (0 : Int) ≤ 9; omega
  · rw [e]
    have h2 : dig (b A) := a5 h0 h1 A (Nat.le_refl _) (by omega)
    show 0 ≤ (0 : Int) * 10 + (b (A + 0) - 48) ∧ (0 : Int) * 10 + (b (A + 0) - 48) ≤ 9
    rw [Nat.add_zero]; omega
/-- the ends of the model's skip -/
theorem MT_over {b : Nat → Int} {n L p : Nat} {u : Tau} {q : Int32} (hB : MBy b n L u) (hp : p ≤ n) (hL : L < n) (hs : ∀ k, p ≤ k → k < q.toInt.toNat → spc (b k)) (h1 : (L : Int) ≤ q.toInt) (h2 : (u 131 12).toInt = L) (h3 : (u 131 11).toInt = 4) : MT b n L u (lex b n L p) := by
  rw [lex_eq (Tok_over hp hL (fun i h4 h5 => hs i h4 (by omega)))]
  exact ⟨hB, h3, h2, fun h => by simp at h, fun h => by simp at h, fun h => by simp at h, fun h => by simp at h, fun h => by simp at h, fun h => by simp at h, fun h => by simp at h, by simp⟩
theorem MT_stop {b : Nat → Int} {n L p : Nat} {u : Tau} (hB : MBy b n L u) (hp : p ≤ n) (hL : n ≤ L) (hs : ∀ k, p ≤ k → k < n → spc (b k)) (h2 : (u 131 12).toInt = n) (h3 : (u 131 11).toInt = 0) : MT b n L u (lex b n L p) := by
  rw [lex_eq (Tok_stop hL ⟨hp, Nat.le_refl _, hs, fun h => absurd h (Nat.lt_irrefl _)⟩)]
  exact ⟨hB, h3, h2, fun h => by simp at h, fun h => by simp at h, fun h => by simp at h, fun h => by simp at h, fun h => by simp at h, fun h => by simp at h, fun h => by simp at h, by simp⟩
theorem MT_sign {b : Nat → Int} {n L p A : Nat} {u : Tau} (hB : MBy b n L u) (hq : Fst b n p A) (h : A < n) (hL : ¬ (L < n ∧ L ≤ A)) (ha : ¬ aln (b A)) (hs : sgn (b A)) (h1 : (u 131 12).toInt = A) (h2 : (u 131 4).toInt = A + 1) (h3 : (u 131 11).toInt = 3) (h4 : (u 131 14).toInt = b A) : MT b n L u (lex b n L p) := by
  rw [lex_eq (Tok_sign hq h hL ha hs)]
  exact ⟨hB, h3, h1, fun _ => by simpa using h2, fun h => by simp at h, fun h => by simp at h, fun _ => h4, fun h => by simp at h, fun h => by simp at h, fun _ => ⟨rfl, h⟩, by simp⟩
theorem MT_none {b : Nat → Int} {n L p A : Nat} {u : Tau} (hB : MBy b n L u) (hq : Fst b n p A) (h : A < n) (hL : ¬ (L < n ∧ L ≤ A)) (ha : ¬ aln (b A)) (hs : ¬ sgn (b A)) (h1 : (u 131 12).toInt = A) (h3 : (u 131 11).toInt = 4) : MT b n L u (lex b n L p) := by
  rw [lex_eq (Tok_none hq h hL ha hs)]
  exact ⟨hB, h3, h1, fun h => by simp at h, fun h => by simp at h, fun h => by simp at h, fun h => by simp at h, fun h => by simp at h, fun h => by simp at h, fun h => by simp at h, by simp⟩
theorem LM_rn {b : Nat → Int} {n A i : Nat} {sm al sp wd nu : Int} (h : LM b A i sm al sp wd nu) (hi : i ≤ n) (he : i < n → ¬ aln (b i)) (h0 : 0 < sp) : Rn b n A i := by
  obtain ⟨a1, a2, a3, a4, a5, a6, a7, a8⟩ := h
  exact ⟨by omega, hi, a3, he⟩
theorem MT_word {b : Nat → Int} {n L p A i : Nat} {sm al sp nu : Int} {u : Tau} (hx : LM b A i sm al sp (qof u 131 17).toInt nu) (hB : MBy b n L u) (hq : Fst b n p A) (hL : ¬ (L < n ∧ L ≤ A)) (hi : i ≤ n) (he : i < n → ¬ aln (b i)) (g0 : al = 1) (g1 : sm = 1) (g2 : 0 < sp ∧ sp ≤ 7) (h1 : (u 131 12).toInt = A) (h2 : (u 131 4).toInt = i) (h3 : (u 131 11).toInt = 1) : MT b n L u (lex b n L p) := by
  have hr := LM_rn hx hi he (by omega)
  obtain ⟨a1, a2, a3, a4, a5, a6, a7, a8⟩ := hx
  rw [lex_eq (Tok_word hq hL hr (a4 g0 g1) (by omega))]
  exact ⟨hB, h3, h1, fun _ => h2, fun _ => a7 g0 g1 g2.2, fun h => by simp at h, fun h => by simp at h, fun _ => ⟨hr.1, hi, by show i ≤ A + 7; omega, a4 g0 g1⟩, fun h => by simp at h, fun h => by simp at h, by simp⟩
theorem MT_nbr {b : Nat → Int} {n L p A i : Nat} {sm al sp wd : Int} {u : Tau} (hx : LM b A i sm al sp wd (u 131 14).toInt) (hB : MBy b n L u) (hq : Fst b n p A) (hL : ¬ (L < n ∧ L ≤ A)) (hi : i ≤ n) (he : i < n → ¬ aln (b i)) (g0 : al = 1) (g1 : sm = 0) (g2 : 0 < sp ∧ sp ≤ 2) (h1 : (u 131 12).toInt = A) (h2 : (u 131 4).toInt = i) (h3 : (u 131 11).toInt = 2) : MT b n L u (lex b n L p) := by
  have hr := LM_rn hx hi he (by omega)
  obtain ⟨a1, a2, a3, a4, a5, a6, a7, a8⟩ := hx
  rw [lex_eq (Tok_nbr hq hL hr (a5 g0 g1) (by omega))]
  exact ⟨hB, h3, h1, fun _ => h2, fun h => by simp at h, fun _ => a8 g0 g1 g2.2, fun h => by simp at h, fun h => by simp at h, fun _ => ⟨hr.1, hi⟩, fun h => by simp at h, by simp⟩
theorem MT_odd {b : Nat → Int} {n L p A i : Nat} {sm al sp wd nu : Int} {u : Tau} (hx : LM b A i sm al sp wd nu) (hB : MBy b n L u) (hq : Fst b n p A) (hL : ¬ (L < n ∧ L ≤ A)) (hi : i ≤ n) (he : i < n → ¬ aln (b i)) (hs : (sm = 1 ∧ low (b A)) ∨ (sm = 0 ∧ dig (b A))) (g0 : 0 < sp) (g1 : al = 0 ∨ (al = 1 ∧ sm = 1 ∧ 7 < sp) ∨ (al = 1 ∧ sm = 0 ∧ 2 < sp)) (h1 : (u 131 12).toInt = A) (h3 : (u 131 11).toInt = 4) : MT b n L u (lex b n L p) := by
  have hr := LM_rn hx hi he g0
  obtain ⟨a1, a2, a3, a4, a5, a6, a7, a8⟩ := hx
  have hA : A < i := hr.1
  rw [lex_eq (Tok_odd hq hL hr (fun h => ?_) (fun h => ?_))]
  · exact ⟨hB, h3, h1, fun h => by simp at h, fun h => by simp at h, fun h => by simp at h, fun h => by simp at h, fun h => by simp at h, fun h => by simp at h, fun h => by simp at h, by simp⟩
  · rcases g1 with g | g | g
    · exact (a6 g).1 h.1
    · omega
    · have h4 : low (b A) := h.1 A (Nat.le_refl _) hA
      omega
  · rcases g1 with g | g | g
    · exact (a6 g).2 h.1
    · have h4 : dig (b A) := h.1 A (Nat.le_refl _) hA
      omega
    · omega
def PKf (bb : Nat → Int) (nb : Nat) (v r : Int32) : Prop := (v.toInt < nb → r.toInt = bb v.toInt.toNat ∧ 0 ≤ bb v.toInt.toNat ∧ bb v.toInt.toNat ≤ 255) ∧ ((nb : Int) ≤ v.toInt → r.toInt = -1)
theorem PK_at {bb : Nat → Int} {nb : Nat} {v r : Int32} (h : PKf bb nb v r) (hv : v.toInt < nb) : r.toInt = bb v.toInt.toNat ∧ 0 ≤ bb v.toInt.toNat ∧ bb v.toInt.toNat ≤ 255 := h.1 hv
theorem PK_in {bb : Nat → Int} {nb : Nat} {v r : Int32} (h : PKf bb nb v r) (h0 : 0 ≤ r.toInt) : v.toInt < nb ∧ r.toInt = bb v.toInt.toNat := by
  by_cases e : v.toInt < nb
  · exact ⟨e, (h.1 e).1⟩
  · have := h.2 (by omega); omega
theorem PK_out {bb : Nat → Int} {nb : Nat} {v r : Int32} (h : PKf bb nb v r) (h0 : r.toInt < 0) : (nb : Int) ≤ v.toInt := by
  by_cases e : v.toInt < nb
  · have := h.1 e; omega
  · omega
theorem LM_b {b : Nat → Int} {A i : Nat} {sm al sp wd nu : Int} (h : LM b A i sm al sp wd nu) : A ≤ i ∧ sp = (i : Int) - A := ⟨h.1, h.2.1⟩
theorem LM_0q {bb : Nat → Int} {A sm al sp nu : Int32} {u : Tau} {s : Int64} (h1 : al.toInt = 1) (h2 : sp.toInt = 0) (h3 : nu.toInt = 0) (h4 : qof u 131 17 = s) (h5 : s = Int64.ofNat 0) : LM bb A.toInt.toNat A.toInt.toNat sm.toInt al.toInt sp.toInt (qof u 131 17).toInt nu.toInt :=
  LM_0 bb _ h1 h2 (by rw [h4, h5]; rfl) h3
theorem LM_upq {bb : Nat → Int} {A i i' sm al al' sp sp' : Int32} {wd wd' nu nu' : Int} (h : LM bb A.toInt.toNat i.toInt.toNat sm.toInt al.toInt sp.toInt wd nu) (hs : (sm.toInt = 1 ∧ low (bb A.toInt.toNat)) ∨ (sm.toInt = 0 ∧ dig (bb A.toInt.toNat))) (hc : aln (bb i.toInt.toNat))
    (ha : (al'.toInt = 1 ∧ al.toInt = 1 ∧ ((sm.toInt = 1 ∧ low (bb i.toInt.toNat)) ∨ (sm.toInt = 0 ∧ dig (bb i.toInt.toNat)))) ∨ (al'.toInt = 0 ∧ (al.toInt = 0 ∨ (sm.toInt = 1 ∧ dig (bb i.toInt.toNat)) ∨ (sm.toInt = 0 ∧ low (bb i.toInt.toNat)))))
    (hw : al.toInt = 1 → sm.toInt = 1 → sp.toInt ≤ 6 → wd' = wd * 256 + bb i.toInt.toNat) (hn : al.toInt = 1 → sm.toInt = 0 → sp.toInt ≤ 1 → nu' = nu * 10 + (bb i.toInt.toNat - 48)) (hi0 : 0 ≤ i.toInt) (hi : i'.toInt = i.toInt + 1) (hsp : sp'.toInt = sp.toInt + 1) : LM bb A.toInt.toNat i'.toInt.toNat sm.toInt al'.toInt sp'.toInt wd' nu' := by
  have e : i'.toInt.toNat = i.toInt.toNat + 1 := by clear h hs hc ha hw hn; omega
  rw [e, hsp]
  exact LM_up h hs hc ha hw hn
theorem LM_hw {bb : Nat → Int} {A i : Nat} {sm al sp nu : Int} {t u : Tau} {s r : Int64} {x y : Int32} (hx : LM bb A i sm al sp (qof t 131 17).toInt nu) (h1 : qof t 131 17 = s) (hy : y.toInt = 8) (hr : r = (s <<< (y.toInt64 &&& 63)) ||| x.toInt64) (h2 : qof u 131 17 = r) (hxb : x.toInt = bb i) (hb : 0 ≤ bb i ∧ bb i ≤ 255) : al = 1 → sm = 1 → sp ≤ 6 → (qof u 131 17).toInt = (qof t 131 17).toInt * 256 + bb i := by
  intro g0 g1 g6
  have q := LM_wd hx g0 g1 g6
  rw [h1] at q
  rw [h2, h1, L256 hy hr q (by rw [hxb]; exact hb), hxb]
theorem LM_hn {bb : Nat → Int} {A i : Nat} {sm al sp wd : Int} {nu w1 w2 r c x d : Int32} (hx : LM bb A i sm al sp wd nu.toInt) (h10 : c.toInt = 10) (h1 : w1 = c * nu) (h2 : w2 = w1 + x) (h48 : d.toInt = 48) (h3 : r = w2 - d) (hxb : x.toInt = bb i) (hb : 0 ≤ bb i ∧ bb i ≤ 255) : al = 1 → sm = 0 → sp ≤ 1 → r.toInt = nu.toInt * 10 + (bb i - 48) := by
  intro g0 g1 g6
  have q := LM_nu hx g0 g1 g6
  clear hx g0 g1 g6
  have e1 : w1.toInt = 10 * nu.toInt := by rw [h1, Int32.toInt_mul, h10, Int.bmod_eq_of_le (by omega) (by omega)]
  have e2 : w2.toInt = 10 * nu.toInt + bb i := by rw [h2, Int32.toInt_add, e1, hxb, Int.bmod_eq_of_le (by omega) (by omega)]
  rw [h3, Int32.toInt_sub, e2, h48, Int.bmod_eq_of_le (by omega) (by omega)]
  omega
theorem LM_pos {b : Nat → Int} {n A i : Nat} {sm al sp wd nu : Int} (h : LM b A i sm al sp wd nu) (hs : (sm = 1 ∧ low (b A)) ∨ (sm = 0 ∧ dig (b A))) (he : i < n → ¬ aln (b i)) (hA : A < n) : 0 < sp := by
  have h1 := h.1
  have h2 := h.2.1
  clear h
  by_cases e : A = i
  · exfalso
    subst e
    have h3 := he hA
    rcases hs with ⟨_, h4⟩ | ⟨_, h4⟩
    · exact h3 (Or.inl h4)
    · exact h3 (Or.inr h4)
  · omega
def HAp (al' al sm c : Int) : Prop := (al' = 1 ∧ al = 1 ∧ ((sm = 1 ∧ low c) ∨ (sm = 0 ∧ dig c))) ∨ (al' = 0 ∧ (al = 0 ∨ (sm = 1 ∧ dig c) ∨ (sm = 0 ∧ low c)))
def HWp (al sm sp w w' c : Int) : Prop := al = 1 → sm = 1 → sp ≤ 6 → w' = w * 256 + c
def HNp (al sm sp n n' c : Int) : Prop := al = 1 → sm = 0 → sp ≤ 1 → n' = n * 10 + (c - 48)
def NLp (lm nb : Nat) (p : Int32) : Prop := ¬ (lm < nb ∧ (lm : Int) ≤ p.toInt)
theorem NLp_u {lm nb : Nat} {p : Int32} (h : NLp lm nb p) (h0 : 0 ≤ p.toInt) : ¬ (lm < nb ∧ lm ≤ p.toInt.toNat) := fun q => h ⟨q.1, by have := q.2; omega⟩
