/-- the first n numbers of cell d are those of cell k -/
def Cp (τ u : Tau) (k d n : Nat) : Prop := (∀ a, a ≠ d → ∀ b, u a b = τ a b) ∧ ∀ j, u d j = if j < n then τ k j else τ d j
theorem Inv_cp {τ u : Tau} {k d n K K2 : Nat} (h : Inv τ) (hc : Cp τ u k d n) (h1 : kd k = K) (h2 : kd d = K2) (hr : ∀ j x, Rg K j x → Rg K2 j x) : Inv u := by
  intro a b
  by_cases ha : a = d
  · subst ha
    rw [hc.2 b, h2]
    split
    · have := h k b; rw [h1] at this; exact hr _ _ this
    · have := h a b; rw [h2] at this; exact this
  · rw [hc.1 a ha b]; exact h a b
theorem Fr_cp {fs : List (Nat × Nat)} {cs : List Nat} {τ u v : Tau} {k d n : Nat} (h : Fr fs cs τ u) (hc : Cp u v k d n) (hz : cs.any (fun c => c == d) = true) : Fr fs cs τ v := fun a b hf => by
  have hn : a ≠ d := by
    intro e; subst e
    unfold fz at hf
    rw [hz, Bool.or_true] at hf; cases hf
  rw [hc.1 a hn b]; exact h a b hf
section R3
variable {p : Program} {l : Launch} {e : Env} {Rr : Room} {s : State} {m : MethodId} {args : Array Value} {below : List Frame} {meth : Method} {c : Code} {H : Heap} {locs : List Loc} {cells slots : Nat} {Q : State → Prop}
variable {cc : ByteArray} {nL pc : Nat} {ls : Array Slot} {rest st As : List Value} {G : Gx} {own : String} {τ : Tau}
variable {n index k K ci : Nat}
theorem r_copy {d K2 : Nat} {sp dp nn : Int32} (S : Sx G p m c cc nL s args own) (X : Xd G s H locs τ) (hk : k < NC) (hkd : kd k = K) (hd : d < NC) (hdd : kd d = K2) (hs : ∀ k t q, (shL G k t q)[K]? = some (.inl (G.2.1 0, n, .inl t))) (hs2 : ∀ k t q, (shL G k t q)[K2]? = some (.inl (G.2.1 0, n, .inl t))) (hsz : ls.size = nL)
    (hl : Cond.methodLink own index arraycopyName ∈ tbg) (hnat : Cond.native arraycopyName ∈ tbg) (hst : Cond.static arraycopyName ∈ tbg) (hini : Cond.initialized "java/lang/System" ∈ tbg) (h1 : sp.toInt = 0) (h2 : dp.toInt = 0) (h3 : nn.toInt = n) (hR : 1 ≤ Rr.frames ∧ (rest.map fun v => v.category).sum + (nativeFrameWords "java/lang/System" "arraycopy" 5 + 11) ≤ Rr.locals) (hdg : decode cc pc = .ok (.invokestatic index, 3))
    (kk : ∀ (u : Tau) (H1 : Heap) (locs1 : List Loc), Cp τ u k d n → Xd G s H1 locs1 u → W p l e Rr s m args below meth c H1 locs1 cells slots Q (F0 m (pc + 3) ls rest)) : W p l e Rr s m args below meth c H locs cells slots Q (F0 m pc ls (.int nn :: .int dp :: .ref (G.2.2.2.1 d) :: .int sp :: .ref (G.2.2.2.1 k) :: rest)) := by
  obtain ⟨⟨hx, hb, hml, hown, hts⟩, hK, hD, hE⟩ := S
  obtain ⟨⟨q, hq, hP⟩, hS⟩ := X
  have hw : (wl G τ q)[k]? = some (G.2.2.2.1 k, .inl (G.2.1 0, n, .inl (τ k))) := by rw [wl_at hk, sh_of hkd (hs _ _ (q k))]
  have hw2 : (wl G τ q)[d]? = some (G.2.2.2.1 d, .inl (G.2.1 0, n, .inl (τ d))) := by rw [wl_at hd, sh_of hdd (hs2 _ _ (q d))]
  have e1 : sp = 0 := Int32.toInt_inj.mp h1
  have e2 : dp = 0 := Int32.toInt_inj.mp h2
  have e3 : nn.toNatClampNeg = n := by show nn.toInt.toNat = n; omega
  have e0 : (0 : Int32).toNatClampNeg = 0 := rfl
  subst e1; subst e2
  refine va_copyi (ty := .int) hx hb (hml.trans hsz.symm) hown (hts _ hl) (hts _ hnat) (hts _ hst) (hts _ hini) hK hP (wl_D τ q hD) hS k d 0 0 hw hw2 rfl rfl rfl (by decide) (by decide) (fun h => by have := Int32.lt_iff_toInt_lt.mp h; have e : (0 : Int32).toInt = 0 := rfl; omega) (by rw [e0, e3]; omega) (by rw [e0, e3]; omega) (fun _ _ => rfl) hR.1 hR.2 hdg (fun H1 locs1 hP1 hD1 hS1 => ?_)
  rw [e0, e3] at hP1
  refine kk (tu τ d (va_cpy (τ k) (τ d) 0 0 n)) H1 locs1 ⟨fun a ha b => by simp [tu, ha], fun j => ?_⟩ ⟨⟨q, hq.trans (qof_tu hd).symm, ?_⟩, hS1⟩
  · simp [tu, va_cpy]
  · rw [← wl_set (sh_of hdd (hs2 _ _ (q d)))]; exact hP1
theorem r_copyJ {d : Nat} {sp dp nn : Int32} (S : Sx G p m c cc nL s args own) (X : Xd G s H locs τ) (hk : k < NC) (hkd : kd k = K) (hd : d < NC) (hdd : kd d = K) (hs : ∀ k t q, (shL G k t q)[K]? = some (.inl (G.2.1 1, n, .inr (.inl q)))) (hsz : ls.size = nL)
    (hl : Cond.methodLink own index arraycopyName ∈ tbg) (hnat : Cond.native arraycopyName ∈ tbg) (hst : Cond.static arraycopyName ∈ tbg) (hini : Cond.initialized "java/lang/System" ∈ tbg) (h1 : sp.toInt = 0) (h2 : dp.toInt = 0) (h3 : nn.toInt = n) (hR : 1 ≤ Rr.frames ∧ (rest.map fun v => v.category).sum + (nativeFrameWords "java/lang/System" "arraycopy" 5 + 11) ≤ Rr.locals) (hdg : decode cc pc = .ok (.invokestatic index, 3))
    (kk : ∀ (u : Tau) (H1 : Heap) (locs1 : List Loc), Ml τ u d (va_cpy (qof τ k) (qof τ d) 0 0 n) → Xd G s H1 locs1 u → W p l e Rr s m args below meth c H1 locs1 cells slots Q (F0 m (pc + 3) ls rest)) : W p l e Rr s m args below meth c H locs cells slots Q (F0 m pc ls (.int nn :: .int dp :: .ref (G.2.2.2.1 d) :: .int sp :: .ref (G.2.2.2.1 k) :: rest)) := by
  obtain ⟨⟨hx, hb, hml, hown, hts⟩, hK, hD, hE⟩ := S
  obtain ⟨⟨q, hq, hP⟩, hS⟩ := X
  have hw : (wl G τ q)[k]? = some (G.2.2.2.1 k, .inl (G.2.1 1, n, .inr (.inl (q k)))) := by rw [wl_at hk, sh_of hkd (hs _ _ (q k))]
  have hw2 : (wl G τ q)[d]? = some (G.2.2.2.1 d, .inl (G.2.1 1, n, .inr (.inl (q d)))) := by rw [wl_at hd, sh_of hdd (hs _ _ (q d))]
  have e1 : sp = 0 := Int32.toInt_inj.mp h1
  have e2 : dp = 0 := Int32.toInt_inj.mp h2
  have e3 : nn.toNatClampNeg = n := by show nn.toInt.toNat = n; omega
  have e0 : (0 : Int32).toNatClampNeg = 0 := rfl
  subst e1; subst e2
  refine va_copyl (ty := .long) hx hb (hml.trans hsz.symm) hown (hts _ hl) (hts _ hnat) (hts _ hst) (hts _ hini) hK hP (wl_D τ q hD) hS k d 1 1 hw hw2 rfl rfl rfl (by decide) (by decide) (fun h => by have := Int32.lt_iff_toInt_lt.mp h; have e : (0 : Int32).toInt = 0 := rfl; omega) (by rw [e0, e3]; omega) (by rw [e0, e3]; omega) (fun _ _ => rfl) hR.1 hR.2 hdg (fun H1 locs1 hP1 hD1 hS1 => ?_)
  rw [e0, e3] at hP1
  refine kk (tl τ d (va_cpy (qof τ k) (qof τ d) 0 0 n)) H1 locs1 (Ml_tl τ d _) ⟨⟨qu q d (va_cpy (q k) (q d) 0 0 n), ?_, ?_⟩, hS1⟩
  · rw [qof_tl, hq]
  · rw [wl_tl, ← wl_setq (sh_of hdd (hs _ _ _))]; exact hP1
theorem r_aldS {i : Int32} (S : Sx G p m c cc nL s args own) (X : Xd G s H locs τ) (hin : 0 ≤ i.toInt ∧ i.toInt < (8 : Nat)) (hdg : decode cc pc = .ok (.aaload, 1))
    (kk : ∀ j : Nat, j < 8 → i.toInt = j → W p l e Rr s m args below meth c H locs cells slots Q (F0 m (pc + 1) ls (.ref (G.2.2.2.1 (52 + 5 * j)) :: rest))) : W p l e Rr s m args below meth c H locs cells slots Q (F0 m pc ls (.int i :: .ref (G.2.2.2.1 51) :: rest)) := by
  obtain ⟨⟨hx, hb, hml, hown, hts⟩, hK, hD, hE⟩ := S
  obtain ⟨⟨q, hq, hP⟩, hS⟩ := X
  have hw : (wl G τ q)[51]? = some (G.2.2.2.1 51, .inl (G.2.1 5, 8, .inr (.inr (.inr (.inr fun j => some (G.2.2.2.1 (52 + 5 * j))))))) := by rw [wl_at (by decide), sh_of (K := 34) rfl rfl]
  have e : i.toNatClampNeg = i.toInt.toNat := rfl
  refine va_aldq hx hb hK hP 51 5 hw rfl (vp_in_iff.mpr hin) hdg (kk i.toNatClampNeg ?_ ?_)
  · omega
  · omega
theorem r_aldO {i : Int32} (S : Sx G p m c cc nL s args own) (X : Xd G s H locs τ) (hin : 0 ≤ i.toInt ∧ i.toInt < (2 : Nat)) (hdg : decode cc pc = .ok (.aaload, 1))
    (kk : ∀ j : Nat, j < 2 → i.toInt = j → W p l e Rr s m args below meth c H locs cells slots Q (F0 m (pc + 1) ls (.ref (G.2.2.2.1 (93 + 18 * j)) :: rest))) : W p l e Rr s m args below meth c H locs cells slots Q (F0 m pc ls (.int i :: .ref (G.2.2.2.1 92) :: rest)) := by
  obtain ⟨⟨hx, hb, hml, hown, hts⟩, hK, hD, hE⟩ := S
  obtain ⟨⟨q, hq, hP⟩, hS⟩ := X
  have hw : (wl G τ q)[92]? = some (G.2.2.2.1 92, .inl (G.2.1 6, 2, .inr (.inr (.inr (.inr fun j => some (G.2.2.2.1 (93 + 18 * j))))))) := by rw [wl_at (by decide), sh_of (K := 35) rfl rfl]
  have e : i.toNatClampNeg = i.toInt.toNat := rfl
  refine va_aldq hx hb hK hP 92 6 hw rfl (vp_in_iff.mpr hin) hdg (kk i.toNatClampNeg ?_ ?_)
  · omega
  · omega
theorem r_wst {i : Nat} (S : Sx G p m c cc nL s args own) (X : Xd G s H locs τ) (hi : i < 24) (hl : Cond.fieldLink own index "OpinionFerry$Word" (wnm.getD i "") "LOpinionFerry$Word;" ∈ tbg) (hdg : decode cc pc = .ok (.getstatic index, 3))
    (kk : W p l e Rr s m args below meth c H locs cells slots Q (F0 m (pc + 3) ls (.ref (G.2.2.1 i) :: rest))) : W p l e Rr s m args below meth c H locs cells slots Q (F0 m pc ls rest) :=
  va_gets S.1.1 S.1.2.1 (S.2.2.2.1.1.1 i hi).1 X.2 S.1.2.2.2.1 (S.1.2.2.2.2 _ hl) (fun _ h => h) hdg kk
theorem r_wsp {i : Nat} (S : Sx G p m c cc nL s args own) (X : Xd G s H locs τ) (hi : i < 24) (hl : Cond.fieldLink own index "OpinionFerry$Word" "spelling" "J" ∈ tbg) (hdg : decode cc pc = .ok (.getfield index, 3))
    (kk : ∀ x : Int64, spL.getD i 0 = x → W p l e Rr s m args below meth c H locs cells slots Q (F0 m (pc + 3) ls (.long x :: rest))) : W p l e Rr s m args below meth c H locs cells slots Q (F0 m pc ls (.ref (G.2.2.1 i) :: rest)) := by
  obtain ⟨cf, kf, fi, f, cell, h1, h2, h3, h4, h5, h6⟩ := S.2.2.2.1.2.1 i hi
  refine W.getf S.1.1 S.1.2.1 S.1.2.2.2.1 (S.1.2.2.2.2 _ hl) h1 h2 ?_ h4 h5 rfl rfl hdg (kk _ rfl)
  rw [X.2.2.1 _ (Array.getElem?_eq_some_iff.mp h3).1 h6]; exact h3
theorem r_abs {x : Int32} (S : Sx G p m c cc nL s args own) (hsz : ls.size = nL) (hl : Cond.methodLink own index Lib.Math.abs.name ∈ tbg) (hst : Cond.static Lib.Math.abs.name ∈ tbg) (hini : Cond.initialized "java/lang/Math" ∈ tbg) (hcode : Cond.code Lib.Math.abs.name Lib.Math.abs.code 1 (some .int) ∈ tbg) (hR : 1 ≤ Rr.frames ∧ (rest.map fun v => v.category).sum + 13 ≤ Rr.locals) (hf : cells ≤ Rr.cells ∧ slots ≤ Rr.slots) (hx : -2147483648 < x.toInt) (hdg : decode cc pc = .ok (.invokestatic index, 3))
    (kk : ∀ z : Int32, ((z.toInt = x.toInt ∧ 0 ≤ x.toInt) ∨ (z.toInt = -x.toInt ∧ x.toInt < 0)) → W p l e Rr s m args below meth c H locs cells slots Q (F0 m (pc + 3) ls (.int z :: rest))) : W p l e Rr s m args below meth c H locs cells slots Q (F0 m pc ls (.int x :: rest)) := by
  obtain ⟨⟨h1, hb, hml, hown, hts⟩, hK, hD, hE⟩ := S
  refine va_mabs h1 hb (hml.trans hsz.symm) hown (hts _ hl) (hts _ hst) (hts _ hini) (hts _ hcode) hR.1 hR.2 hf.1 hf.2 hdg (kk _ ?_)
  have e0 : (0 : Int32).toInt = 0 := rfl
  have hu := Int32.toInt_le x
  split
  · rename_i h
    have := Int32.le_iff_toInt_le.mp h
    exact Or.inl ⟨rfl, by omega⟩
  · rename_i h
    have h2 : x.toInt < 0 := by
      apply Int.not_le.mp
      intro q
      exact h (Int32.le_iff_toInt_le.mpr (by rw [e0]; exact q))
    refine Or.inr ⟨?_, h2⟩
    rw [Int32.toInt_sub, e0, Int.bmod_eq_of_le (by omega) (by omega)]; omega
theorem r_max {x y : Int32} (S : Sx G p m c cc nL s args own) (hsz : ls.size = nL) (hl : Cond.methodLink own index Lib.Math.max.name ∈ tbg) (hst : Cond.static Lib.Math.max.name ∈ tbg) (hini : Cond.initialized "java/lang/Math" ∈ tbg) (hcode : Cond.code Lib.Math.max.name Lib.Math.max.code 2 (some .int) ∈ tbg) (hR : 1 ≤ Rr.frames ∧ (rest.map fun v => v.category).sum + 13 ≤ Rr.locals) (hf : cells ≤ Rr.cells ∧ slots ≤ Rr.slots) (hdg : decode cc pc = .ok (.invokestatic index, 3))
    (kk : ∀ z : Int32, W p l e Rr s m args below meth c H locs cells slots Q (F0 m (pc + 3) ls (.int z :: rest))) : W p l e Rr s m args below meth c H locs cells slots Q (F0 m pc ls (.int y :: .int x :: rest)) := by
  obtain ⟨⟨h1, hb, hml, hown, hts⟩, hK, hD, hE⟩ := S
  exact va_mmax h1 hb (hml.trans hsz.symm) hown (hts _ hl) (hts _ hst) (hts _ hini) (hts _ hcode) hR.1 hR.2 hf.1 hf.2 hdg (kk _)
end R3
/-- with ASKS, one is raised -/
def WI (τ : Tau) : Prop := 0 < (τ 23 2).toInt → 0 ≤ (τ 30 8).toInt
theorem WI_eq {τ u : Tau} (h : WI τ) (e1 : u 23 2 = τ 23 2) (e2 : u 30 8 = τ 30 8) : WI u := by unfold WI; rw [e1, e2]; exact h
theorem WI_r {τ : Tau} {a b : Int32} (h : WI τ) (e1 : τ 23 2 = a) (e2 : τ 30 8 = b) (ra : R 1 9 a) (rb : R (-1) 8 b) : R 0 8 b := by
  unfold WI at h; rw [e1, e2] at h; exact ⟨h (by omega), rb.2⟩
theorem sub_of {x e n v m : Int32} (hv : v = x &&& n) (hn : n = e ^^^ m) (hm : m.toInt = -1) (h0 : v.toInt = 0) (he : R 0 1023 e) : R 0 1023 x := by
  have e1 : m = -1 := Int32.toInt_inj.mp hm
  have e2 : v = 0 := Int32.toInt_inj.mp h0
  subst e1
  obtain ⟨k, rfl, hk, ek⟩ := bn (x := e) (by omega)
  have hk2 : k < 1024 := by omega
  have h1 : x.toBitVec &&& (BitVec.ofNat 32 k ^^^ BitVec.allOnes 32) = 0#32 := by
    have := congrArg Int32.toBitVec (hv.symm.trans e2)
    rw [hn] at this
    exact this
  have key : ∀ a b : Bool, (a && (b ^^ true)) = false → (a && b) = a := by decide
  have h3 : x.toBitVec &&& BitVec.ofNat 32 k = x.toBitVec := by
    apply BitVec.eq_of_getLsbD_eq
    intro i hi
    have h4 := congrArg (fun b => BitVec.getLsbD b i) h1
    rw [BitVec.getLsbD_and]
    apply key
    simp only [BitVec.getLsbD_and, BitVec.getLsbD_xor, BitVec.getLsbD_allOnes, hi, decide_true, BitVec.getLsbD_zero] at h4
    exact h4
  have h5 : x.toBitVec.toNat ≤ k := by
    have h6 := congrArg BitVec.toNat h3
    rw [BitVec.toNat_and] at h6
    have h7 : (BitVec.ofNat 32 k).toNat = k := by rw [BitVec.toNat_ofNat]; exact Nat.mod_eq_of_lt (by omega)
    rw [h7] at h6
    rw [← h6]; exact Nat.and_le_right
  have e3 := bt_of (x := x) (by omega)
  exact ⟨by omega, by omega⟩
theorem WI_mk {τ : Tau} {a b : Int32} (e1 : τ 23 2 = a) (e2 : τ 30 8 = b) (h : 0 < a.toInt → 0 ≤ b.toInt) : WI τ := by unfold WI; rw [e1, e2]; exact h
theorem i_andle {x y z : Int32} {a b : Int} (h : z = x &&& y) (hx : R a b x) (hd : decide (0 ≤ a) = true) : z.toInt ≤ x.toInt := by
  have hd := of_decide_eq_true hd
  obtain ⟨e, hl⟩ := bt_nn (x := x) (by omega)
  have hz : z.toBitVec.toNat = x.toBitVec.toNat &&& y.toBitVec.toNat := by rw [h]; exact BitVec.toNat_and _ _
  have hle : z.toBitVec.toNat ≤ x.toBitVec.toNat := by rw [hz]; exact Nat.and_le_left
  have e2 := bt_of (x := z) (by omega)
  omega
/-- with ASKS, one is raised in each scene that is kept -/
def HI (τ : Tau) : Prop := ∀ j : Nat, j < 8 → ((j : Int) - (τ 0 8).toInt) % 8 < (τ 0 9).toInt → 0 < (τ 23 2).toInt → 0 ≤ (τ (52 + 5 * j) 8).toInt
theorem HI_eq {τ u : Tau} (h : HI τ) (e1 : u 23 2 = τ 23 2) (e2 : u 0 8 = τ 0 8) (e3 : u 0 9 = τ 0 9) (h0 : u 52 8 = τ 52 8) (h1 : u 57 8 = τ 57 8) (h2 : u 62 8 = τ 62 8) (h3 : u 67 8 = τ 67 8) (h4 : u 72 8 = τ 72 8) (h5 : u 77 8 = τ 77 8) (h6 : u 82 8 = τ 82 8) (h7 : u 87 8 = τ 87 8) : HI u := by
  intro j hj
  rw [e1, e2, e3]
  have he : u (52 + 5 * j) 8 = τ (52 + 5 * j) 8 := by
    rcases (show j = 0 ∨ j = 1 ∨ j = 2 ∨ j = 3 ∨ j = 4 ∨ j = 5 ∨ j = 6 ∨ j = 7 by omega) with rfl | rfl | rfl | rfl | rfl | rfl | rfl | rfl <;> assumption
  rw [he]; exact h j hj
/-- with ASKS, one is raised in each image -/
def IM (τ : Tau) : Prop := (0 < (τ 94 2).toInt → 0 ≤ (τ 101 8).toInt) ∧ (0 < (τ 112 2).toInt → 0 ≤ (τ 119 8).toInt)
theorem IM_eq {τ u : Tau} (h : IM τ) (e1 : u 94 2 = τ 94 2) (e2 : u 101 8 = τ 101 8) (e3 : u 112 2 = τ 112 2) (e4 : u 119 8 = τ 119 8) : IM u := by unfold IM; rw [e1, e2, e3, e4]; exact h
theorem i_remc {x y z : Int32} {a b n : Int} (h : z = x - x / y * y) (hx : R a b x) (hy : R n n y) (hd : decide (0 ≤ a ∧ 0 < n) = true) : z.toInt = x.toInt % n := by
  have hd := of_decide_eq_true hd
  obtain ⟨m, rfl, hm, e⟩ := bn (x := x) (by omega)
  obtain ⟨k, rfl, hk, e'⟩ := bn (x := y) (by omega)
  have hz : z = nI (m % k) := by rw [h]; exact pk_rem hm (by omega) hk
  have hle : m % k < k := Nat.mod_lt _ (by omega)
  have ez : z.toInt = ((m % k : Nat) : Int) := by rw [hz]; exact nI_toInt (by omega)
  have hn : n = (k : Int) := by omega
  rw [ez, e, hn, Int.natCast_emod]
