/-! words as numbers: 0 is null, i + 1 the i-th constant -/
theorem wd_0 {G : Gx} {x : Int32} (h : x.toInt = 0) : wd G x = none := by
  have e : x = 0 := Int32.toInt_inj.mp h
  unfold wd; rw [if_pos e]
theorem wd_s {G : Gx} {x : Int32} {i : Nat} (h : x.toInt = (i : Int) + 1) : wd G x = some (G.2.2.1 i) := by
  have e : ¬ x = 0 := fun q => by rw [q] at h; have : (0 : Int32).toInt = 0 := rfl; omega
  have e2 := tn (i := x) (by omega)
  unfold wd; rw [if_neg e, show x.toNatClampNeg - 1 = i by omega]
theorem wd_inj {G : Gx} {U : State} {H : Heap} (hE : EnW G U H) {x : Int32} {i : Nat} (hx : R 0 24 x) (hi : i < 24) (h : wd G x = some (G.2.2.1 i)) : x.toInt = (i : Int) + 1 := by
  have e2 := tn (i := x) hx.1
  by_cases e : x.toInt = 0
  · rw [wd_0 e] at h; cases h
  · rw [wd_s (i := x.toNatClampNeg - 1) (by omega)] at h
    have := hE.1.2 (x.toNatClampNeg - 1) i (show x.toNatClampNeg - 1 < 24 by omega) hi (Option.some.inj h)
    omega
section RW2
variable {p : Program} {l : Launch} {e : Env} {Rr : Room} {s : State} {m : MethodId} {args : Array Value} {below : List Frame} {meth : Method} {c : Code} {H : Heap} {locs : List Loc} {cells slots : Nat} {Q : State → Prop}
variable {cc : ByteArray} {nL pc : Nat} {ls : Array Slot} {rest st As : List Value} {G : Gx} {own : String} {τ : Tau} {n k K : Nat} {x : Int32}
theorem r_wald {i : Int32} (S : Sx G p m c cc nL s args own) (X : Xd G s H locs τ) (hk : k < NC) (hkd : kd k = K) (hs : ∀ q, (shL G k (τ k) q)[K]? = some (.inl (G.2.1 4, n, .inr (.inr (.inr (.inr fun j => wd G (τ k j))))))) (hin : 0 ≤ i.toInt ∧ i.toInt < n) (hdg : decode cc pc = .ok (.aaload, 1))
    (kk : ∀ x : Int32, τ k i.toNatClampNeg = x → W p l e Rr s m args below meth c H locs cells slots Q (F0 m (pc + 1) ls (va_rf (wd G x) :: rest))) : W p l e Rr s m args below meth c H locs cells slots Q (F0 m pc ls (.int i :: .ref (G.2.2.2.1 k) :: rest)) := by
  obtain ⟨⟨hx, hb, hml, hown, hts⟩, hK, hD, hE⟩ := S
  obtain ⟨⟨q, hq, hP⟩, hS⟩ := X
  have hw : (wl G τ q)[k]? = some (G.2.2.2.1 k, .inl (G.2.1 4, n, .inr (.inr (.inr (.inr fun j => wd G (τ k j)))))) := by rw [wl_at hk, sh_of hkd (hs (q k))]
  exact va_aldq hx hb hK hP k 4 hw rfl (vp_in_iff.mpr hin) hdg (kk _ rfl)
theorem r_wast {i : Int32} (S : Sx G p m c cc nL s args own) (X : Xd G s H locs τ) (hk : k < NC) (hkd : kd k = K) (hs : ∀ t q, (shL G k t q)[K]? = some (.inl (G.2.1 4, n, .inr (.inr (.inr (.inr fun j => wd G (t j))))))) (hin : 0 ≤ i.toInt ∧ i.toInt < n) (hx : R 0 24 x) (hdg : decode cc pc = .ok (.aastore, 1))
    (kk : ∀ (u : Tau) (H1 : Heap) (locs1 : List Loc), Mu τ u k i.toNatClampNeg x → Xd G s H1 locs1 u → W p l e Rr s m args below meth c H1 locs1 cells slots Q (F0 m (pc + 1) ls rest)) : W p l e Rr s m args below meth c H locs cells slots Q (F0 m pc ls (va_rf (wd G x) :: .int i :: .ref (G.2.2.2.1 k) :: rest)) := by
  obtain ⟨⟨hxx, hb, hml, hown, hts⟩, hK, hD, hE, hN⟩ := S
  obtain ⟨⟨q, hq, hP⟩, hS⟩ := X
  have hw : (wl G τ q)[k]? = some (G.2.2.2.1 k, .inl (G.2.1 4, n, .inr (.inr (.inr (.inr fun j => wd G (τ k j)))))) := by rw [wl_at hk, sh_of hkd (hs _ (q k))]
  have hup : ∀ v, wd G x = v → (fun j => wd G (upd (τ k) i.toNatClampNeg x j)) = va_up (fun j => wd G (τ k j)) i.toNatClampNeg v := by
    intro v hv
    funext j
    unfold upd va_up
    by_cases h : j = i.toNatClampNeg
    · rw [if_pos h, if_pos h, hv]
    · rw [if_neg h, if_neg h]
  have fin : ∀ (v : Option Nat), wd G x = v → ∀ (H1 : Heap) (locs1 : List Loc), va_P G.1 vwCl ((wl G τ q).set k (G.2.2.2.1 k, .inl (G.2.1 4, n, .inr (.inr (.inr (.inr (va_up (fun j => wd G (τ k j)) i.toNatClampNeg v))))))) H1 → va_S G.2.2.2.2 s.heap H1 locs1 → W p l e Rr s m args below meth c H1 locs1 cells slots Q (F0 m (pc + 1) ls rest) := by
    intro v hv H1 locs1 hP1 hS1
    refine kk (tu τ k (upd (τ k) i.toNatClampNeg x)) H1 locs1 (Mu_tu τ k _ x) ⟨⟨q, hq.trans (qof_tu hk).symm, ?_⟩, hS1⟩
    rw [← wl_set (sh_of hkd (hs _ (q k))), hup v hv]; exact hP1
  by_cases h0 : x.toInt = 0
  · have hv := wd_0 (G := G) h0
    rw [hv]
    exact va_astqN hxx hb hK hP (wl_D τ q hD) hS k 4 hw rfl (vp_in_iff.mpr hin) hdg (fun H1 locs1 hP1 hD1 hS1 => fin none hv H1 locs1 hP1 hS1)
  · have e2 := tn (i := x) hx.1
    have hv := wd_s (G := G) (x := x) (i := x.toNatClampNeg - 1) (by omega)
    rw [hv]
    have hr := va_recvE hE.1 (i := x.toNatClampNeg - 1) (show x.toNatClampNeg - 1 < 24 by omega) hS
    exact vb_astq (C := "OpinionFerry$Word") hxx hb hK hP (wl_D τ q hD) hS k 4 hw rfl hr (fun a b h1 h2 => by rw [h1] at h2; cases h2; exact Vm.assignable_self _ _) (vp_in_iff.mpr hin) hdg (fun H1 locs1 hP1 hD1 hS1 => fin _ hv H1 locs1 hP1 hS1)
theorem r_wacmp_ne {i : Nat} {off : Int} {tgt : Nat} (S : Sx G p m c cc nL s args own) (hx : R 0 24 x) (hi : i < 24) (hdg : decode cc pc = .ok (.if_acmp .ne off, 3)) (ht : (pc : Int) + off = (tgt : Int))
    (kt : x.toInt ≠ (i : Int) + 1 → W p l e Rr s m args below meth c H locs cells slots Q (F0 m tgt ls rest)) (kf : x.toInt = (i : Int) + 1 → W p l e Rr s m args below meth c H locs cells slots Q (F0 m (pc + 3) ls rest)) : W p l e Rr s m args below meth c H locs cells slots Q (F0 m pc ls (.ref (G.2.2.1 i) :: va_rf (wd G x) :: rest)) :=
  lv_acmp_ne (rx := wd G x) (ry := some (G.2.2.1 i)) S.1.1 S.1.2.1 hdg ht (fun h => kt fun q => h (wd_s q)) (fun h => kf (wd_inj S.2.2.2.1 hx hi h))
theorem r_wacmp_eq {i : Nat} {off : Int} {tgt : Nat} (S : Sx G p m c cc nL s args own) (hx : R 0 24 x) (hi : i < 24) (hdg : decode cc pc = .ok (.if_acmp .eq off, 3)) (ht : (pc : Int) + off = (tgt : Int))
    (kt : x.toInt = (i : Int) + 1 → W p l e Rr s m args below meth c H locs cells slots Q (F0 m tgt ls rest)) (kf : x.toInt ≠ (i : Int) + 1 → W p l e Rr s m args below meth c H locs cells slots Q (F0 m (pc + 3) ls rest)) : W p l e Rr s m args below meth c H locs cells slots Q (F0 m pc ls (.ref (G.2.2.1 i) :: va_rf (wd G x) :: rest)) :=
  lv_acmp_eq (rx := wd G x) (ry := some (G.2.2.1 i)) S.1.1 S.1.2.1 hdg ht (fun h => kt (wd_inj S.2.2.2.1 hx hi h)) (fun h => kf fun q => h (wd_s q))
theorem r_wnn {off : Int} {tgt : Nat} (S : Sx G p m c cc nL s args own) (hx : R 0 24 x) (hdg : decode cc pc = .ok (.ifnonnull off, 3)) (ht : (pc : Int) + off = (tgt : Int))
    (kt : x.toInt ≠ 0 → W p l e Rr s m args below meth c H locs cells slots Q (F0 m tgt ls rest)) (kf : x.toInt = 0 → W p l e Rr s m args below meth c H locs cells slots Q (F0 m (pc + 3) ls rest)) : W p l e Rr s m args below meth c H locs cells slots Q (F0 m pc ls (va_rf (wd G x) :: rest)) := by
  by_cases h0 : x.toInt = 0
  · rw [wd_0 (G := G) h0]
    exact lv_ifnonnullN S.1.1 S.1.2.1 hdg (kf h0)
  · have e2 := tn (i := x) hx.1
    rw [wd_s (G := G) (x := x) (i := x.toNatClampNeg - 1) (by omega)]
    exact lv_ifnonnull S.1.1 S.1.2.1 hdg ht (kt h0)
theorem r_waload_n {k : Fin 4} {i : Nat} (S : Sx G p m c cc nL s args own) (hdg : decode cc pc = .ok (.aload_n k, 1)) (hi : (k : Nat) = i) (hl : ls[i]? = some (.val (va_rf (wd G x)))) (kk : W p l e Rr s m args below meth c H locs cells slots Q (F0 m (pc + 1) ls (va_rf (wd G x) :: rest))) : W p l e Rr s m args below meth c H locs cells slots Q (F0 m pc ls rest) := by
  cases h : wd G x with
  | none => rw [h] at hl kk; exact lv_aload_nN S.1.1 S.1.2.1 hdg hi hl kk
  | some a => rw [h] at hl kk; exact lv_aload_n S.1.1 S.1.2.1 hdg hi hl kk
theorem r_waload {i : Nat} (S : Sx G p m c cc nL s args own) (hdg : decode cc pc = .ok (.aload i, 2)) (hl : ls[i]? = some (.val (va_rf (wd G x)))) (kk : W p l e Rr s m args below meth c H locs cells slots Q (F0 m (pc + 2) ls (va_rf (wd G x) :: rest))) : W p l e Rr s m args below meth c H locs cells slots Q (F0 m pc ls rest) := by
  cases h : wd G x with
  | none => rw [h] at hl kk; exact lv_aloadN S.1.1 S.1.2.1 hdg hl kk
  | some a => rw [h] at hl kk; exact lv_aload S.1.1 S.1.2.1 hdg hl kk
theorem r_wastore_n {k : Fin 4} {i : Nat} {lv lv' : List (Nat × Value)} (S : Sx G p m c cc nL s args own) (hdg : decode cc pc = .ok (.astore_n k, 1)) (hi : (k : Nat) = i) (h : lv_has ls nL lv) (hn : i < nL) (hl : (i, va_rf (wd G x)) :: lv.filter (fun q => !(q.1 == i) && !(q.1 + 1 == i && q.2.category == 2)) = lv') (kk : ∀ ls : Array Slot, lv_has ls nL lv' → W p l e Rr s m args below meth c H locs cells slots Q (F0 m (pc + 1) ls rest)) : W p l e Rr s m args below meth c H locs cells slots Q (F0 m pc ls (va_rf (wd G x) :: rest)) := by
  cases h2 : wd G x with
  | none => rw [h2] at hl; exact lv_astore_nN S.1.1 S.1.2.1 hdg hi h hn hl kk
  | some a => rw [h2] at hl; exact lv_astore_n S.1.1 S.1.2.1 hdg hi h hn hl kk
theorem r_wastore {i : Nat} {lv lv' : List (Nat × Value)} (S : Sx G p m c cc nL s args own) (hdg : decode cc pc = .ok (.astore i, 2)) (h : lv_has ls nL lv) (hn : i < nL) (hl : (i, va_rf (wd G x)) :: lv.filter (fun q => !(q.1 == i) && !(q.1 + 1 == i && q.2.category == 2)) = lv') (kk : ∀ ls : Array Slot, lv_has ls nL lv' → W p l e Rr s m args below meth c H locs cells slots Q (F0 m (pc + 2) ls rest)) : W p l e Rr s m args below meth c H locs cells slots Q (F0 m pc ls (va_rf (wd G x) :: rest)) := by
  cases h2 : wd G x with
  | none => rw [h2] at hl; exact lv_astoreN S.1.1 S.1.2.1 hdg h hn hl kk
  | some a => rw [h2] at hl; exact lv_astore S.1.1 S.1.2.1 hdg h hn hl kk
end RW2
/-- a method that answers a word -/
def Cw (l : Launch) (G : Gx) (y : MethodName) (cc : ByteArray) (n : Nat) (ret : Option FieldType) (f w : Nat) (as : List Value) (τ : Tau) (post : Int32 → Tau → Prop) : Prop :=
  Met l y (Ws y cc n ret) (Rm f w) (va_Pc as (Bs G τ)) (va_Qq (fun r u => ∃ x : Int32, r = wd G x ∧ post x u) (Bs G) G.2.2.2.2) 0 0 G.2.2.2.2
section RW3
variable {p : Program} {l : Launch} {e : Env} {Rr : Room} {s : State} {m : MethodId} {args : Array Value} {below : List Frame} {meth : Method} {c : Code} {H : Heap} {locs : List Loc} {cells slots : Nat} {Q : State → Prop}
variable {cc : ByteArray} {nL pc : Nat} {ls : Array Slot} {rest st As : List Value} {G : Gx} {own : String} {τ : Tau} {n k K : Nat} {x : Int32}
theorem r_wret {post : Int32 → Tau → Prop} {cn : String} (S : Sx G p m c cc nL s args own) (hr : meth.sig.returnType = some (.object cn)) (hlk : meth.locks = false) (X : Xd G s H locs τ) (hp : post x τ) (hdg : decode cc pc = .ok (.areturn, 1)) :
    W p l e Rr s m args below meth c H locs cells slots (MQ below (va_Qq (fun r u => ∃ x : Int32, r = wd G x ∧ post x u) (Bs G) G.2.2.2.2) args s cells slots G.2.2.2.2) (F0 m pc ls [va_rf (wd G x)]) :=
  W.aret S.1.1 S.1.2.1 hr (Or.inl ⟨cn, rfl⟩) (va_rf_or _) (fun t ht hW => ⟨⟨wd G x, τ, rfl, ⟨x, rfl, hp⟩, Bs_in S X ht hW⟩, X.2.F ht⟩) X.2.2.2 hdg hlk
theorem r_kw {post : Int32 → Tau → Prop} {a : Array Value} (hr : va_Run p l e Rr s m args below meth c H locs cells slots 0 0 (F0 m pc ls st) rest (va_Qq (fun r u => ∃ x : Int32, r = wd G x ∧ post x u) (Bs G) G.2.2.2.2 a) G.2.2.2.2) (X : Xd G s H locs τ)
    (kk : ∀ (x : Int32) (u : Tau) (H1 : Heap) (locs1 : List Loc), post x u → Xd G s H1 locs1 u → W p l e Rr s m args below meth c H1 locs1 cells slots Q (F0 m (pc + 3) ls (va_rf (wd G x) :: rest))) : W p l e Rr s m args below meth c H locs cells slots Q (F0 m pc ls st) :=
  va_callq hr X.2 (fun _ _ h => h) (fun _ h => h) (fun r u t H1 locs1 ht hvm hw hB hz1 hk1 hS => by
    obtain ⟨x, rfl, hp⟩ := hw
    exact kk x u H1 locs1 hp ⟨by rw [← ht]; exact hB.1, hS⟩)
theorem cw_eq {i : Nat} (hx : x.toInt = (i : Int) + 1) : Value.ref (G.2.2.1 i) = va_rf (wd G x) := by rw [wd_s hx]; rfl
theorem nw_eq (hx : x.toInt = 0) : Value.null = va_rf (wd G x) := by rw [wd_0 hx]; rfl
theorem wcat : (va_rf (wd G x)).category = 1 := by cases wd G x <;> rfl
end RW3
theorem wx_c (n : Nat) (hn : n < 24) : ∃ x : Int32, x.toInt = (n : Int) + 1 ∧ R 0 24 x := by
  have e : (nI (n + 1)).toInt = ((n + 1 : Nat) : Int) := nI_toInt (by omega)
  exact ⟨nI (n + 1), by omega, by omega, by omega⟩
theorem wx_0 : ∃ x : Int32, x.toInt = 0 ∧ R 0 24 x := ⟨0, rfl, by decide, by decide⟩
section RW4
variable {p : Program} {l : Launch} {e : Env} {Rr : Room} {s : State} {m : MethodId} {args : Array Value} {below : List Frame} {meth : Method} {c : Code} {H : Heap} {locs : List Loc} {cells slots : Nat} {Q : State → Prop}
variable {cc : ByteArray} {nL pc : Nat} {ls : Array Slot} {rest st As : List Value} {G : Gx} {own : String} {τ : Tau} {n k K : Nat} {x : Int32}
theorem w_fork {f : Value → Prop} (hx : R 0 24 x) (k0 : x.toInt = 0 → f .null) (k1 : ∀ n : Nat, n < 24 → x.toInt = (n : Int) + 1 → f (.ref (G.2.2.1 n))) : f (va_rf (wd G x)) := by
  by_cases h0 : x.toInt = 0
  · rw [← nw_eq h0]; exact k0 h0
  · have e2 := tn (i := x) hx.1
    have h1 : x.toInt = ((x.toNatClampNeg - 1 : Nat) : Int) + 1 := by omega
    rw [← cw_eq h1]; exact k1 _ (by omega) h1
theorem r_wald2 {i : Int32} (S : Sx G p m c cc nL s args own) (X : Xd G s H locs τ) (hk : k < NC) (hkd : kd k = K) (hs : ∀ q, (shL G k (τ k) q)[K]? = some (.inl (G.2.1 4, n, .inr (.inr (.inr (.inr fun j => wd G (τ k j))))))) (hin : 0 ≤ i.toInt ∧ i.toInt < n) (hI : ∀ x, τ k i.toNatClampNeg = x → R 0 24 x) (hdg : decode cc pc = .ok (.aaload, 1))
    (k0 : ∀ x : Int32, τ k i.toNatClampNeg = x → x.toInt = 0 → W p l e Rr s m args below meth c H locs cells slots Q (F0 m (pc + 1) ls (.null :: rest)))
    (k1 : ∀ (x : Int32) (n : Nat), τ k i.toNatClampNeg = x → n < 24 → x.toInt = (n : Int) + 1 → W p l e Rr s m args below meth c H locs cells slots Q (F0 m (pc + 1) ls (.ref (G.2.2.1 n) :: rest))) : W p l e Rr s m args below meth c H locs cells slots Q (F0 m pc ls (.int i :: .ref (G.2.2.2.1 k) :: rest)) :=
  r_wald S X hk hkd hs hin hdg (fun x z => w_fork (f := fun v => W p l e Rr s m args below meth c H locs cells slots Q (F0 m (pc + 1) ls (v :: rest))) (hI x z) (k0 x z) (fun n h1 h2 => k1 x n z h1 h2))
theorem r_kw2 {post : Int32 → Tau → Prop} {a : Array Value} (hr : va_Run p l e Rr s m args below meth c H locs cells slots 0 0 (F0 m pc ls st) rest (va_Qq (fun r u => ∃ x : Int32, r = wd G x ∧ post x u) (Bs G) G.2.2.2.2 a) G.2.2.2.2) (X : Xd G s H locs τ) (hp : ∀ x u, post x u → R 0 24 x)
    (k0 : ∀ (x : Int32) (u : Tau) (H1 : Heap) (locs1 : List Loc), post x u → Xd G s H1 locs1 u → x.toInt = 0 → W p l e Rr s m args below meth c H1 locs1 cells slots Q (F0 m (pc + 3) ls (.null :: rest)))
    (k1 : ∀ (x : Int32) (u : Tau) (H1 : Heap) (locs1 : List Loc) (n : Nat), post x u → Xd G s H1 locs1 u → n < 24 → x.toInt = (n : Int) + 1 → W p l e Rr s m args below meth c H1 locs1 cells slots Q (F0 m (pc + 3) ls (.ref (G.2.2.1 n) :: rest))) : W p l e Rr s m args below meth c H locs cells slots Q (F0 m pc ls st) :=
  r_kw hr X (fun x u H1 locs1 h1 h2 => w_fork (f := fun v => W p l e Rr s m args below meth c H1 locs1 cells slots Q (F0 m (pc + 3) ls (v :: rest))) (hp x u h1) (k0 x u H1 locs1 h1 h2) (fun n h3 h4 => k1 x u H1 locs1 n h1 h2 h3 h4))
theorem r_cacmp_ne {i j : Nat} {off : Int} {tgt : Nat} (S : Sx G p m c cc nL s args own) (hj : j < 24) (hi : i < 24) (hdg : decode cc pc = .ok (.if_acmp .ne off, 3)) (ht : (pc : Int) + off = (tgt : Int))
    (kt : j ≠ i → W p l e Rr s m args below meth c H locs cells slots Q (F0 m tgt ls rest)) (kf : j = i → W p l e Rr s m args below meth c H locs cells slots Q (F0 m (pc + 3) ls rest)) : W p l e Rr s m args below meth c H locs cells slots Q (F0 m pc ls (.ref (G.2.2.1 i) :: .ref (G.2.2.1 j) :: rest)) :=
  lv_acmp_ne (rx := some (G.2.2.1 j)) (ry := some (G.2.2.1 i)) S.1.1 S.1.2.1 hdg ht (fun h => kt fun q => h (by rw [q])) (fun h => kf (S.2.2.2.1.1.2 j i hj hi (Option.some.inj h)))
theorem r_cacmp_eq {i j : Nat} {off : Int} {tgt : Nat} (S : Sx G p m c cc nL s args own) (hj : j < 24) (hi : i < 24) (hdg : decode cc pc = .ok (.if_acmp .eq off, 3)) (ht : (pc : Int) + off = (tgt : Int))
    (kt : j = i → W p l e Rr s m args below meth c H locs cells slots Q (F0 m tgt ls rest)) (kf : j ≠ i → W p l e Rr s m args below meth c H locs cells slots Q (F0 m (pc + 3) ls rest)) : W p l e Rr s m args below meth c H locs cells slots Q (F0 m pc ls (.ref (G.2.2.1 i) :: .ref (G.2.2.1 j) :: rest)) :=
  lv_acmp_eq (rx := some (G.2.2.1 j)) (ry := some (G.2.2.1 i)) S.1.1 S.1.2.1 hdg ht (fun h => kt (S.2.2.2.1.1.2 j i hj hi (Option.some.inj h))) (fun h => kf fun q => h (by rw [q]))
theorem r_nacmp_ne {a : Nat} {off : Int} {tgt : Nat} (S : Sx G p m c cc nL s args own) (hdg : decode cc pc = .ok (.if_acmp .ne off, 3)) (ht : (pc : Int) + off = (tgt : Int))
    (kt : W p l e Rr s m args below meth c H locs cells slots Q (F0 m tgt ls rest)) : W p l e Rr s m args below meth c H locs cells slots Q (F0 m pc ls (.ref a :: .null :: rest)) :=
  lv_acmp_ne (rx := none) (ry := some a) S.1.1 S.1.2.1 hdg ht (fun _ => kt) (fun h => by cases h)
theorem r_nacmp_eq {a : Nat} {off : Int} {tgt : Nat} (S : Sx G p m c cc nL s args own) (hdg : decode cc pc = .ok (.if_acmp .eq off, 3)) (ht : (pc : Int) + off = (tgt : Int))
    (kf : W p l e Rr s m args below meth c H locs cells slots Q (F0 m (pc + 3) ls rest)) : W p l e Rr s m args below meth c H locs cells slots Q (F0 m pc ls (.ref a :: .null :: rest)) :=
  lv_acmp_eq (rx := none) (ry := some a) S.1.1 S.1.2.1 hdg ht (fun h => by cases h) (fun _ => kf)
end RW4
section RW5
variable {p : Program} {l : Launch} {e : Env} {Rr : Room} {s : State} {m : MethodId} {args : Array Value} {below : List Frame} {meth : Method} {c : Code} {H : Heap} {locs : List Loc} {cells slots : Nat} {Q : State → Prop}
variable {cc : ByteArray} {nL pc index : Nat} {ls : Array Slot} {rest : List Value} {G : Gx} {own : String} {τ : Tau} {x : Int32}
/-- the plan that a sentence's text speaks of -/
theorem r_putP (S : Sx G p m c cc nL s args own) (X : Xd G s H locs τ) (lk : Lk own index 6 5) (hdg : decode cc pc = .ok (.putfield index, 3))
    (kk : ∀ (τ' : Tau) (H1 : Heap) (locs1 : List Loc) (x : Int32), x.toInt = 1 → Mu τ τ' 16 5 x → Xd G s H1 locs1 τ' → W p l e Rr s m args below meth c H1 locs1 cells slots Q (F0 m (pc + 3) ls rest)) : W p l e Rr s m args below meth c H locs cells slots Q (F0 m pc ls (.ref (G.2.2.2.1 23) :: .ref (G.2.2.2.1 16) :: rest)) := by
  obtain ⟨⟨hx, hb, hml, hown, hts⟩, hK, hD, hE⟩ := S
  obtain ⟨⟨q, hq, hP⟩, hS⟩ := X
  obtain ⟨C, ref, T, N, ty0, hc, hj, hin, hty, hnm, hl, hsame⟩ := lk
  cases hc
  have hw : (wl G τ q)[16]? = some (G.2.2.2.1 16, sh G 16 (τ 16) (q 16)) := wl_at (by decide)
  have h3 : sh G 16 (upd (τ 16) 5 1) (q 16) = .inr (6, [.ref (G.2.2.2.1 1), .int (τ 16 1), .int (τ 16 2), .ref (G.2.2.2.1 17), .int (τ 16 4), .ref (G.2.2.2.1 23)]) := rfl
  have h1 : sh G 16 (τ 16) (q 16) = .inr (6, [.ref (G.2.2.2.1 1), .int (τ 16 1), .int (τ 16 2), .ref (G.2.2.2.1 17), .int (τ 16 4), va_rf (if τ 16 5 = 0 then none else some (G.2.2.2.1 23))]) := rfl
  rw [h1] at hw
  refine va_put hx hb hts hin ty0 hty hnm hown hK hP (wl_D τ q hD) hS 16 hw rfl 5 hj (hts _ hl) (fun x hf => ?_) rfl (ty := .object "OpinionFerry$Plan") rfl rfl rfl (Nat.le_of_ble_eq_true rfl) hdg (fun H1 locs1 hP1 hD1 hS1 => ?_)
  · rcases hsame with h | h
    · rw [h]; exact hf
    · exact u_same (hts _ h) _ hf
  · refine kk (tu τ 16 (upd (τ 16) 5 1)) H1 locs1 1 rfl (Mu_tu τ 16 5 1) ⟨⟨q, hq.trans (qof_tu (by decide)).symm, ?_⟩, hS1⟩
    rw [← wl_set h3]; exact hP1
theorem r_getP (S : Sx G p m c cc nL s args own) (X : Xd G s H locs τ) (lk : Lk own index 6 5) (hz : τ 16 5 = x) (h1 : x.toInt = 1) (hdg : decode cc pc = .ok (.getfield index, 3))
    (kk : W p l e Rr s m args below meth c H locs cells slots Q (F0 m (pc + 3) ls (.ref (G.2.2.2.1 23) :: rest))) : W p l e Rr s m args below meth c H locs cells slots Q (F0 m pc ls (.ref (G.2.2.2.1 16) :: rest)) := by
  refine r_get (K := 16) (v := .ref (G.2.2.2.1 23)) S X (by decide) rfl lk (fun q => ⟨_, rfl, ?_⟩) hdg kk
  have e : x = 1 := Int32.toInt_inj.mp h1
  show some (va_rf (if τ 16 5 = 0 then none else some (G.2.2.2.1 23))) = _
  rw [hz, e]; rfl
end RW5
section RW6
variable {p : Program} {l : Launch} {e : Env} {Rr : Room} {s : State} {m : MethodId} {args : Array Value} {below : List Frame} {meth : Method} {c : Code} {H : Heap} {locs : List Loc} {cells slots : Nat} {Q : State → Prop}
variable {cc : ByteArray} {nL pc : Nat} {ls : Array Slot} {rest : List Value} {G : Gx} {own : String} {τ : Tau} {n k K : Nat} {x : Int32}
theorem r_castc {i : Int32} {v : Nat} (S : Sx G p m c cc nL s args own) (X : Xd G s H locs τ) (hk : k < NC) (hkd : kd k = K) (hs : ∀ t q, (shL G k t q)[K]? = some (.inl (G.2.1 4, n, .inr (.inr (.inr (.inr fun j => wd G (t j))))))) (hin : 0 ≤ i.toInt ∧ i.toInt < n) (hv : x.toInt = (v : Int) + 1) (hx : R 0 24 x) (hdg : decode cc pc = .ok (.aastore, 1))
    (kk : ∀ (u : Tau) (H1 : Heap) (locs1 : List Loc), Mu τ u k i.toNatClampNeg x → Xd G s H1 locs1 u → W p l e Rr s m args below meth c H1 locs1 cells slots Q (F0 m (pc + 1) ls rest)) : W p l e Rr s m args below meth c H locs cells slots Q (F0 m pc ls (.ref (G.2.2.1 v) :: .int i :: .ref (G.2.2.2.1 k) :: rest)) := by
  rw [cw_eq (G := G) hv]; exact r_wast S X hk hkd hs hin hx hdg kk
theorem r_castn {i : Int32} (S : Sx G p m c cc nL s args own) (X : Xd G s H locs τ) (hk : k < NC) (hkd : kd k = K) (hs : ∀ t q, (shL G k t q)[K]? = some (.inl (G.2.1 4, n, .inr (.inr (.inr (.inr fun j => wd G (t j))))))) (hin : 0 ≤ i.toInt ∧ i.toInt < n) (hv : x.toInt = 0) (hx : R 0 24 x) (hdg : decode cc pc = .ok (.aastore, 1))
    (kk : ∀ (u : Tau) (H1 : Heap) (locs1 : List Loc), Mu τ u k i.toNatClampNeg x → Xd G s H1 locs1 u → W p l e Rr s m args below meth c H1 locs1 cells slots Q (F0 m (pc + 1) ls rest)) : W p l e Rr s m args below meth c H locs cells slots Q (F0 m pc ls (.null :: .int i :: .ref (G.2.2.2.1 k) :: rest)) := by
  rw [nw_eq (G := G) hv]; exact r_wast S X hk hkd hs hin hx hdg kk
theorem r_cretc {post : Int32 → Tau → Prop} {cn : String} {v : Nat} (S : Sx G p m c cc nL s args own) (hr : meth.sig.returnType = some (.object cn)) (hlk : meth.locks = false) (X : Xd G s H locs τ) (hp : post x τ) (hv : x.toInt = (v : Int) + 1) (hdg : decode cc pc = .ok (.areturn, 1)) :
    W p l e Rr s m args below meth c H locs cells slots (MQ below (va_Qq (fun r u => ∃ x : Int32, r = wd G x ∧ post x u) (Bs G) G.2.2.2.2) args s cells slots G.2.2.2.2) (F0 m pc ls [.ref (G.2.2.1 v)]) := by
  rw [cw_eq (G := G) hv]; exact r_wret S hr hlk X hp hdg
theorem r_cretn {post : Int32 → Tau → Prop} {cn : String} (S : Sx G p m c cc nL s args own) (hr : meth.sig.returnType = some (.object cn)) (hlk : meth.locks = false) (X : Xd G s H locs τ) (hp : post x τ) (hv : x.toInt = 0) (hdg : decode cc pc = .ok (.areturn, 1)) :
    W p l e Rr s m args below meth c H locs cells slots (MQ below (va_Qq (fun r u => ∃ x : Int32, r = wd G x ∧ post x u) (Bs G) G.2.2.2.2) args s cells slots G.2.2.2.2) (F0 m pc ls [.null]) := by
  rw [nw_eq (G := G) hv]; exact r_wret S hr hlk X hp hdg
end RW6
