section R2
variable {p : Program} {l : Launch} {e : Env} {Rr : Room} {s : State} {m : MethodId} {args : Array Value} {below : List Frame} {meth : Method} {c : Code} {H : Heap} {locs : List Loc} {cells slots : Nat} {Q : State → Prop}
variable {cc : ByteArray} {nL pc : Nat} {ls : Array Slot} {rest st As : List Value} {G : Gx} {own : String} {τ : Tau}
variable {n index k K ci : Nat}
theorem r_zald {i : Int32} (S : Sx G p m c cc nL s args own) (X : Xd G s H locs τ) (hk : k < NC) (hkd : kd k = K) (hs : ∀ q, (shL G k (τ k) q)[K]? = some (.inl (G.2.1 2, n, .inl (τ k)))) (hin : 0 ≤ i.toInt ∧ i.toInt < n) (hdg : decode cc pc = .ok (.baload, 1))
    (kk : ∀ x : Int32, τ k i.toNatClampNeg = x → W p l e Rr s m args below meth c H locs cells slots Q (F0 m (pc + 1) ls (.int x :: rest))) : W p l e Rr s m args below meth c H locs cells slots Q (F0 m pc ls (.int i :: .ref (G.2.2.2.1 k) :: rest)) := by
  obtain ⟨⟨hx, hb, hml, hown, hts⟩, hK, hD, hE⟩ := S
  obtain ⟨⟨q, hq, hP⟩, hS⟩ := X
  have hw : (wl G τ q)[k]? = some (G.2.2.2.1 k, .inl (G.2.1 2, n, .inl (τ k))) := by rw [wl_at hk, sh_of hkd (hs (q k))]
  exact va_zald hx hb hK hP k 2 hw rfl (vp_in_iff.mpr hin) hdg (kk _ rfl)
theorem r_bald {i : Int32} (S : Sx G p m c cc nL s args own) (X : Xd G s H locs τ) (hk : k < NC) (hkd : kd k = K) (hs : ∀ q, (shL G k (τ k) q)[K]? = some (.inl (G.2.1 3, n, .inl (τ k)))) (hin : 0 ≤ i.toInt ∧ i.toInt < n) (hdg : decode cc pc = .ok (.baload, 1))
    (kk : ∀ x : Int32, τ k i.toNatClampNeg = x → W p l e Rr s m args below meth c H locs cells slots Q (F0 m (pc + 1) ls (.int x :: rest))) : W p l e Rr s m args below meth c H locs cells slots Q (F0 m pc ls (.int i :: .ref (G.2.2.2.1 k) :: rest)) := by
  obtain ⟨⟨hx, hb, hml, hown, hts⟩, hK, hD, hE⟩ := S
  obtain ⟨⟨q, hq, hP⟩, hS⟩ := X
  have hw : (wl G τ q)[k]? = some (G.2.2.2.1 k, .inl (G.2.1 3, n, .inl (τ k))) := by rw [wl_at hk, sh_of hkd (hs (q k))]
  exact va_bald hx hb hK hP k 3 hw rfl (vp_in_iff.mpr hin) hdg (kk _ rfl)
theorem nar_bool {v : Int32} (r : R 0 1 v) : vp_nar .boolean v = v := by
  have h : v = 0 ∨ v = 1 := by
    rcases (show v.toInt = 0 ∨ v.toInt = 1 by omega) with h | h
    · exact Or.inl (Int32.toInt_inj.mp h)
    · exact Or.inr (Int32.toInt_inj.mp h)
  rcases h with rfl | rfl <;> rfl
theorem nar_byte {v : Int32} (r : R (-128) 127 v) : vp_nar .byte v = v := by
  rw [vp_nar_byte]
  apply Int32.toInt_inj.mp
  rw [Int8.toInt_toInt32, Int32.toInt_toInt8]
  exact Int.bmod_eq_of_le (by omega) (by omega)
theorem r_zast {i x : Int32} (S : Sx G p m c cc nL s args own) (X : Xd G s H locs τ) (hk : k < NC) (hkd : kd k = K) (hs : ∀ t q, (shL G k t q)[K]? = some (.inl (G.2.1 2, n, .inl t))) (hin : 0 ≤ i.toInt ∧ i.toInt < n) (hn : R 0 1 x) (hdg : decode cc pc = .ok (.bastore, 1))
    (kk : ∀ (u : Tau) (H1 : Heap) (locs1 : List Loc), Mu τ u k i.toNatClampNeg x → Xd G s H1 locs1 u → W p l e Rr s m args below meth c H1 locs1 cells slots Q (F0 m (pc + 1) ls rest)) : W p l e Rr s m args below meth c H locs cells slots Q (F0 m pc ls (.int x :: .int i :: .ref (G.2.2.2.1 k) :: rest)) := by
  obtain ⟨⟨hx, hb, hml, hown, hts⟩, hK, hD, hE⟩ := S
  obtain ⟨⟨q, hq, hP⟩, hS⟩ := X
  have hw : (wl G τ q)[k]? = some (G.2.2.2.1 k, .inl (G.2.1 2, n, .inl (τ k))) := by rw [wl_at hk, sh_of hkd (hs _ (q k))]
  refine va_zast hx hb hK hP (wl_D τ q hD) hS k 2 hw rfl (vp_in_iff.mpr hin) hdg (fun H1 locs1 hP1 hD1 hS1 => ?_)
  rw [nar_bool hn] at hP1
  refine kk (tu τ k (upd (τ k) i.toNatClampNeg x)) H1 locs1 (Mu_tu τ k _ x) ⟨⟨q, hq.trans (qof_tu hk).symm, ?_⟩, hS1⟩
  rw [← wl_set (sh_of hkd (hs _ (q k)))]; exact hP1
theorem r_bast {i x : Int32} (S : Sx G p m c cc nL s args own) (X : Xd G s H locs τ) (hk : k < NC) (hkd : kd k = K) (hs : ∀ t q, (shL G k t q)[K]? = some (.inl (G.2.1 3, n, .inl t))) (hin : 0 ≤ i.toInt ∧ i.toInt < n) (hn : R (-128) 127 x) (hdg : decode cc pc = .ok (.bastore, 1))
    (kk : ∀ (u : Tau) (H1 : Heap) (locs1 : List Loc), Mu τ u k i.toNatClampNeg x → Xd G s H1 locs1 u → W p l e Rr s m args below meth c H1 locs1 cells slots Q (F0 m (pc + 1) ls rest)) : W p l e Rr s m args below meth c H locs cells slots Q (F0 m pc ls (.int x :: .int i :: .ref (G.2.2.2.1 k) :: rest)) := by
  obtain ⟨⟨hx, hb, hml, hown, hts⟩, hK, hD, hE⟩ := S
  obtain ⟨⟨q, hq, hP⟩, hS⟩ := X
  have hw : (wl G τ q)[k]? = some (G.2.2.2.1 k, .inl (G.2.1 3, n, .inl (τ k))) := by rw [wl_at hk, sh_of hkd (hs _ (q k))]
  refine va_bast hx hb hK hP (wl_D τ q hD) hS k 3 hw rfl (vp_in_iff.mpr hin) hdg (fun H1 locs1 hP1 hD1 hS1 => ?_)
  rw [nar_byte hn] at hP1
  refine kk (tu τ k (upd (τ k) i.toNatClampNeg x)) H1 locs1 (Mu_tu τ k _ x) ⟨⟨q, hq.trans (qof_tu hk).symm, ?_⟩, hS1⟩
  rw [← wl_set (sh_of hkd (hs _ (q k)))]; exact hP1
theorem r_i2b {x : Int32} (S : Sx G p m c cc nL s args own) (hdg : decode cc pc = .ok (.i2b, 1)) (kk : ∀ z : Int32, R (-128) 127 z → W p l e Rr s m args below meth c H locs cells slots Q (F0 m (pc + 1) ls (.int z :: rest))) : W p l e Rr s m args below meth c H locs cells slots Q (F0 m pc ls (.int x :: rest)) := by
  refine lv_i2b S.1.1 S.1.2.1 hdg rfl (kk _ ?_)
  have h := Int8.le_toInt x.toInt8
  have h2 := Int8.toInt_le x.toInt8
  rw [← Int8.toInt_toInt32] at h h2
  exact ⟨h, h2⟩
theorem r_lald {i : Int32} (S : Sx G p m c cc nL s args own) (X : Xd G s H locs τ) (hk : k < NC) (hkd : kd k = K) (hs : ∀ q, (shL G k (τ k) q)[K]? = some (.inl (G.2.1 1, n, .inr (.inl q)))) (hin : 0 ≤ i.toInt ∧ i.toInt < n) (hdg : decode cc pc = .ok (.laload, 1))
    (kk : ∀ x : Int64, qof τ k i.toNatClampNeg = x → W p l e Rr s m args below meth c H locs cells slots Q (F0 m (pc + 1) ls (.long x :: rest))) : W p l e Rr s m args below meth c H locs cells slots Q (F0 m pc ls (.int i :: .ref (G.2.2.2.1 k) :: rest)) := by
  obtain ⟨⟨hx, hb, hml, hown, hts⟩, hK, hD, hE⟩ := S
  obtain ⟨⟨q, hq, hP⟩, hS⟩ := X
  have hw : (wl G τ q)[k]? = some (G.2.2.2.1 k, .inl (G.2.1 1, n, .inr (.inl (q k)))) := by rw [wl_at hk, sh_of hkd (hs (q k))]
  exact va_lald hx hb hK hP k 1 hw rfl (vp_in_iff.mpr hin) hdg (kk _ (by rw [hq]))
theorem r_last {i : Int32} {x : Int64} (S : Sx G p m c cc nL s args own) (X : Xd G s H locs τ) (hk : k < NC) (hkd : kd k = K) (hs : ∀ q, (shL G k (τ k) q)[K]? = some (.inl (G.2.1 1, n, .inr (.inl q)))) (hin : 0 ≤ i.toInt ∧ i.toInt < n) (hdg : decode cc pc = .ok (.lastore, 1))
    (kk : ∀ (u : Tau) (H1 : Heap) (locs1 : List Loc), Ml τ u k (vp_updL (qof τ k) i.toNatClampNeg x) → Xd G s H1 locs1 u → W p l e Rr s m args below meth c H1 locs1 cells slots Q (F0 m (pc + 1) ls rest)) : W p l e Rr s m args below meth c H locs cells slots Q (F0 m pc ls (.long x :: .int i :: .ref (G.2.2.2.1 k) :: rest)) := by
  obtain ⟨⟨hx, hb, hml, hown, hts⟩, hK, hD, hE⟩ := S
  obtain ⟨⟨q, hq, hP⟩, hS⟩ := X
  have hw : (wl G τ q)[k]? = some (G.2.2.2.1 k, .inl (G.2.1 1, n, .inr (.inl (q k)))) := by rw [wl_at hk, sh_of hkd (hs (q k))]
  refine va_last hx hb hK hP (wl_D τ q hD) hS k 1 hw rfl (vp_in_iff.mpr hin) hdg (fun H1 locs1 hP1 hD1 hS1 => ?_)
  refine kk (tl τ k (vp_updL (qof τ k) i.toNatClampNeg x)) H1 locs1 (Ml_tl τ k _) ⟨⟨qu q k (vp_updL (q k) i.toNatClampNeg x), ?_, ?_⟩, hS1⟩
  · rw [qof_tl, hq]
  · rw [wl_tl, ← wl_setq (sh_of hkd (hs _))]; exact hP1
theorem r_getJ {j : Nat} (S : Sx G p m c cc nL s args own) (X : Xd G s H locs τ) (hk : k < NC) (hkd : kd k = K) (lk : Lk own index ci j) (hs : ∀ q, ∃ fs, (shL G k (τ k) q)[K]? = some (.inr (ci, fs)) ∧ fs[j]? = some (.long (q j))) (hdg : decode cc pc = .ok (.getfield index, 3))
    (kk : ∀ x : Int64, qof τ k j = x → W p l e Rr s m args below meth c H locs cells slots Q (F0 m (pc + 3) ls (.long x :: rest))) : W p l e Rr s m args below meth c H locs cells slots Q (F0 m pc ls (.ref (G.2.2.2.1 k) :: rest)) := by
  obtain ⟨⟨hx, hb, hml, hown, hts⟩, hK, hD, hE⟩ := S
  obtain ⟨⟨q, hq, hP⟩, hS⟩ := X
  obtain ⟨C, ref, T, N, ty0, hc, hj, hin, hty, hnm, hl, hsame⟩ := lk
  obtain ⟨fs, h1, h2⟩ := hs (q k)
  have hw : (wl G τ q)[k]? = some (G.2.2.2.1 k, .inr (ci, fs)) := by rw [wl_at hk, sh_of hkd h1]
  refine va_get hx hb hts hin hown hK hP k hw hc j hj (hts _ hl) (fun x hf => ?_) h2 hdg (kk _ (by rw [hq]))
  rcases hsame with h | h
  · rw [h]; exact hf
  · exact u_same (hts _ h) _ hf
theorem r_putJ {j : Nat} {x : Int64} (S : Sx G p m c cc nL s args own) (X : Xd G s H locs τ) (hk : k < NC) (hkd : kd k = K) (lk : Lk own index ci j)
    (hs : ∀ q, ∃ fs, (shL G k (τ k) q)[K]? = some (.inr (ci, fs)) ∧ j < fs.length ∧ (shL G k (τ k) (vp_updL q j x))[K]? = some (.inr (ci, fs.set j (.long x)))) (hf : ∀ C T N, vwCl[ci]? = some (C, T, N) → (T j).2.2.2 = false ∧ parseFieldDescriptor (T j).2.2.1 = some .long) (hdg : decode cc pc = .ok (.putfield index, 3))
    (kk : ∀ (u : Tau) (H1 : Heap) (locs1 : List Loc), Ml τ u k (vp_updL (qof τ k) j x) → Xd G s H1 locs1 u → W p l e Rr s m args below meth c H1 locs1 cells slots Q (F0 m (pc + 3) ls rest)) : W p l e Rr s m args below meth c H locs cells slots Q (F0 m pc ls (.long x :: .ref (G.2.2.2.1 k) :: rest)) := by
  obtain ⟨⟨hx, hb, hml, hown, hts⟩, hK, hD, hE⟩ := S
  obtain ⟨⟨q, hq, hP⟩, hS⟩ := X
  obtain ⟨C, ref, T, N, ty0, hc, hj, hin, hty, hnm, hl, hsame⟩ := lk
  obtain ⟨fs, h1, h2, h3⟩ := hs (q k)
  obtain ⟨f1, f2⟩ := hf C T N hc
  have hw : (wl G τ q)[k]? = some (G.2.2.2.1 k, .inr (ci, fs)) := by rw [wl_at hk, sh_of hkd h1]
  refine va_put hx hb hts hin ty0 hty hnm hown hK hP (wl_D τ q hD) hS k hw hc j hj (hts _ hl) (fun x hf => ?_) f1 f2 rfl rfl h2 hdg (fun H1 locs1 hP1 hD1 hS1 => ?_)
  · rcases hsame with h | h
    · rw [h]; exact hf
    · exact u_same (hts _ h) _ hf
  · refine kk (tl τ k (vp_updL (qof τ k) j x)) H1 locs1 (Ml_tl τ k _) ⟨⟨qu q k (vp_updL (q k) j x), ?_, ?_⟩, hS1⟩
    · rw [qof_tl, hq]
    · rw [wl_tl, ← wl_setq (sh_of hkd h3)]; exact hP1
theorem r_lcmp {x y : Int64} (S : Sx G p m c cc nL s args own) (hdg : decode cc pc = .ok (.lcmp, 1)) (kk : ∀ z : Int32, R (-1) 1 z → (z.toInt = 0 ↔ x = y) → W p l e Rr s m args below meth c H locs cells slots Q (F0 m (pc + 1) ls (.int z :: rest))) : W p l e Rr s m args below meth c H locs cells slots Q (F0 m pc ls (.long y :: .long x :: rest)) := by
  refine W.lcmp S.1.1 S.1.2.1 hdg (kk _ ?_ ?_)
  · unfold lg_cmp
    split
    · exact ⟨by decide, by decide⟩
    · split
      · exact ⟨by decide, by decide⟩
      · exact ⟨by decide, by decide⟩
  · unfold lg_cmp
    split
    · rename_i h
      refine ⟨fun e => absurd e (by decide), fun e => ?_⟩
      subst e
      exact absurd (Int64.lt_iff_toInt_lt.mp h) (by omega)
    · split
      · rename_i h; exact ⟨fun _ => h, fun _ => rfl⟩
      · rename_i h; exact ⟨fun e => absurd e (by decide), fun e => absurd e h⟩
theorem r_alen {x : vp_A} {t0 : Nat} {ty : FieldType} (S : Sx G p m c cc nL s args own) (X : Xd G s H locs τ) (hk : k < NC) (hkd : kd k = K) (hs : ∀ q, ∃ f, (shL G k (τ k) q)[K]? = some (.inl (G.2.1 t0, n, f))) (ht : (tysG G)[t0]? = some (G.2.1 t0, ty)) (hn : (Int32.ofNat n).toInt = n) (hdg : decode cc pc = .ok (.arraylength, 1))
    (kk : ∀ v : Int32, v.toInt = n → W p l e Rr s m args below meth c H locs cells slots Q (F0 m (pc + 1) ls (.int v :: rest))) : W p l e Rr s m args below meth c H locs cells slots Q (F0 m pc ls (.ref (G.2.2.2.1 k) :: rest)) := by
  obtain ⟨⟨hx, hb, hml, hown, hts⟩, hK, hD, hE⟩ := S
  obtain ⟨⟨q, hq, hP⟩, hS⟩ := X
  obtain ⟨f, h1⟩ := hs (q k)
  have hw : (wl G τ q)[k]? = some (G.2.2.2.1 k, .inl (G.2.1 t0, n, f)) := by rw [wl_at hk, sh_of hkd h1]
  exact va_alen hx hb hK hP k t0 hw ht rfl hdg (kk _ hn)
end R2
