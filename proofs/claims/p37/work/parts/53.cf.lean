theorem upd_flf {f : Nat → Int32} {v i : Int32} (hi : 0 ≤ i.toInt) : upd (flf i.toNatClampNeg v f) i.toNatClampNeg v = flf (i.toNatClampNeg + 1) v f := by
  funext j
  unfold upd flf
  by_cases h : j = i.toNatClampNeg
  · rw [if_pos h, if_pos (by omega)]
  · rw [if_neg h]
    by_cases h2 : j < i.toNatClampNeg
    · rw [if_pos h2, if_pos (by omega)]
    · rw [if_neg h2, if_neg (by omega)]
theorem flf_0 {v : Int32} {f : Nat → Int32} : flf 0 v f = f := by
  funext j; unfold flf; rw [if_neg (by omega)]
set_option maxHeartbeats 4000000 in
theorem cf_fill (l : Launch) (G : Gx) (ws L : va_W) (k a n : Nat) (f : Nat → Int32) (v : Int32) (hn : n ≤ 3000) (hi : L[k]? = some (a, .inl (G.2.1 0, n, .inl f))) : Cc l G yJ7_fill_53178 cJ7_fill_53178 4 0 0 0 0 [.ref a, .int v] (ws ++ L) (fun u => u = ws ++ L.set k (a, .inl (G.2.1 0, n, .inl (flf n v f)))) := by
  unfold Cc
  refine Cc_of (own := RJ7) (by decide) rfl (Nat.le_of_ble_eq_true rfl) ?_
  intro p e s m below meth c ls S hr hlk hnm X hl
  have hl : lv_has ls 4 [(0, .ref a), (1, .int v)] := hl
  have hx := S.1.1
  have hb := S.1.2.1
  refine lv_iconst hx hb dJ7_fill_53178_0 rfl (c_i (n := 0) (by decide) (fun v1 z1 => ?_))
  refine lv_istore_n (lv' := [(2, .int v1), (0, .ref a), (1, .int v)]) hx hb dJ7_fill_53178_1 rfl hl (by decide) rfl (fun ls hl => ?_)
  refine lv_aload_n hx hb dJ7_fill_53178_2 rfl (lv_at hl 1 rfl) ?_
  have he : (ws ++ L)[ws.length + k]? = some (a, .inl (G.2.1 0, n, .inl f)) := by rw [ga]; exact hi
  refine va_alen hx hb S.2.1 X.1 (ws.length + k) 0 he rfl rfl dJ7_fill_53178_3 (c_i (n := n) (by
    show (Int32.ofNat n).toInt = n
    exact nI_toInt (by omega)) (fun v2 z2 => ?_))
  refine lv_istore_n (lv' := [(3, .int v2), (2, .int v1), (0, .ref a), (1, .int v)]) hx hb dJ7_fill_53178_4 rfl hl (by decide) rfl (fun ls hl => ?_)
  have key : ∀ (q : Nat) (H : Heap) (lc : List Loc) (ls : Array Slot) (i : Int32), Xc G s H lc (ws ++ L.set k (a, .inl (G.2.1 0, n, .inl (flf i.toNatClampNeg v f)))) → 0 ≤ i.toInt → i.toInt ≤ n → lv_has ls 4 [(2, .int i), (3, .int v2), (0, .ref a), (1, .int v)] → (n - i.toInt).toNat < q →
      W p l e (Rc 0 0 0 0) s m ([.ref a, .int v] : List Value).toArray below meth c H lc 0 0 (MQ below (va_Qv (fun u => u = ws ++ L.set k (a, .inl (G.2.1 0, n, .inl (flf n v f)))) (Bc G) G.2.2.2.2) ([.ref a, .int v] : List Value).toArray s 0 0 G.2.2.2.2) (F0 m 5 ls []) := by
    intro q
    induction q with
    | zero => intros; omega
    | succ q ih =>
      intro H lc ls i X h0 h1 hl hq
      have ti := tn h0
      refine lv_iload_n hx hb dJ7_fill_53178_5 rfl (lv_at hl 0 rfl) ?_
      refine lv_iload_n hx hb dJ7_fill_53178_6 rfl (lv_at hl 1 rfl) ?_
      refine lv_icmp_ge (tgt := 20) hx hb dJ7_fill_53178_7 (by decide) (fun h => ?_) (fun h => ?_)
      · have h := Int32.le_iff_toInt_le.mp h
        rw [show i.toNatClampNeg = n by omega] at X
        exact c_vret S hr hlk X rfl dJ7_fill_53178_20
      · have h : i.toInt < v2.toInt := Int.not_le.mp fun q => h (Int32.le_iff_toInt_le.mpr q)
        refine lv_aload_n hx hb dJ7_fill_53178_10 rfl (lv_at hl 2 rfl) ?_
        refine lv_iload_n hx hb dJ7_fill_53178_11 rfl (lv_at hl 0 rfl) ?_
        refine lv_iload_n hx hb dJ7_fill_53178_12 rfl (lv_at hl 3 rfl) ?_
        have hk : k < L.length := (List.getElem?_eq_some_iff.mp hi).1
        have he : (ws ++ L.set k (a, .inl (G.2.1 0, n, .inl (flf i.toNatClampNeg v f))))[ws.length + k]? = some (a, .inl (G.2.1 0, n, .inl (flf i.toNatClampNeg v f))) := by rw [ga, List.getElem?_set_self hk]
        refine va_iast hx hb S.2.1 X.1 X.2.1 X.2.2 (ws.length + k) 0 he rfl (vp_in_iff.mpr ⟨h0, by omega⟩) dJ7_fill_53178_13 (fun H1 lc1 hP hD hS => ?_)
        rw [sa, List.set_set, upd_flf h0] at hP hD
        refine lv_iinc hx hb dJ7_fill_53178_14 hl (k := 0) rfl rfl (by decide) rfl (fun ls hl => ?_)
        refine lv_goto (tgt := 5) hx hb dJ7_fill_53178_17 (by decide) ?_
        obtain ⟨i2, hi2⟩ : ∃ z, z = i + Int32.ofInt 1 := ⟨_, rfl⟩
        have hl : lv_has ls 4 [(2, .int i2), (3, .int v2), (0, .ref a), (1, .int v)] := by rw [hi2]; exact hl
        obtain ⟨e1, -⟩ := i_add (lo := 1) (hi := 3000) (x := i) (y := Int32.ofInt 1) (z := i2) (a := 0) (b := 2999) (c := 1) (d := 1) hi2 ⟨by omega, by omega⟩ ⟨by decide, by decide⟩ rfl
        have eo : (Int32.ofInt 1).toInt = 1 := by decide
        have t2 := tn (i := i2) (by omega)
        refine ih H1 lc1 ls i2 ?_ (by omega) (by omega) hl (by omega)
        rw [show i2.toNatClampNeg = i.toNatClampNeg + 1 by omega]
        exact ⟨hP, hD, hS⟩
  have t1 := tn (i := v1) (by omega)
  refine key _ s.heap [] ls v1 ?_ (by omega) (by omega) (lv_sub hl [1, 0, 2, 3] rfl) (Nat.lt_succ_self _)
  rw [show v1.toNatClampNeg = 0 by omega, flf_0]
  rw [show L.set k (a, .inl (G.2.1 0, n, .inl f)) = L by
    apply List.ext_getElem?
    intro j
    by_cases h : k = j
    · subst h; rw [List.getElem?_set_self (List.getElem?_eq_some_iff.mp hi).1, hi]
    · rw [List.getElem?_set_ne h]]
  exact X
theorem c_cong {G : Gx} {s : State} {H : Heap} {locs : List Loc} {ws L : va_W} {i a n : Nat} {cA : ClassId} {f g : Nat → Option Nat} (X : Xc G s H locs (ws ++ L)) (hi : L[i]? = some (a, .inl (cA, n, .inr (.inr (.inr (.inr f)))))) (he : ∀ j, j < n → f j = g j) : Xc G s H locs (ws ++ L.set i (a, .inl (cA, n, .inr (.inr (.inr (.inr g)))))) := by
  obtain ⟨hP, hD, hS⟩ := X
  have h0 : (ws ++ L)[ws.length + i]? = some (a, .inl (cA, n, .inr (.inr (.inr (.inr f))))) := by rw [ga]; exact hi
  refine ⟨?_, ?_, hS⟩
  · rw [← sa]
    intro k q hk
    by_cases h : ws.length + i = k
    · subst h
      rw [List.getElem?_set_self (List.getElem?_eq_some_iff.mp h0).1] at hk
      cases hk
      have h1 := hP _ _ h0
      have h2 : vp_cell cA (n, .inr (.inr (.inr (.inr f)))) = vp_cell cA (n, .inr (.inr (.inr (.inr g)))) := by
        rw [vp_cell_q, vp_cell_q]
        unfold arrV
        congr 1
        apply Array.ext
        · simp
        · intro j h3 h4
          simp at h3 ⊢
          rw [he j h3]
      show H[a]? = some (vp_cell _ _)
      rw [← h2]; exact h1
    · rw [List.getElem?_set_ne h] at hk
      exact hP k q hk
  · rw [← sa]; exact hD.set h0
section RCI
variable {p : Program} {l : Launch} {e : Env} {Rr : Room} {s : State} {m : MethodId} {args : Array Value} {below : List Frame} {meth : Method} {c : Code} {H : Heap} {locs : List Loc} {cells slots : Nat} {Q : State → Prop}
variable {cc : ByteArray} {nL pc : Nat} {ls : Array Slot} {rest : List Value} {G : Gx} {own : String} {ws L : va_W}
theorem c_ist {i n a : Nat} {f : Nat → Int32} {k x : Int32} (S : Sc G p m c cc nL s args own) (X : Xc G s H locs (ws ++ L)) (hi : L[i]? = some (a, .inl (G.2.1 0, n, .inl f))) (hk : 0 ≤ k.toInt ∧ k.toInt < n) (hdg : decode cc pc = .ok (.iastore, 1))
    (kk : ∀ (H1 : Heap) (locs1 : List Loc), Xc G s H1 locs1 (ws ++ L.set i (a, .inl (G.2.1 0, n, .inl (upd f k.toNatClampNeg x)))) → W p l e Rr s m args below meth c H1 locs1 cells slots Q (F0 m (pc + 1) ls rest)) : W p l e Rr s m args below meth c H locs cells slots Q (F0 m pc ls (.int x :: .int k :: .ref a :: rest)) := by
  obtain ⟨⟨hx, hb, hml, hown, hts⟩, hK, hA, hO, hN⟩ := S
  obtain ⟨hP, hD, hS⟩ := X
  have he : (ws ++ L)[ws.length + i]? = some (a, .inl (G.2.1 0, n, .inl f)) := by rw [ga]; exact hi
  refine va_iast hx hb hK hP hD hS (ws.length + i) 0 he rfl (vp_in_iff.mpr hk) hdg (fun H1 locs1 hP1 hD1 hS1 => ?_)
  rw [sa] at hP1 hD1
  exact kk H1 locs1 ⟨hP1, hD1, hS1⟩
end RCI
