theorem r_i2bq {p : Program} {l : Launch} {e : Env} {Rr : Room} {s : State} {m : MethodId} {args : Array Value} {below : List Frame} {meth : Method} {c : Code} {H : Heap} {locs : List Loc} {cells slots : Nat} {Q : State → Prop} {cc : ByteArray} {nL pc : Nat} {ls : Array Slot} {rest : List Value} {G : Gx} {own : String} {x : Int32} (S : Sx G p m c cc nL s args own) (hdg : decode cc pc = .ok (.i2b, 1)) (kk : ∀ z : Int32, R (-128) 127 z → z.toInt % 256 = x.toInt % 256 → W p l e Rr s m args below meth c H locs cells slots Q (F0 m (pc + 1) ls (.int z :: rest))) : W p l e Rr s m args below meth c H locs cells slots Q (F0 m pc ls (.int x :: rest)) := by
  refine lv_i2b S.1.1 S.1.2.1 hdg rfl (kk _ ?_ (i2b_mod x))
  have h := Int8.le_toInt x.toInt8
  have h2 := Int8.toInt_le x.toInt8
  rw [← Int8.toInt_toInt32] at h h2
  exact ⟨h, h2⟩
theorem AP_st {τ t u : Tau} {c l l' n : Nat} {f : Nat → Int} (e : l' = l) (g : ∀ j, t c j = τ c j) (h : AP t u c l' n f) : AP τ u c l n f := by
  subst e
  exact ⟨fun j hj => (h.1 j hj).trans (g j), h.2⟩
